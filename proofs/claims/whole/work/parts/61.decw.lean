theorem dL_addStreet_0 : decode cL_addStreet 0 = .ok (.aload_n 3, 1) := by decide +kernel
theorem dL_addStreet_1 : decode cL_addStreet 1 = .ok (.iconst 0, 1) := by decide +kernel
theorem dL_addStreet_2 : decode cL_addStreet 2 = .ok (.aload_n 0, 1) := by decide +kernel
theorem dL_addStreet_3 : decode cL_addStreet 3 = .ok (.iload_n 1, 1) := by decide +kernel
theorem dL_addStreet_4 : decode cL_addStreet 4 = .ok (.iload_n 2, 1) := by decide +kernel
theorem dL_addStreet_5 : decode cL_addStreet 5 = .ok (.invokevirtual 7, 3) := by decide +kernel
theorem dL_addStreet_8 : decode cL_addStreet 8 = .ok (.i2l, 1) := by decide +kernel
theorem dL_addStreet_9 : decode cL_addStreet 9 = .ok (.lastore, 1) := by decide +kernel
theorem dL_addStreet_10 : decode cL_addStreet 10 = .ok (.goto 11, 3) := by decide +kernel
theorem dL_addStreet_13 : decode cL_addStreet 13 = .ok (.astore 4, 2) := by decide +kernel
theorem dL_addStreet_15 : decode cL_addStreet 15 = .ok (.iconst 1, 1) := by decide +kernel
theorem dL_addStreet_16 : decode cL_addStreet 16 = .ok (.ireturn, 1) := by decide +kernel
theorem dL_addStreet_17 : decode cL_addStreet 17 = .ok (.astore 4, 2) := by decide +kernel
theorem dL_addStreet_19 : decode cL_addStreet 19 = .ok (.iconst 2, 1) := by decide +kernel
theorem dL_addStreet_20 : decode cL_addStreet 20 = .ok (.ireturn, 1) := by decide +kernel
theorem dL_addStreet_21 : decode cL_addStreet 21 = .ok (.iconst 0, 1) := by decide +kernel
theorem dL_addStreet_22 : decode cL_addStreet 22 = .ok (.ireturn, 1) := by decide +kernel
theorem dL_addPoint_0 : decode cL_addPoint 0 = .ok (.aload 4, 2) := by decide +kernel
theorem dL_addPoint_2 : decode cL_addPoint 2 = .ok (.iconst 0, 1) := by decide +kernel
theorem dL_addPoint_3 : decode cL_addPoint 3 = .ok (.aload_n 0, 1) := by decide +kernel
theorem dL_addPoint_4 : decode cL_addPoint 4 = .ok (.iload_n 1, 1) := by decide +kernel
theorem dL_addPoint_5 : decode cL_addPoint 5 = .ok (.iload_n 2, 1) := by decide +kernel
theorem dL_addPoint_6 : decode cL_addPoint 6 = .ok (.iload_n 3, 1) := by decide +kernel
theorem dL_addPoint_7 : decode cL_addPoint 7 = .ok (.invokevirtual 17, 3) := by decide +kernel
theorem dL_addPoint_10 : decode cL_addPoint 10 = .ok (.i2l, 1) := by decide +kernel
theorem dL_addPoint_11 : decode cL_addPoint 11 = .ok (.lastore, 1) := by decide +kernel
theorem dL_addPoint_12 : decode cL_addPoint 12 = .ok (.goto 15, 3) := by decide +kernel
theorem dL_addPoint_15 : decode cL_addPoint 15 = .ok (.astore 5, 2) := by decide +kernel
theorem dL_addPoint_17 : decode cL_addPoint 17 = .ok (.iconst 1, 1) := by decide +kernel
theorem dL_addPoint_18 : decode cL_addPoint 18 = .ok (.ireturn, 1) := by decide +kernel
theorem dL_addPoint_19 : decode cL_addPoint 19 = .ok (.astore 5, 2) := by decide +kernel
theorem dL_addPoint_21 : decode cL_addPoint 21 = .ok (.iconst 2, 1) := by decide +kernel
theorem dL_addPoint_22 : decode cL_addPoint 22 = .ok (.ireturn, 1) := by decide +kernel
theorem dL_addPoint_23 : decode cL_addPoint 23 = .ok (.astore 5, 2) := by decide +kernel
theorem dL_addPoint_25 : decode cL_addPoint 25 = .ok (.iconst 3, 1) := by decide +kernel
theorem dL_addPoint_26 : decode cL_addPoint 26 = .ok (.ireturn, 1) := by decide +kernel
theorem dL_addPoint_27 : decode cL_addPoint 27 = .ok (.iconst 0, 1) := by decide +kernel
theorem dL_addPoint_28 : decode cL_addPoint 28 = .ok (.ireturn, 1) := by decide +kernel
theorem dL_dropPoint_0 : decode cL_dropPoint 0 = .ok (.aload_n 2, 1) := by decide +kernel
theorem dL_dropPoint_1 : decode cL_dropPoint 1 = .ok (.iconst 0, 1) := by decide +kernel
theorem dL_dropPoint_2 : decode cL_dropPoint 2 = .ok (.aload_n 0, 1) := by decide +kernel
theorem dL_dropPoint_3 : decode cL_dropPoint 3 = .ok (.iload_n 1, 1) := by decide +kernel
theorem dL_dropPoint_4 : decode cL_dropPoint 4 = .ok (.invokevirtual 23, 3) := by decide +kernel
theorem dL_dropPoint_7 : decode cL_dropPoint 7 = .ok (.i2l, 1) := by decide +kernel
theorem dL_dropPoint_8 : decode cL_dropPoint 8 = .ok (.lastore, 1) := by decide +kernel
theorem dL_dropPoint_9 : decode cL_dropPoint 9 = .ok (.goto 9, 3) := by decide +kernel
theorem dL_dropPoint_12 : decode cL_dropPoint 12 = .ok (.astore_n 3, 1) := by decide +kernel
theorem dL_dropPoint_13 : decode cL_dropPoint 13 = .ok (.iconst 1, 1) := by decide +kernel
theorem dL_dropPoint_14 : decode cL_dropPoint 14 = .ok (.ireturn, 1) := by decide +kernel
theorem dL_dropPoint_15 : decode cL_dropPoint 15 = .ok (.astore_n 3, 1) := by decide +kernel
theorem dL_dropPoint_16 : decode cL_dropPoint 16 = .ok (.iconst 2, 1) := by decide +kernel
theorem dL_dropPoint_17 : decode cL_dropPoint 17 = .ok (.ireturn, 1) := by decide +kernel
theorem dL_dropPoint_18 : decode cL_dropPoint 18 = .ok (.iconst 0, 1) := by decide +kernel
theorem dL_dropPoint_19 : decode cL_dropPoint 19 = .ok (.ireturn, 1) := by decide +kernel
theorem dL_setOneWay_0 : decode cL_setOneWay 0 = .ok (.aload_n 3, 1) := by decide +kernel
theorem dL_setOneWay_1 : decode cL_setOneWay 1 = .ok (.iconst 0, 1) := by decide +kernel
theorem dL_setOneWay_2 : decode cL_setOneWay 2 = .ok (.aload_n 0, 1) := by decide +kernel
theorem dL_setOneWay_3 : decode cL_setOneWay 3 = .ok (.iload_n 1, 1) := by decide +kernel
theorem dL_setOneWay_4 : decode cL_setOneWay 4 = .ok (.iload_n 2, 1) := by decide +kernel
theorem dL_setOneWay_5 : decode cL_setOneWay 5 = .ok (.invokevirtual 27, 3) := by decide +kernel
theorem dL_setOneWay_8 : decode cL_setOneWay 8 = .ok (.ifCond .eq 7, 3) := by decide +kernel
theorem dL_setOneWay_11 : decode cL_setOneWay 11 = .ok (.lconst 1, 1) := by decide +kernel
theorem dL_setOneWay_12 : decode cL_setOneWay 12 = .ok (.goto 4, 3) := by decide +kernel
theorem dL_setOneWay_15 : decode cL_setOneWay 15 = .ok (.lconst 0, 1) := by decide +kernel
theorem dL_setOneWay_16 : decode cL_setOneWay 16 = .ok (.lastore, 1) := by decide +kernel
theorem dL_setOneWay_17 : decode cL_setOneWay 17 = .ok (.goto 7, 3) := by decide +kernel
theorem dL_setOneWay_20 : decode cL_setOneWay 20 = .ok (.astore 4, 2) := by decide +kernel
theorem dL_setOneWay_22 : decode cL_setOneWay 22 = .ok (.iconst 1, 1) := by decide +kernel
theorem dL_setOneWay_23 : decode cL_setOneWay 23 = .ok (.ireturn, 1) := by decide +kernel
theorem dL_setOneWay_24 : decode cL_setOneWay 24 = .ok (.iconst 0, 1) := by decide +kernel
theorem dL_setOneWay_25 : decode cL_setOneWay 25 = .ok (.ireturn, 1) := by decide +kernel
theorem dL_rename_0 : decode cL_rename 0 = .ok (.aload_n 0, 1) := by decide +kernel
theorem dL_rename_1 : decode cL_rename 1 = .ok (.iload_n 1, 1) := by decide +kernel
theorem dL_rename_2 : decode cL_rename 2 = .ok (.iload_n 2, 1) := by decide +kernel
theorem dL_rename_3 : decode cL_rename 3 = .ok (.iload_n 3, 1) := by decide +kernel
theorem dL_rename_4 : decode cL_rename 4 = .ok (.invokevirtual 31, 3) := by decide +kernel
theorem dL_rename_7 : decode cL_rename 7 = .ok (.goto 11, 3) := by decide +kernel
theorem dL_rename_10 : decode cL_rename 10 = .ok (.astore 4, 2) := by decide +kernel
theorem dL_rename_12 : decode cL_rename 12 = .ok (.iconst 1, 1) := by decide +kernel
theorem dL_rename_13 : decode cL_rename 13 = .ok (.ireturn, 1) := by decide +kernel
theorem dL_rename_14 : decode cL_rename 14 = .ok (.astore 4, 2) := by decide +kernel
theorem dL_rename_16 : decode cL_rename 16 = .ok (.iconst 2, 1) := by decide +kernel
theorem dL_rename_17 : decode cL_rename 17 = .ok (.ireturn, 1) := by decide +kernel
theorem dL_rename_18 : decode cL_rename 18 = .ok (.iconst 0, 1) := by decide +kernel
theorem dL_rename_19 : decode cL_rename 19 = .ok (.ireturn, 1) := by decide +kernel
theorem dL_setKind_0 : decode cL_setKind 0 = .ok (.aload_n 3, 1) := by decide +kernel
theorem dL_setKind_1 : decode cL_setKind 1 = .ok (.iconst 0, 1) := by decide +kernel
theorem dL_setKind_2 : decode cL_setKind 2 = .ok (.aload_n 0, 1) := by decide +kernel
theorem dL_setKind_3 : decode cL_setKind 3 = .ok (.iload_n 1, 1) := by decide +kernel
theorem dL_setKind_4 : decode cL_setKind 4 = .ok (.iload_n 2, 1) := by decide +kernel
theorem dL_setKind_5 : decode cL_setKind 5 = .ok (.invokevirtual 35, 3) := by decide +kernel
theorem dL_setKind_8 : decode cL_setKind 8 = .ok (.i2l, 1) := by decide +kernel
theorem dL_setKind_9 : decode cL_setKind 9 = .ok (.lastore, 1) := by decide +kernel
theorem dL_setKind_10 : decode cL_setKind 10 = .ok (.goto 11, 3) := by decide +kernel
theorem dL_setKind_13 : decode cL_setKind 13 = .ok (.astore 4, 2) := by decide +kernel
theorem dL_setKind_15 : decode cL_setKind 15 = .ok (.iconst 1, 1) := by decide +kernel
theorem dL_setKind_16 : decode cL_setKind 16 = .ok (.ireturn, 1) := by decide +kernel
theorem dL_setKind_17 : decode cL_setKind 17 = .ok (.astore 4, 2) := by decide +kernel
theorem dL_setKind_19 : decode cL_setKind 19 = .ok (.iconst 2, 1) := by decide +kernel
theorem dL_setKind_20 : decode cL_setKind 20 = .ok (.ireturn, 1) := by decide +kernel
theorem dL_setKind_21 : decode cL_setKind 21 = .ok (.iconst 0, 1) := by decide +kernel
theorem dL_setKind_22 : decode cL_setKind 22 = .ok (.ireturn, 1) := by decide +kernel
theorem dL_streetAt_0 : decode cL_streetAt 0 = .ok (.aload_n 2, 1) := by decide +kernel
theorem dL_streetAt_1 : decode cL_streetAt 1 = .ok (.iconst 0, 1) := by decide +kernel
theorem dL_streetAt_2 : decode cL_streetAt 2 = .ok (.aload_n 0, 1) := by decide +kernel
theorem dL_streetAt_3 : decode cL_streetAt 3 = .ok (.iload_n 1, 1) := by decide +kernel
theorem dL_streetAt_4 : decode cL_streetAt 4 = .ok (.invokevirtual 38, 3) := by decide +kernel
theorem dL_streetAt_7 : decode cL_streetAt 7 = .ok (.i2l, 1) := by decide +kernel
theorem dL_streetAt_8 : decode cL_streetAt 8 = .ok (.lastore, 1) := by decide +kernel
theorem dL_streetAt_9 : decode cL_streetAt 9 = .ok (.goto 6, 3) := by decide +kernel
theorem dL_streetAt_12 : decode cL_streetAt 12 = .ok (.astore_n 3, 1) := by decide +kernel
theorem dL_streetAt_13 : decode cL_streetAt 13 = .ok (.iconst 1, 1) := by decide +kernel
theorem dL_streetAt_14 : decode cL_streetAt 14 = .ok (.ireturn, 1) := by decide +kernel
theorem dL_streetAt_15 : decode cL_streetAt 15 = .ok (.iconst 0, 1) := by decide +kernel
theorem dL_streetAt_16 : decode cL_streetAt 16 = .ok (.ireturn, 1) := by decide +kernel
theorem dL_placeOf_0 : decode cL_placeOf 0 = .ok (.aload_n 2, 1) := by decide +kernel
theorem dL_placeOf_1 : decode cL_placeOf 1 = .ok (.iconst 0, 1) := by decide +kernel
theorem dL_placeOf_2 : decode cL_placeOf 2 = .ok (.aload_n 0, 1) := by decide +kernel
theorem dL_placeOf_3 : decode cL_placeOf 3 = .ok (.iload_n 1, 1) := by decide +kernel
theorem dL_placeOf_4 : decode cL_placeOf 4 = .ok (.invokevirtual 41, 3) := by decide +kernel
theorem dL_placeOf_7 : decode cL_placeOf 7 = .ok (.i2l, 1) := by decide +kernel
theorem dL_placeOf_8 : decode cL_placeOf 8 = .ok (.lastore, 1) := by decide +kernel
theorem dL_placeOf_9 : decode cL_placeOf 9 = .ok (.goto 6, 3) := by decide +kernel
theorem dL_placeOf_12 : decode cL_placeOf 12 = .ok (.astore_n 3, 1) := by decide +kernel
theorem dL_placeOf_13 : decode cL_placeOf 13 = .ok (.iconst 1, 1) := by decide +kernel
theorem dL_placeOf_14 : decode cL_placeOf 14 = .ok (.ireturn, 1) := by decide +kernel
theorem dL_placeOf_15 : decode cL_placeOf 15 = .ok (.iconst 0, 1) := by decide +kernel
theorem dL_placeOf_16 : decode cL_placeOf 16 = .ok (.ireturn, 1) := by decide +kernel
theorem dL_compareKeys_0 : decode cL_compareKeys 0 = .ok (.aload_n 3, 1) := by decide +kernel
theorem dL_compareKeys_1 : decode cL_compareKeys 1 = .ok (.iconst 0, 1) := by decide +kernel
theorem dL_compareKeys_2 : decode cL_compareKeys 2 = .ok (.aload_n 0, 1) := by decide +kernel
theorem dL_compareKeys_3 : decode cL_compareKeys 3 = .ok (.iload_n 1, 1) := by decide +kernel
theorem dL_compareKeys_4 : decode cL_compareKeys 4 = .ok (.iload_n 2, 1) := by decide +kernel
theorem dL_compareKeys_5 : decode cL_compareKeys 5 = .ok (.invokevirtual 44, 3) := by decide +kernel
theorem dL_compareKeys_8 : decode cL_compareKeys 8 = .ok (.i2l, 1) := by decide +kernel
theorem dL_compareKeys_9 : decode cL_compareKeys 9 = .ok (.lastore, 1) := by decide +kernel
theorem dL_compareKeys_10 : decode cL_compareKeys 10 = .ok (.goto 7, 3) := by decide +kernel
theorem dL_compareKeys_13 : decode cL_compareKeys 13 = .ok (.astore 4, 2) := by decide +kernel
theorem dL_compareKeys_15 : decode cL_compareKeys 15 = .ok (.iconst 1, 1) := by decide +kernel
theorem dL_compareKeys_16 : decode cL_compareKeys 16 = .ok (.ireturn, 1) := by decide +kernel
theorem dL_compareKeys_17 : decode cL_compareKeys 17 = .ok (.iconst 0, 1) := by decide +kernel
theorem dL_compareKeys_18 : decode cL_compareKeys 18 = .ok (.ireturn, 1) := by decide +kernel
theorem dL_lineLength_0 : decode cL_lineLength 0 = .ok (.aload_n 2, 1) := by decide +kernel
theorem dL_lineLength_1 : decode cL_lineLength 1 = .ok (.iconst 0, 1) := by decide +kernel
theorem dL_lineLength_2 : decode cL_lineLength 2 = .ok (.aload_n 0, 1) := by decide +kernel
theorem dL_lineLength_3 : decode cL_lineLength 3 = .ok (.iload_n 1, 1) := by decide +kernel
theorem dL_lineLength_4 : decode cL_lineLength 4 = .ok (.invokevirtual 47, 3) := by decide +kernel
theorem dL_lineLength_7 : decode cL_lineLength 7 = .ok (.i2l, 1) := by decide +kernel
theorem dL_lineLength_8 : decode cL_lineLength 8 = .ok (.lastore, 1) := by decide +kernel
theorem dL_lineLength_9 : decode cL_lineLength 9 = .ok (.goto 6, 3) := by decide +kernel
theorem dL_lineLength_12 : decode cL_lineLength 12 = .ok (.astore_n 3, 1) := by decide +kernel
theorem dL_lineLength_13 : decode cL_lineLength 13 = .ok (.iconst 1, 1) := by decide +kernel
theorem dL_lineLength_14 : decode cL_lineLength 14 = .ok (.ireturn, 1) := by decide +kernel
theorem dL_lineLength_15 : decode cL_lineLength 15 = .ok (.iconst 0, 1) := by decide +kernel
theorem dL_lineLength_16 : decode cL_lineLength 16 = .ok (.ireturn, 1) := by decide +kernel
theorem dL_lineChar_0 : decode cL_lineChar 0 = .ok (.aload_n 3, 1) := by decide +kernel
theorem dL_lineChar_1 : decode cL_lineChar 1 = .ok (.iconst 0, 1) := by decide +kernel
theorem dL_lineChar_2 : decode cL_lineChar 2 = .ok (.aload_n 0, 1) := by decide +kernel
theorem dL_lineChar_3 : decode cL_lineChar 3 = .ok (.iload_n 1, 1) := by decide +kernel
theorem dL_lineChar_4 : decode cL_lineChar 4 = .ok (.iload_n 2, 1) := by decide +kernel
theorem dL_lineChar_5 : decode cL_lineChar 5 = .ok (.invokevirtual 50, 3) := by decide +kernel
theorem dL_lineChar_8 : decode cL_lineChar 8 = .ok (.i2l, 1) := by decide +kernel
theorem dL_lineChar_9 : decode cL_lineChar 9 = .ok (.lastore, 1) := by decide +kernel
theorem dL_lineChar_10 : decode cL_lineChar 10 = .ok (.goto 7, 3) := by decide +kernel
theorem dL_lineChar_13 : decode cL_lineChar 13 = .ok (.astore 4, 2) := by decide +kernel
theorem dL_lineChar_15 : decode cL_lineChar 15 = .ok (.iconst 1, 1) := by decide +kernel
theorem dL_lineChar_16 : decode cL_lineChar 16 = .ok (.ireturn, 1) := by decide +kernel
theorem dL_lineChar_17 : decode cL_lineChar 17 = .ok (.iconst 0, 1) := by decide +kernel
theorem dL_lineChar_18 : decode cL_lineChar 18 = .ok (.ireturn, 1) := by decide +kernel
theorem dL_trackLength_0 : decode cL_trackLength 0 = .ok (.aload_n 2, 1) := by decide +kernel
theorem dL_trackLength_1 : decode cL_trackLength 1 = .ok (.iconst 0, 1) := by decide +kernel
theorem dL_trackLength_2 : decode cL_trackLength 2 = .ok (.aload_n 0, 1) := by decide +kernel
theorem dL_trackLength_3 : decode cL_trackLength 3 = .ok (.iload_n 1, 1) := by decide +kernel
theorem dL_trackLength_4 : decode cL_trackLength 4 = .ok (.invokevirtual 54, 3) := by decide +kernel
theorem dL_trackLength_7 : decode cL_trackLength 7 = .ok (.i2l, 1) := by decide +kernel
theorem dL_trackLength_8 : decode cL_trackLength 8 = .ok (.lastore, 1) := by decide +kernel
theorem dL_trackLength_9 : decode cL_trackLength 9 = .ok (.goto 6, 3) := by decide +kernel
theorem dL_trackLength_12 : decode cL_trackLength 12 = .ok (.astore_n 3, 1) := by decide +kernel
theorem dL_trackLength_13 : decode cL_trackLength 13 = .ok (.iconst 1, 1) := by decide +kernel
theorem dL_trackLength_14 : decode cL_trackLength 14 = .ok (.ireturn, 1) := by decide +kernel
theorem dL_trackLength_15 : decode cL_trackLength 15 = .ok (.iconst 0, 1) := by decide +kernel
theorem dL_trackLength_16 : decode cL_trackLength 16 = .ok (.ireturn, 1) := by decide +kernel
theorem dL_squares_0 : decode cL_squares 0 = .ok (.aload_n 2, 1) := by decide +kernel
theorem dL_squares_1 : decode cL_squares 1 = .ok (.iconst 0, 1) := by decide +kernel
theorem dL_squares_2 : decode cL_squares 2 = .ok (.aload_n 0, 1) := by decide +kernel
theorem dL_squares_3 : decode cL_squares 3 = .ok (.iload_n 1, 1) := by decide +kernel
theorem dL_squares_4 : decode cL_squares 4 = .ok (.invokevirtual 57, 3) := by decide +kernel
theorem dL_squares_7 : decode cL_squares 7 = .ok (.i2l, 1) := by decide +kernel
theorem dL_squares_8 : decode cL_squares 8 = .ok (.lastore, 1) := by decide +kernel
theorem dL_squares_9 : decode cL_squares 9 = .ok (.goto 6, 3) := by decide +kernel
theorem dL_squares_12 : decode cL_squares 12 = .ok (.astore_n 3, 1) := by decide +kernel
theorem dL_squares_13 : decode cL_squares 13 = .ok (.iconst 1, 1) := by decide +kernel
theorem dL_squares_14 : decode cL_squares 14 = .ok (.ireturn, 1) := by decide +kernel
theorem dL_squares_15 : decode cL_squares 15 = .ok (.iconst 0, 1) := by decide +kernel
theorem dL_squares_16 : decode cL_squares 16 = .ok (.ireturn, 1) := by decide +kernel
theorem dL_runs_0 : decode cL_runs 0 = .ok (.aload_n 2, 1) := by decide +kernel
theorem dL_runs_1 : decode cL_runs 1 = .ok (.iconst 0, 1) := by decide +kernel
theorem dL_runs_2 : decode cL_runs 2 = .ok (.aload_n 0, 1) := by decide +kernel
theorem dL_runs_3 : decode cL_runs 3 = .ok (.iload_n 1, 1) := by decide +kernel
theorem dL_runs_4 : decode cL_runs 4 = .ok (.invokevirtual 60, 3) := by decide +kernel
theorem dL_runs_7 : decode cL_runs 7 = .ok (.i2l, 1) := by decide +kernel
theorem dL_runs_8 : decode cL_runs 8 = .ok (.lastore, 1) := by decide +kernel
theorem dL_runs_9 : decode cL_runs 9 = .ok (.goto 6, 3) := by decide +kernel
theorem dL_runs_12 : decode cL_runs 12 = .ok (.astore_n 3, 1) := by decide +kernel
theorem dL_runs_13 : decode cL_runs 13 = .ok (.iconst 1, 1) := by decide +kernel
theorem dL_runs_14 : decode cL_runs 14 = .ok (.ireturn, 1) := by decide +kernel
theorem dL_runs_15 : decode cL_runs 15 = .ok (.iconst 0, 1) := by decide +kernel
theorem dL_runs_16 : decode cL_runs 16 = .ok (.ireturn, 1) := by decide +kernel
theorem dL_isOn_0 : decode cL_isOn 0 = .ok (.aload 4, 2) := by decide +kernel
theorem dL_isOn_2 : decode cL_isOn 2 = .ok (.iconst 0, 1) := by decide +kernel
theorem dL_isOn_3 : decode cL_isOn 3 = .ok (.aload_n 0, 1) := by decide +kernel
theorem dL_isOn_4 : decode cL_isOn 4 = .ok (.iload_n 1, 1) := by decide +kernel
theorem dL_isOn_5 : decode cL_isOn 5 = .ok (.iload_n 2, 1) := by decide +kernel
theorem dL_isOn_6 : decode cL_isOn 6 = .ok (.iload_n 3, 1) := by decide +kernel
theorem dL_isOn_7 : decode cL_isOn 7 = .ok (.invokevirtual 63, 3) := by decide +kernel
theorem dL_isOn_10 : decode cL_isOn 10 = .ok (.ifCond .eq 7, 3) := by decide +kernel
theorem dL_isOn_13 : decode cL_isOn 13 = .ok (.lconst 1, 1) := by decide +kernel
theorem dL_isOn_14 : decode cL_isOn 14 = .ok (.goto 4, 3) := by decide +kernel
theorem dL_isOn_17 : decode cL_isOn 17 = .ok (.lconst 0, 1) := by decide +kernel
theorem dL_isOn_18 : decode cL_isOn 18 = .ok (.lastore, 1) := by decide +kernel
theorem dL_isOn_19 : decode cL_isOn 19 = .ok (.goto 7, 3) := by decide +kernel
theorem dL_isOn_22 : decode cL_isOn 22 = .ok (.astore 5, 2) := by decide +kernel
theorem dL_isOn_24 : decode cL_isOn 24 = .ok (.iconst 1, 1) := by decide +kernel
theorem dL_isOn_25 : decode cL_isOn 25 = .ok (.ireturn, 1) := by decide +kernel
theorem dL_isOn_26 : decode cL_isOn 26 = .ok (.iconst 0, 1) := by decide +kernel
theorem dL_isOn_27 : decode cL_isOn 27 = .ok (.ireturn, 1) := by decide +kernel
theorem dL_isOnTrack_0 : decode cL_isOnTrack 0 = .ok (.aload 4, 2) := by decide +kernel
theorem dL_isOnTrack_2 : decode cL_isOnTrack 2 = .ok (.iconst 0, 1) := by decide +kernel
theorem dL_isOnTrack_3 : decode cL_isOnTrack 3 = .ok (.aload_n 0, 1) := by decide +kernel
theorem dL_isOnTrack_4 : decode cL_isOnTrack 4 = .ok (.iload_n 1, 1) := by decide +kernel
theorem dL_isOnTrack_5 : decode cL_isOnTrack 5 = .ok (.iload_n 2, 1) := by decide +kernel
theorem dL_isOnTrack_6 : decode cL_isOnTrack 6 = .ok (.iload_n 3, 1) := by decide +kernel
theorem dL_isOnTrack_7 : decode cL_isOnTrack 7 = .ok (.invokevirtual 67, 3) := by decide +kernel
theorem dL_isOnTrack_10 : decode cL_isOnTrack 10 = .ok (.ifCond .eq 7, 3) := by decide +kernel
theorem dL_isOnTrack_13 : decode cL_isOnTrack 13 = .ok (.lconst 1, 1) := by decide +kernel
theorem dL_isOnTrack_14 : decode cL_isOnTrack 14 = .ok (.goto 4, 3) := by decide +kernel
theorem dL_isOnTrack_17 : decode cL_isOnTrack 17 = .ok (.lconst 0, 1) := by decide +kernel
theorem dL_isOnTrack_18 : decode cL_isOnTrack 18 = .ok (.lastore, 1) := by decide +kernel
theorem dL_isOnTrack_19 : decode cL_isOnTrack 19 = .ok (.goto 7, 3) := by decide +kernel
theorem dL_isOnTrack_22 : decode cL_isOnTrack 22 = .ok (.astore 5, 2) := by decide +kernel
theorem dL_isOnTrack_24 : decode cL_isOnTrack 24 = .ok (.iconst 1, 1) := by decide +kernel
theorem dL_isOnTrack_25 : decode cL_isOnTrack 25 = .ok (.ireturn, 1) := by decide +kernel
theorem dL_isOnTrack_26 : decode cL_isOnTrack 26 = .ok (.iconst 0, 1) := by decide +kernel
theorem dL_isOnTrack_27 : decode cL_isOnTrack 27 = .ok (.ireturn, 1) := by decide +kernel
theorem dL_streetsOf_0 : decode cL_streetsOf 0 = .ok (.aload_n 3, 1) := by decide +kernel
theorem dL_streetsOf_1 : decode cL_streetsOf 1 = .ok (.iconst 0, 1) := by decide +kernel
theorem dL_streetsOf_2 : decode cL_streetsOf 2 = .ok (.aload_n 0, 1) := by decide +kernel
theorem dL_streetsOf_3 : decode cL_streetsOf 3 = .ok (.iload_n 1, 1) := by decide +kernel
theorem dL_streetsOf_4 : decode cL_streetsOf 4 = .ok (.iload_n 2, 1) := by decide +kernel
theorem dL_streetsOf_5 : decode cL_streetsOf 5 = .ok (.invokevirtual 70, 3) := by decide +kernel
theorem dL_streetsOf_8 : decode cL_streetsOf 8 = .ok (.i2l, 1) := by decide +kernel
theorem dL_streetsOf_9 : decode cL_streetsOf 9 = .ok (.lastore, 1) := by decide +kernel
theorem dL_streetsOf_10 : decode cL_streetsOf 10 = .ok (.goto 7, 3) := by decide +kernel
theorem dL_streetsOf_13 : decode cL_streetsOf 13 = .ok (.astore 4, 2) := by decide +kernel
theorem dL_streetsOf_15 : decode cL_streetsOf 15 = .ok (.iconst 1, 1) := by decide +kernel
theorem dL_streetsOf_16 : decode cL_streetsOf 16 = .ok (.ireturn, 1) := by decide +kernel
theorem dL_streetsOf_17 : decode cL_streetsOf 17 = .ok (.iconst 0, 1) := by decide +kernel
theorem dL_streetsOf_18 : decode cL_streetsOf 18 = .ok (.ireturn, 1) := by decide +kernel
theorem dL_distance_0 : decode cL_distance 0 = .ok (.aload 4, 2) := by decide +kernel
theorem dL_distance_2 : decode cL_distance 2 = .ok (.iconst 0, 1) := by decide +kernel
theorem dL_distance_3 : decode cL_distance 3 = .ok (.aload_n 0, 1) := by decide +kernel
theorem dL_distance_4 : decode cL_distance 4 = .ok (.iload_n 1, 1) := by decide +kernel
theorem dL_distance_5 : decode cL_distance 5 = .ok (.iload_n 2, 1) := by decide +kernel
theorem dL_distance_6 : decode cL_distance 6 = .ok (.iload_n 3, 1) := by decide +kernel
theorem dL_distance_7 : decode cL_distance 7 = .ok (.invokevirtual 73, 3) := by decide +kernel
theorem dL_distance_10 : decode cL_distance 10 = .ok (.i2l, 1) := by decide +kernel
theorem dL_distance_11 : decode cL_distance 11 = .ok (.lastore, 1) := by decide +kernel
theorem dL_distance_12 : decode cL_distance 12 = .ok (.goto 7, 3) := by decide +kernel
theorem dL_distance_15 : decode cL_distance 15 = .ok (.astore 5, 2) := by decide +kernel
theorem dL_distance_17 : decode cL_distance 17 = .ok (.iconst 1, 1) := by decide +kernel
theorem dL_distance_18 : decode cL_distance 18 = .ok (.ireturn, 1) := by decide +kernel
theorem dL_distance_19 : decode cL_distance 19 = .ok (.iconst 0, 1) := by decide +kernel
theorem dL_distance_20 : decode cL_distance 20 = .ok (.ireturn, 1) := by decide +kernel
theorem dL_nearest_0 : decode cL_nearest 0 = .ok (.aload 4, 2) := by decide +kernel
theorem dL_nearest_2 : decode cL_nearest 2 = .ok (.iconst 0, 1) := by decide +kernel
theorem dL_nearest_3 : decode cL_nearest 3 = .ok (.aload_n 0, 1) := by decide +kernel
theorem dL_nearest_4 : decode cL_nearest 4 = .ok (.iload_n 1, 1) := by decide +kernel
theorem dL_nearest_5 : decode cL_nearest 5 = .ok (.iload_n 2, 1) := by decide +kernel
theorem dL_nearest_6 : decode cL_nearest 6 = .ok (.iload_n 3, 1) := by decide +kernel
theorem dL_nearest_7 : decode cL_nearest 7 = .ok (.invokevirtual 76, 3) := by decide +kernel
theorem dL_nearest_10 : decode cL_nearest 10 = .ok (.i2l, 1) := by decide +kernel
theorem dL_nearest_11 : decode cL_nearest 11 = .ok (.lastore, 1) := by decide +kernel
theorem dL_nearest_12 : decode cL_nearest 12 = .ok (.goto 7, 3) := by decide +kernel
theorem dL_nearest_15 : decode cL_nearest 15 = .ok (.astore 5, 2) := by decide +kernel
theorem dL_nearest_17 : decode cL_nearest 17 = .ok (.iconst 1, 1) := by decide +kernel
theorem dL_nearest_18 : decode cL_nearest 18 = .ok (.ireturn, 1) := by decide +kernel
theorem dL_nearest_19 : decode cL_nearest 19 = .ok (.iconst 0, 1) := by decide +kernel
theorem dL_nearest_20 : decode cL_nearest 20 = .ok (.ireturn, 1) := by decide +kernel
theorem dL_walk_0 : decode cL_walk 0 = .ok (.aload 5, 2) := by decide +kernel
theorem dL_walk_2 : decode cL_walk 2 = .ok (.iconst 0, 1) := by decide +kernel
theorem dL_walk_3 : decode cL_walk 3 = .ok (.aload_n 0, 1) := by decide +kernel
theorem dL_walk_4 : decode cL_walk 4 = .ok (.iload_n 1, 1) := by decide +kernel
theorem dL_walk_5 : decode cL_walk 5 = .ok (.iload_n 2, 1) := by decide +kernel
theorem dL_walk_6 : decode cL_walk 6 = .ok (.iload_n 3, 1) := by decide +kernel
theorem dL_walk_7 : decode cL_walk 7 = .ok (.iload 4, 2) := by decide +kernel
theorem dL_walk_9 : decode cL_walk 9 = .ok (.invokevirtual 79, 3) := by decide +kernel
theorem dL_walk_12 : decode cL_walk 12 = .ok (.i2l, 1) := by decide +kernel
theorem dL_walk_13 : decode cL_walk 13 = .ok (.lastore, 1) := by decide +kernel
theorem dL_walk_14 : decode cL_walk 14 = .ok (.goto 7, 3) := by decide +kernel
theorem dL_walk_17 : decode cL_walk 17 = .ok (.astore 6, 2) := by decide +kernel
theorem dL_walk_19 : decode cL_walk 19 = .ok (.iconst 1, 1) := by decide +kernel
theorem dL_walk_20 : decode cL_walk 20 = .ok (.ireturn, 1) := by decide +kernel
theorem dL_walk_21 : decode cL_walk 21 = .ok (.iconst 0, 1) := by decide +kernel
theorem dL_walk_22 : decode cL_walk 22 = .ok (.ireturn, 1) := by decide +kernel
theorem dL_walkByRounds_0 : decode cL_walkByRounds 0 = .ok (.aload 5, 2) := by decide +kernel
theorem dL_walkByRounds_2 : decode cL_walkByRounds 2 = .ok (.iconst 0, 1) := by decide +kernel
theorem dL_walkByRounds_3 : decode cL_walkByRounds 3 = .ok (.aload_n 0, 1) := by decide +kernel
theorem dL_walkByRounds_4 : decode cL_walkByRounds 4 = .ok (.iload_n 1, 1) := by decide +kernel
theorem dL_walkByRounds_5 : decode cL_walkByRounds 5 = .ok (.iload_n 2, 1) := by decide +kernel
theorem dL_walkByRounds_6 : decode cL_walkByRounds 6 = .ok (.iload_n 3, 1) := by decide +kernel
theorem dL_walkByRounds_7 : decode cL_walkByRounds 7 = .ok (.iload 4, 2) := by decide +kernel
theorem dL_walkByRounds_9 : decode cL_walkByRounds 9 = .ok (.invokevirtual 83, 3) := by decide +kernel
theorem dL_walkByRounds_12 : decode cL_walkByRounds 12 = .ok (.i2l, 1) := by decide +kernel
theorem dL_walkByRounds_13 : decode cL_walkByRounds 13 = .ok (.lastore, 1) := by decide +kernel
theorem dL_walkByRounds_14 : decode cL_walkByRounds 14 = .ok (.goto 7, 3) := by decide +kernel
theorem dL_walkByRounds_17 : decode cL_walkByRounds 17 = .ok (.astore 6, 2) := by decide +kernel
theorem dL_walkByRounds_19 : decode cL_walkByRounds 19 = .ok (.iconst 1, 1) := by decide +kernel
theorem dL_walkByRounds_20 : decode cL_walkByRounds 20 = .ok (.ireturn, 1) := by decide +kernel
theorem dL_walkByRounds_21 : decode cL_walkByRounds 21 = .ok (.iconst 0, 1) := by decide +kernel
theorem dL_walkByRounds_22 : decode cL_walkByRounds 22 = .ok (.ireturn, 1) := by decide +kernel
theorem dL_reachable_0 : decode cL_reachable 0 = .ok (.aload_n 3, 1) := by decide +kernel
theorem dL_reachable_1 : decode cL_reachable 1 = .ok (.iconst 0, 1) := by decide +kernel
theorem dL_reachable_2 : decode cL_reachable 2 = .ok (.aload_n 0, 1) := by decide +kernel
theorem dL_reachable_3 : decode cL_reachable 3 = .ok (.iload_n 1, 1) := by decide +kernel
theorem dL_reachable_4 : decode cL_reachable 4 = .ok (.iload_n 2, 1) := by decide +kernel
theorem dL_reachable_5 : decode cL_reachable 5 = .ok (.invokevirtual 86, 3) := by decide +kernel
theorem dL_reachable_8 : decode cL_reachable 8 = .ok (.i2l, 1) := by decide +kernel
theorem dL_reachable_9 : decode cL_reachable 9 = .ok (.lastore, 1) := by decide +kernel
theorem dL_reachable_10 : decode cL_reachable 10 = .ok (.goto 7, 3) := by decide +kernel
theorem dL_reachable_13 : decode cL_reachable 13 = .ok (.astore 4, 2) := by decide +kernel
theorem dL_reachable_15 : decode cL_reachable 15 = .ok (.iconst 1, 1) := by decide +kernel
theorem dL_reachable_16 : decode cL_reachable 16 = .ok (.ireturn, 1) := by decide +kernel
theorem dL_reachable_17 : decode cL_reachable 17 = .ok (.iconst 0, 1) := by decide +kernel
theorem dL_reachable_18 : decode cL_reachable 18 = .ok (.ireturn, 1) := by decide +kernel
