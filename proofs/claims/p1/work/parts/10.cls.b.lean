theorem dJ6_bitCount_0f7a4_0 : decode cJ6_bitCount_0f7a4 0 = .ok (.iload_n 0, 1) := by decide +kernel
theorem dJ6_bitCount_0f7a4_1 : decode cJ6_bitCount_0f7a4 1 = .ok (.iload_n 0, 1) := by decide +kernel
theorem dJ6_bitCount_0f7a4_2 : decode cJ6_bitCount_0f7a4 2 = .ok (.iconst 1, 1) := by decide +kernel
theorem dJ6_bitCount_0f7a4_3 : decode cJ6_bitCount_0f7a4 3 = .ok (.iushr, 1) := by decide +kernel
theorem dJ6_bitCount_0f7a4_4 : decode cJ6_bitCount_0f7a4 4 = .ok (.ldc_w 265, 3) := by decide +kernel
theorem dJ6_bitCount_0f7a4_7 : decode cJ6_bitCount_0f7a4 7 = .ok (.iand, 1) := by decide +kernel
theorem dJ6_bitCount_0f7a4_8 : decode cJ6_bitCount_0f7a4 8 = .ok (.isub, 1) := by decide +kernel
theorem dJ6_bitCount_0f7a4_9 : decode cJ6_bitCount_0f7a4 9 = .ok (.istore_n 0, 1) := by decide +kernel
theorem dJ6_bitCount_0f7a4_10 : decode cJ6_bitCount_0f7a4 10 = .ok (.iload_n 0, 1) := by decide +kernel
theorem dJ6_bitCount_0f7a4_11 : decode cJ6_bitCount_0f7a4 11 = .ok (.ldc_w 266, 3) := by decide +kernel
theorem dJ6_bitCount_0f7a4_14 : decode cJ6_bitCount_0f7a4 14 = .ok (.iand, 1) := by decide +kernel
theorem dJ6_bitCount_0f7a4_15 : decode cJ6_bitCount_0f7a4 15 = .ok (.iload_n 0, 1) := by decide +kernel
theorem dJ6_bitCount_0f7a4_16 : decode cJ6_bitCount_0f7a4 16 = .ok (.iconst 2, 1) := by decide +kernel
theorem dJ6_bitCount_0f7a4_17 : decode cJ6_bitCount_0f7a4 17 = .ok (.iushr, 1) := by decide +kernel
theorem dJ6_bitCount_0f7a4_18 : decode cJ6_bitCount_0f7a4 18 = .ok (.ldc_w 266, 3) := by decide +kernel
theorem dJ6_bitCount_0f7a4_21 : decode cJ6_bitCount_0f7a4 21 = .ok (.iand, 1) := by decide +kernel
theorem dJ6_bitCount_0f7a4_22 : decode cJ6_bitCount_0f7a4 22 = .ok (.iadd, 1) := by decide +kernel
theorem dJ6_bitCount_0f7a4_23 : decode cJ6_bitCount_0f7a4 23 = .ok (.istore_n 0, 1) := by decide +kernel
theorem dJ6_bitCount_0f7a4_24 : decode cJ6_bitCount_0f7a4 24 = .ok (.iload_n 0, 1) := by decide +kernel
theorem dJ6_bitCount_0f7a4_25 : decode cJ6_bitCount_0f7a4 25 = .ok (.iload_n 0, 1) := by decide +kernel
theorem dJ6_bitCount_0f7a4_26 : decode cJ6_bitCount_0f7a4 26 = .ok (.iconst 4, 1) := by decide +kernel
theorem dJ6_bitCount_0f7a4_27 : decode cJ6_bitCount_0f7a4 27 = .ok (.iushr, 1) := by decide +kernel
theorem dJ6_bitCount_0f7a4_28 : decode cJ6_bitCount_0f7a4 28 = .ok (.iadd, 1) := by decide +kernel
theorem dJ6_bitCount_0f7a4_29 : decode cJ6_bitCount_0f7a4 29 = .ok (.ldc_w 267, 3) := by decide +kernel
theorem dJ6_bitCount_0f7a4_32 : decode cJ6_bitCount_0f7a4 32 = .ok (.iand, 1) := by decide +kernel
theorem dJ6_bitCount_0f7a4_33 : decode cJ6_bitCount_0f7a4 33 = .ok (.istore_n 0, 1) := by decide +kernel
theorem dJ6_bitCount_0f7a4_34 : decode cJ6_bitCount_0f7a4 34 = .ok (.iload_n 0, 1) := by decide +kernel
theorem dJ6_bitCount_0f7a4_35 : decode cJ6_bitCount_0f7a4 35 = .ok (.iload_n 0, 1) := by decide +kernel
theorem dJ6_bitCount_0f7a4_36 : decode cJ6_bitCount_0f7a4 36 = .ok (.bipush 8, 2) := by decide +kernel
theorem dJ6_bitCount_0f7a4_38 : decode cJ6_bitCount_0f7a4 38 = .ok (.iushr, 1) := by decide +kernel
theorem dJ6_bitCount_0f7a4_39 : decode cJ6_bitCount_0f7a4 39 = .ok (.iadd, 1) := by decide +kernel
theorem dJ6_bitCount_0f7a4_40 : decode cJ6_bitCount_0f7a4 40 = .ok (.istore_n 0, 1) := by decide +kernel
theorem dJ6_bitCount_0f7a4_41 : decode cJ6_bitCount_0f7a4 41 = .ok (.iload_n 0, 1) := by decide +kernel
theorem dJ6_bitCount_0f7a4_42 : decode cJ6_bitCount_0f7a4 42 = .ok (.iload_n 0, 1) := by decide +kernel
theorem dJ6_bitCount_0f7a4_43 : decode cJ6_bitCount_0f7a4 43 = .ok (.bipush 16, 2) := by decide +kernel
theorem dJ6_bitCount_0f7a4_45 : decode cJ6_bitCount_0f7a4 45 = .ok (.iushr, 1) := by decide +kernel
theorem dJ6_bitCount_0f7a4_46 : decode cJ6_bitCount_0f7a4 46 = .ok (.iadd, 1) := by decide +kernel
theorem dJ6_bitCount_0f7a4_47 : decode cJ6_bitCount_0f7a4 47 = .ok (.istore_n 0, 1) := by decide +kernel
theorem dJ6_bitCount_0f7a4_48 : decode cJ6_bitCount_0f7a4 48 = .ok (.iload_n 0, 1) := by decide +kernel
theorem dJ6_bitCount_0f7a4_49 : decode cJ6_bitCount_0f7a4 49 = .ok (.bipush 63, 2) := by decide +kernel
theorem dJ6_bitCount_0f7a4_51 : decode cJ6_bitCount_0f7a4 51 = .ok (.iand, 1) := by decide +kernel
theorem dJ6_bitCount_0f7a4_52 : decode cJ6_bitCount_0f7a4 52 = .ok (.ireturn, 1) := by decide +kernel
theorem dX8_hasRoomForFeed_0 : decode cX8_hasRoomForFeed 0 = .ok (.aload_n 0, 1) := by decide +kernel
theorem dX8_hasRoomForFeed_1 : decode cX8_hasRoomForFeed 1 = .ok (.getfield 19, 3) := by decide +kernel
theorem dX8_hasRoomForFeed_4 : decode cX8_hasRoomForFeed 4 = .ok (.bipush 20, 2) := by decide +kernel
theorem dX8_hasRoomForFeed_6 : decode cX8_hasRoomForFeed 6 = .ok (.iadd, 1) := by decide +kernel
theorem dX8_hasRoomForFeed_7 : decode cX8_hasRoomForFeed 7 = .ok (.sipush 600, 3) := by decide +kernel
theorem dX8_hasRoomForFeed_10 : decode cX8_hasRoomForFeed 10 = .ok (.if_icmp .gt 7, 3) := by decide +kernel
theorem dX8_hasRoomForFeed_13 : decode cX8_hasRoomForFeed 13 = .ok (.iconst 1, 1) := by decide +kernel
theorem dX8_hasRoomForFeed_14 : decode cX8_hasRoomForFeed 14 = .ok (.goto 4, 3) := by decide +kernel
theorem dX8_hasRoomForFeed_18 : decode cX8_hasRoomForFeed 18 = .ok (.ireturn, 1) := by decide +kernel
theorem dX8_append_0 : decode cX8_append 0 = .ok (.bipush 24, 2) := by decide +kernel
theorem dX8_append_2 : decode cX8_append 2 = .ok (.istore_n 2, 1) := by decide +kernel
theorem dX8_append_3 : decode cX8_append 3 = .ok (.iload_n 2, 1) := by decide +kernel
theorem dX8_append_4 : decode cX8_append 4 = .ok (.ifCond .lt 51, 3) := by decide +kernel
theorem dX8_append_7 : decode cX8_append 7 = .ok (.aload_n 0, 1) := by decide +kernel
theorem dX8_append_8 : decode cX8_append 8 = .ok (.getfield 19, 3) := by decide +kernel
theorem dX8_append_11 : decode cX8_append 11 = .ok (.ifCond .lt 38, 3) := by decide +kernel
theorem dX8_append_14 : decode cX8_append 14 = .ok (.aload_n 0, 1) := by decide +kernel
theorem dX8_append_15 : decode cX8_append 15 = .ok (.getfield 19, 3) := by decide +kernel
theorem dX8_append_18 : decode cX8_append 18 = .ok (.aload_n 0, 1) := by decide +kernel
theorem dX8_append_19 : decode cX8_append 19 = .ok (.getfield 11, 3) := by decide +kernel
theorem dX8_append_22 : decode cX8_append 22 = .ok (.arraylength, 1) := by decide +kernel
theorem dX8_append_23 : decode cX8_append 23 = .ok (.if_icmp .ge 26, 3) := by decide +kernel
theorem dX8_append_26 : decode cX8_append 26 = .ok (.aload_n 0, 1) := by decide +kernel
theorem dX8_append_27 : decode cX8_append 27 = .ok (.getfield 11, 3) := by decide +kernel
theorem dX8_append_30 : decode cX8_append 30 = .ok (.aload_n 0, 1) := by decide +kernel
theorem dX8_append_31 : decode cX8_append 31 = .ok (.getfield 19, 3) := by decide +kernel
theorem dX8_append_34 : decode cX8_append 34 = .ok (.iload_n 1, 1) := by decide +kernel
theorem dX8_append_35 : decode cX8_append 35 = .ok (.iload_n 2, 1) := by decide +kernel
theorem dX8_append_36 : decode cX8_append 36 = .ok (.ishr, 1) := by decide +kernel
theorem dX8_append_37 : decode cX8_append 37 = .ok (.i2b, 1) := by decide +kernel
theorem dX8_append_38 : decode cX8_append 38 = .ok (.bastore, 1) := by decide +kernel
theorem dX8_append_39 : decode cX8_append 39 = .ok (.aload_n 0, 1) := by decide +kernel
theorem dX8_append_40 : decode cX8_append 40 = .ok (.dup, 1) := by decide +kernel
theorem dX8_append_41 : decode cX8_append 41 = .ok (.getfield 19, 3) := by decide +kernel
theorem dX8_append_44 : decode cX8_append 44 = .ok (.iconst 1, 1) := by decide +kernel
theorem dX8_append_45 : decode cX8_append 45 = .ok (.iadd, 1) := by decide +kernel
theorem dX8_append_46 : decode cX8_append 46 = .ok (.putfield 19, 3) := by decide +kernel
theorem dX8_append_49 : decode cX8_append 49 = .ok (.iinc 2 (-8), 3) := by decide +kernel
theorem dX8_append_52 : decode cX8_append 52 = .ok (.goto (-49), 3) := by decide +kernel
theorem dX8_append_55 : decode cX8_append 55 = .ok (.return_, 1) := by decide +kernel
theorem dX8_byteAt_0 : decode cX8_byteAt 0 = .ok (.iload_n 1, 1) := by decide +kernel
theorem dX8_byteAt_1 : decode cX8_byteAt 1 = .ok (.ifCond .lt 21, 3) := by decide +kernel
theorem dX8_byteAt_22 : decode cX8_byteAt 22 = .ok (.iconst 0, 1) := by decide +kernel
theorem dX8_byteAt_23 : decode cX8_byteAt 23 = .ok (.ireturn, 1) := by decide +kernel
theorem dX8_byteAt_4 : decode cX8_byteAt 4 = .ok (.iload_n 1, 1) := by decide +kernel
theorem dX8_byteAt_5 : decode cX8_byteAt 5 = .ok (.aload_n 0, 1) := by decide +kernel
theorem dX8_byteAt_6 : decode cX8_byteAt 6 = .ok (.getfield 11, 3) := by decide +kernel
theorem dX8_byteAt_9 : decode cX8_byteAt 9 = .ok (.arraylength, 1) := by decide +kernel
theorem dX8_byteAt_10 : decode cX8_byteAt 10 = .ok (.if_icmp .ge 12, 3) := by decide +kernel
theorem dX8_byteAt_13 : decode cX8_byteAt 13 = .ok (.aload_n 0, 1) := by decide +kernel
theorem dX8_byteAt_14 : decode cX8_byteAt 14 = .ok (.getfield 11, 3) := by decide +kernel
theorem dX8_byteAt_17 : decode cX8_byteAt 17 = .ok (.iload_n 1, 1) := by decide +kernel
theorem dX8_byteAt_18 : decode cX8_byteAt 18 = .ok (.baload, 1) := by decide +kernel
theorem dX8_byteAt_19 : decode cX8_byteAt 19 = .ok (.goto 4, 3) := by decide +kernel
theorem dX8_advance_0 : decode cX8_advance 0 = .ok (.aload_n 0, 1) := by decide +kernel
theorem dX8_advance_1 : decode cX8_advance 1 = .ok (.getfield 27, 3) := by decide +kernel
theorem dX8_advance_4 : decode cX8_advance 4 = .ok (.aload_n 0, 1) := by decide +kernel
theorem dX8_advance_5 : decode cX8_advance 5 = .ok (.getfield 19, 3) := by decide +kernel
theorem dX8_advance_8 : decode cX8_advance 8 = .ok (.if_icmp .ge 42, 3) := by decide +kernel
theorem dX8_advance_50 : decode cX8_advance 50 = .ok (.aload_n 0, 1) := by decide +kernel
theorem dX8_advance_51 : decode cX8_advance 51 = .ok (.aload_n 0, 1) := by decide +kernel
theorem dX8_advance_52 : decode cX8_advance 52 = .ok (.getfield 27, 3) := by decide +kernel
theorem dX8_advance_55 : decode cX8_advance 55 = .ok (.putfield 33, 3) := by decide +kernel
theorem dX8_advance_58 : decode cX8_advance 58 = .ok (.aload_n 0, 1) := by decide +kernel
theorem dX8_advance_59 : decode cX8_advance 59 = .ok (.aload_n 0, 1) := by decide +kernel
theorem dX8_advance_60 : decode cX8_advance 60 = .ok (.getfield 27, 3) := by decide +kernel
theorem dX8_advance_63 : decode cX8_advance 63 = .ok (.invokevirtual 36, 3) := by decide +kernel
theorem dX8_advance_66 : decode cX8_advance 66 = .ok (.istore_n 1, 1) := by decide +kernel
theorem dX8_advance_67 : decode cX8_advance 67 = .ok (.aload_n 0, 1) := by decide +kernel
theorem dX8_advance_68 : decode cX8_advance 68 = .ok (.getfield 27, 3) := by decide +kernel
theorem dX8_advance_71 : decode cX8_advance 71 = .ok (.aload_n 0, 1) := by decide +kernel
theorem dX8_advance_72 : decode cX8_advance 72 = .ok (.getfield 19, 3) := by decide +kernel
theorem dX8_advance_75 : decode cX8_advance 75 = .ok (.if_icmp .lt 11, 3) := by decide +kernel
theorem dX8_advance_78 : decode cX8_advance 78 = .ok (.aload_n 0, 1) := by decide +kernel
theorem dX8_advance_79 : decode cX8_advance 79 = .ok (.iconst 0, 1) := by decide +kernel
theorem dX8_advance_80 : decode cX8_advance 80 = .ok (.putfield 40, 3) := by decide +kernel
theorem dX8_advance_83 : decode cX8_advance 83 = .ok (.goto 68, 3) := by decide +kernel
theorem dX8_advance_151 : decode cX8_advance 151 = .ok (.return_, 1) := by decide +kernel
theorem dX8_begin_0 : decode cX8_begin 0 = .ok (.aload_n 0, 1) := by decide +kernel
theorem dX8_begin_1 : decode cX8_begin 1 = .ok (.iconst 0, 1) := by decide +kernel
theorem dX8_begin_2 : decode cX8_begin 2 = .ok (.putfield 24, 3) := by decide +kernel
theorem dX8_begin_5 : decode cX8_begin 5 = .ok (.aload_n 0, 1) := by decide +kernel
theorem dX8_begin_6 : decode cX8_begin 6 = .ok (.iconst (-1), 1) := by decide +kernel
theorem dX8_begin_7 : decode cX8_begin 7 = .ok (.putfield 15, 3) := by decide +kernel
theorem dX8_begin_10 : decode cX8_begin 10 = .ok (.aload_n 0, 1) := by decide +kernel
theorem dX8_begin_11 : decode cX8_begin 11 = .ok (.iconst 0, 1) := by decide +kernel
theorem dX8_begin_12 : decode cX8_begin 12 = .ok (.putfield 27, 3) := by decide +kernel
theorem dX8_begin_15 : decode cX8_begin 15 = .ok (.aload_n 0, 1) := by decide +kernel
theorem dX8_begin_16 : decode cX8_begin 16 = .ok (.invokevirtual 30, 3) := by decide +kernel
theorem dX8_begin_19 : decode cX8_begin 19 = .ok (.return_, 1) := by decide +kernel
theorem dX8_isAtEnd_0 : decode cX8_isAtEnd 0 = .ok (.aload_n 0, 1) := by decide +kernel
theorem dX8_isAtEnd_1 : decode cX8_isAtEnd 1 = .ok (.getfield 40, 3) := by decide +kernel
theorem dX8_isAtEnd_4 : decode cX8_isAtEnd 4 = .ok (.ifCond .ne 7, 3) := by decide +kernel
theorem dX8_isAtEnd_7 : decode cX8_isAtEnd 7 = .ok (.iconst 1, 1) := by decide +kernel
theorem dX8_isAtEnd_8 : decode cX8_isAtEnd 8 = .ok (.goto 4, 3) := by decide +kernel
theorem dX8_isAtEnd_12 : decode cX8_isAtEnd 12 = .ok (.ireturn, 1) := by decide +kernel
theorem dX10_makeEmpty_0 : decode cX10_makeEmpty 0 = .ok (.aload_n 0, 1) := by decide +kernel
theorem dX10_makeEmpty_1 : decode cX10_makeEmpty 1 = .ok (.iconst 0, 1) := by decide +kernel
theorem dX10_makeEmpty_2 : decode cX10_makeEmpty 2 = .ok (.putfield 35, 3) := by decide +kernel
theorem dX10_makeEmpty_5 : decode cX10_makeEmpty 5 = .ok (.aload_n 0, 1) := by decide +kernel
theorem dX10_makeEmpty_6 : decode cX10_makeEmpty 6 = .ok (.iconst 0, 1) := by decide +kernel
theorem dX10_makeEmpty_7 : decode cX10_makeEmpty 7 = .ok (.putfield 39, 3) := by decide +kernel
theorem dX10_makeEmpty_10 : decode cX10_makeEmpty 10 = .ok (.aload_n 0, 1) := by decide +kernel
theorem dX10_makeEmpty_11 : decode cX10_makeEmpty 11 = .ok (.iconst 0, 1) := by decide +kernel
theorem dX10_makeEmpty_12 : decode cX10_makeEmpty 12 = .ok (.putfield 42, 3) := by decide +kernel
theorem dX10_makeEmpty_15 : decode cX10_makeEmpty 15 = .ok (.aload_n 0, 1) := by decide +kernel
theorem dX10_makeEmpty_16 : decode cX10_makeEmpty 16 = .ok (.bipush 12, 2) := by decide +kernel
theorem dX10_makeEmpty_18 : decode cX10_makeEmpty 18 = .ok (.putfield 45, 3) := by decide +kernel
theorem dX10_makeEmpty_21 : decode cX10_makeEmpty 21 = .ok (.aload_n 0, 1) := by decide +kernel
theorem dX10_makeEmpty_22 : decode cX10_makeEmpty 22 = .ok (.iconst 1, 1) := by decide +kernel
theorem dX10_makeEmpty_23 : decode cX10_makeEmpty 23 = .ok (.putfield 48, 3) := by decide +kernel
theorem dX10_makeEmpty_26 : decode cX10_makeEmpty 26 = .ok (.aload_n 0, 1) := by decide +kernel
theorem dX10_makeEmpty_27 : decode cX10_makeEmpty 27 = .ok (.iconst 2, 1) := by decide +kernel
theorem dX10_makeEmpty_28 : decode cX10_makeEmpty 28 = .ok (.putfield 51, 3) := by decide +kernel
theorem dX10_makeEmpty_31 : decode cX10_makeEmpty 31 = .ok (.aload_n 0, 1) := by decide +kernel
theorem dX10_makeEmpty_32 : decode cX10_makeEmpty 32 = .ok (.iconst 5, 1) := by decide +kernel
theorem dX10_makeEmpty_33 : decode cX10_makeEmpty 33 = .ok (.putfield 54, 3) := by decide +kernel
theorem dX10_makeEmpty_36 : decode cX10_makeEmpty 36 = .ok (.aload_n 0, 1) := by decide +kernel
theorem dX10_makeEmpty_37 : decode cX10_makeEmpty 37 = .ok (.iconst 3, 1) := by decide +kernel
theorem dX10_makeEmpty_38 : decode cX10_makeEmpty 38 = .ok (.putfield 57, 3) := by decide +kernel
theorem dX10_makeEmpty_41 : decode cX10_makeEmpty 41 = .ok (.aload_n 0, 1) := by decide +kernel
theorem dX10_makeEmpty_42 : decode cX10_makeEmpty 42 = .ok (.iconst 0, 1) := by decide +kernel
theorem dX10_makeEmpty_43 : decode cX10_makeEmpty 43 = .ok (.putfield 60, 3) := by decide +kernel
theorem dX10_makeEmpty_46 : decode cX10_makeEmpty 46 = .ok (.aload_n 0, 1) := by decide +kernel
theorem dX10_makeEmpty_47 : decode cX10_makeEmpty 47 = .ok (.iconst 0, 1) := by decide +kernel
theorem dX10_makeEmpty_48 : decode cX10_makeEmpty 48 = .ok (.putfield 63, 3) := by decide +kernel
theorem dX10_makeEmpty_51 : decode cX10_makeEmpty 51 = .ok (.return_, 1) := by decide +kernel
theorem dX10_foldDays_0 : decode cX10_foldDays 0 = .ok (.iconst 0, 1) := by decide +kernel
theorem dX10_foldDays_1 : decode cX10_foldDays 1 = .ok (.istore_n 1, 1) := by decide +kernel
theorem dX10_foldDays_2 : decode cX10_foldDays 2 = .ok (.iload_n 1, 1) := by decide +kernel
theorem dX10_foldDays_3 : decode cX10_foldDays 3 = .ok (.aload_n 0, 1) := by decide +kernel
theorem dX10_foldDays_4 : decode cX10_foldDays 4 = .ok (.getfield 35, 3) := by decide +kernel
theorem dX10_foldDays_7 : decode cX10_foldDays 7 = .ok (.if_icmp .ge 49, 3) := by decide +kernel
theorem dX10_foldDays_56 : decode cX10_foldDays 56 = .ok (.return_, 1) := by decide +kernel
theorem dX10_copyFrom_0 : decode cX10_copyFrom 0 = .ok (.aload_n 0, 1) := by decide +kernel
theorem dX10_copyFrom_1 : decode cX10_copyFrom 1 = .ok (.aload_n 1, 1) := by decide +kernel
theorem dX10_copyFrom_2 : decode cX10_copyFrom 2 = .ok (.getfield 35, 3) := by decide +kernel
theorem dX10_copyFrom_5 : decode cX10_copyFrom 5 = .ok (.putfield 35, 3) := by decide +kernel
theorem dX10_copyFrom_8 : decode cX10_copyFrom 8 = .ok (.aload_n 0, 1) := by decide +kernel
theorem dX10_copyFrom_9 : decode cX10_copyFrom 9 = .ok (.aload_n 1, 1) := by decide +kernel
theorem dX10_copyFrom_10 : decode cX10_copyFrom 10 = .ok (.getfield 39, 3) := by decide +kernel
theorem dX10_copyFrom_13 : decode cX10_copyFrom 13 = .ok (.putfield 39, 3) := by decide +kernel
theorem dX10_copyFrom_16 : decode cX10_copyFrom 16 = .ok (.aload_n 0, 1) := by decide +kernel
theorem dX10_copyFrom_17 : decode cX10_copyFrom 17 = .ok (.aload_n 1, 1) := by decide +kernel
theorem dX10_copyFrom_18 : decode cX10_copyFrom 18 = .ok (.getfield 42, 3) := by decide +kernel
theorem dX10_copyFrom_21 : decode cX10_copyFrom 21 = .ok (.putfield 42, 3) := by decide +kernel
theorem dX10_copyFrom_24 : decode cX10_copyFrom 24 = .ok (.aload_n 0, 1) := by decide +kernel
theorem dX10_copyFrom_25 : decode cX10_copyFrom 25 = .ok (.aload_n 1, 1) := by decide +kernel
theorem dX10_copyFrom_26 : decode cX10_copyFrom 26 = .ok (.getfield 45, 3) := by decide +kernel
theorem dX10_copyFrom_29 : decode cX10_copyFrom 29 = .ok (.putfield 45, 3) := by decide +kernel
theorem dX10_copyFrom_32 : decode cX10_copyFrom 32 = .ok (.aload_n 0, 1) := by decide +kernel
theorem dX10_copyFrom_33 : decode cX10_copyFrom 33 = .ok (.aload_n 1, 1) := by decide +kernel
theorem dX10_copyFrom_34 : decode cX10_copyFrom 34 = .ok (.getfield 48, 3) := by decide +kernel
theorem dX10_copyFrom_37 : decode cX10_copyFrom 37 = .ok (.putfield 48, 3) := by decide +kernel
theorem dX10_copyFrom_40 : decode cX10_copyFrom 40 = .ok (.aload_n 0, 1) := by decide +kernel
theorem dX10_copyFrom_41 : decode cX10_copyFrom 41 = .ok (.aload_n 1, 1) := by decide +kernel
theorem dX10_copyFrom_42 : decode cX10_copyFrom 42 = .ok (.getfield 51, 3) := by decide +kernel
theorem dX10_copyFrom_45 : decode cX10_copyFrom 45 = .ok (.putfield 51, 3) := by decide +kernel
theorem dX10_copyFrom_48 : decode cX10_copyFrom 48 = .ok (.aload_n 0, 1) := by decide +kernel
theorem dX10_copyFrom_49 : decode cX10_copyFrom 49 = .ok (.aload_n 1, 1) := by decide +kernel
theorem dX10_copyFrom_50 : decode cX10_copyFrom 50 = .ok (.getfield 54, 3) := by decide +kernel
theorem dX10_copyFrom_53 : decode cX10_copyFrom 53 = .ok (.putfield 54, 3) := by decide +kernel
theorem dX10_copyFrom_56 : decode cX10_copyFrom 56 = .ok (.aload_n 0, 1) := by decide +kernel
theorem dX10_copyFrom_57 : decode cX10_copyFrom 57 = .ok (.aload_n 1, 1) := by decide +kernel
theorem dX10_copyFrom_58 : decode cX10_copyFrom 58 = .ok (.getfield 57, 3) := by decide +kernel
theorem dX10_copyFrom_61 : decode cX10_copyFrom 61 = .ok (.putfield 57, 3) := by decide +kernel
theorem dX10_copyFrom_64 : decode cX10_copyFrom 64 = .ok (.aload_n 0, 1) := by decide +kernel
theorem dX10_copyFrom_65 : decode cX10_copyFrom 65 = .ok (.aload_n 1, 1) := by decide +kernel
theorem dX10_copyFrom_66 : decode cX10_copyFrom 66 = .ok (.getfield 60, 3) := by decide +kernel
theorem dX10_copyFrom_69 : decode cX10_copyFrom 69 = .ok (.putfield 60, 3) := by decide +kernel
theorem dX10_copyFrom_72 : decode cX10_copyFrom 72 = .ok (.aload_n 0, 1) := by decide +kernel
theorem dX10_copyFrom_73 : decode cX10_copyFrom 73 = .ok (.aload_n 1, 1) := by decide +kernel
theorem dX10_copyFrom_74 : decode cX10_copyFrom 74 = .ok (.getfield 63, 3) := by decide +kernel
theorem dX10_copyFrom_77 : decode cX10_copyFrom 77 = .ok (.putfield 63, 3) := by decide +kernel
theorem dX10_copyFrom_80 : decode cX10_copyFrom 80 = .ok (.iconst 0, 1) := by decide +kernel
theorem dX10_copyFrom_81 : decode cX10_copyFrom 81 = .ok (.istore_n 2, 1) := by decide +kernel
theorem dX10_copyFrom_82 : decode cX10_copyFrom 82 = .ok (.iload_n 2, 1) := by decide +kernel
theorem dX10_copyFrom_83 : decode cX10_copyFrom 83 = .ok (.aload_n 0, 1) := by decide +kernel
theorem dX10_copyFrom_84 : decode cX10_copyFrom 84 = .ok (.getfield 35, 3) := by decide +kernel
theorem dX10_copyFrom_87 : decode cX10_copyFrom 87 = .ok (.if_icmp .ge 22, 3) := by decide +kernel
theorem dX10_copyFrom_109 : decode cX10_copyFrom 109 = .ok (.iconst 0, 1) := by decide +kernel
theorem dX10_copyFrom_110 : decode cX10_copyFrom 110 = .ok (.istore_n 2, 1) := by decide +kernel
theorem dX10_copyFrom_111 : decode cX10_copyFrom 111 = .ok (.iload_n 2, 1) := by decide +kernel
theorem dX10_copyFrom_112 : decode cX10_copyFrom 112 = .ok (.aload_n 0, 1) := by decide +kernel
theorem dX10_copyFrom_113 : decode cX10_copyFrom 113 = .ok (.getfield 39, 3) := by decide +kernel
theorem dX10_copyFrom_116 : decode cX10_copyFrom 116 = .ok (.if_icmp .ge 22, 3) := by decide +kernel
theorem dX10_copyFrom_138 : decode cX10_copyFrom 138 = .ok (.iconst 0, 1) := by decide +kernel
theorem dX10_copyFrom_139 : decode cX10_copyFrom 139 = .ok (.istore_n 2, 1) := by decide +kernel
theorem dX10_copyFrom_140 : decode cX10_copyFrom 140 = .ok (.iload_n 2, 1) := by decide +kernel
theorem dX10_copyFrom_141 : decode cX10_copyFrom 141 = .ok (.aload_n 0, 1) := by decide +kernel
theorem dX10_copyFrom_142 : decode cX10_copyFrom 142 = .ok (.getfield 42, 3) := by decide +kernel
theorem dX10_copyFrom_145 : decode cX10_copyFrom 145 = .ok (.if_icmp .ge 22, 3) := by decide +kernel
theorem dX10_copyFrom_167 : decode cX10_copyFrom 167 = .ok (.return_, 1) := by decide +kernel
theorem dX9_readAll_0 : decode cX9_readAll 0 = .ok (.aload_n 0, 1) := by decide +kernel
theorem dX9_readAll_1 : decode cX9_readAll 1 = .ok (.iconst 0, 1) := by decide +kernel
theorem dX9_readAll_2 : decode cX9_readAll 2 = .ok (.putfield 9, 3) := by decide +kernel
theorem dX9_readAll_5 : decode cX9_readAll 5 = .ok (.aload_n 0, 1) := by decide +kernel
theorem dX9_readAll_6 : decode cX9_readAll 6 = .ok (.iconst 0, 1) := by decide +kernel
theorem dX9_readAll_7 : decode cX9_readAll 7 = .ok (.putfield 15, 3) := by decide +kernel
theorem dX9_readAll_10 : decode cX9_readAll 10 = .ok (.aload_n 0, 1) := by decide +kernel
theorem dX9_readAll_11 : decode cX9_readAll 11 = .ok (.iconst 0, 1) := by decide +kernel
theorem dX9_readAll_12 : decode cX9_readAll 12 = .ok (.putfield 18, 3) := by decide +kernel
theorem dX9_readAll_15 : decode cX9_readAll 15 = .ok (.aload_n 2, 1) := by decide +kernel
theorem dX9_readAll_16 : decode cX9_readAll 16 = .ok (.invokevirtual 21, 3) := by decide +kernel
theorem dX9_readAll_19 : decode cX9_readAll 19 = .ok (.aload_n 1, 1) := by decide +kernel
theorem dX9_readAll_20 : decode cX9_readAll 20 = .ok (.invokevirtual 26, 3) := by decide +kernel
theorem dX9_readAll_23 : decode cX9_readAll 23 = .ok (.iconst 0, 1) := by decide +kernel
theorem dX9_readAll_24 : decode cX9_readAll 24 = .ok (.istore_n 3, 1) := by decide +kernel
theorem dX9_readAll_25 : decode cX9_readAll 25 = .ok (.iload_n 3, 1) := by decide +kernel
theorem dX9_readAll_26 : decode cX9_readAll 26 = .ok (.sipush 600, 3) := by decide +kernel
theorem dX9_readAll_29 : decode cX9_readAll 29 = .ok (.if_icmp .gt 36, 3) := by decide +kernel
theorem dX9_readAll_32 : decode cX9_readAll 32 = .ok (.aload_n 1, 1) := by decide +kernel
theorem dX9_readAll_33 : decode cX9_readAll 33 = .ok (.invokevirtual 31, 3) := by decide +kernel
theorem dX9_readAll_36 : decode cX9_readAll 36 = .ok (.ifCond .ne 29, 3) := by decide +kernel
theorem dX9_readAll_65 : decode cX9_readAll 65 = .ok (.aload_n 2, 1) := by decide +kernel
theorem dX9_readAll_66 : decode cX9_readAll 66 = .ok (.invokevirtual 43, 3) := by decide +kernel
theorem dX9_readAll_69 : decode cX9_readAll 69 = .ok (.iconst 1, 1) := by decide +kernel
theorem dX9_readAll_70 : decode cX9_readAll 70 = .ok (.ireturn, 1) := by decide +kernel
theorem dX7_readAll_0 : decode cX7_readAll 0 = .ok (.aload_n 0, 1) := by decide +kernel
theorem dX7_readAll_1 : decode cX7_readAll 1 = .ok (.iconst 0, 1) := by decide +kernel
theorem dX7_readAll_2 : decode cX7_readAll 2 = .ok (.putfield 18, 3) := by decide +kernel
theorem dX7_readAll_5 : decode cX7_readAll 5 = .ok (.aload_n 0, 1) := by decide +kernel
theorem dX7_readAll_6 : decode cX7_readAll 6 = .ok (.iconst (-1), 1) := by decide +kernel
theorem dX7_readAll_7 : decode cX7_readAll 7 = .ok (.putfield 22, 3) := by decide +kernel
theorem dX7_readAll_10 : decode cX7_readAll 10 = .ok (.aload_n 0, 1) := by decide +kernel
theorem dX7_readAll_11 : decode cX7_readAll 11 = .ok (.iconst 0, 1) := by decide +kernel
theorem dX7_readAll_12 : decode cX7_readAll 12 = .ok (.putfield 25, 3) := by decide +kernel
theorem dX7_readAll_15 : decode cX7_readAll 15 = .ok (.aload_n 1, 1) := by decide +kernel
theorem dX7_readAll_16 : decode cX7_readAll 16 = .ok (.invokevirtual 28, 3) := by decide +kernel
theorem dX7_readAll_19 : decode cX7_readAll 19 = .ok (.iconst 0, 1) := by decide +kernel
theorem dX7_readAll_20 : decode cX7_readAll 20 = .ok (.istore_n 3, 1) := by decide +kernel
theorem dX7_readAll_21 : decode cX7_readAll 21 = .ok (.iload_n 3, 1) := by decide +kernel
theorem dX7_readAll_22 : decode cX7_readAll 22 = .ok (.sipush 600, 3) := by decide +kernel
theorem dX7_readAll_25 : decode cX7_readAll 25 = .ok (.if_icmp .gt 56, 3) := by decide +kernel
theorem dX7_readAll_28 : decode cX7_readAll 28 = .ok (.aload_n 1, 1) := by decide +kernel
theorem dX7_readAll_29 : decode cX7_readAll 29 = .ok (.invokevirtual 33, 3) := by decide +kernel
theorem dX7_readAll_32 : decode cX7_readAll 32 = .ok (.ifCond .ne 49, 3) := by decide +kernel
theorem dX7_readAll_81 : decode cX7_readAll 81 = .ok (.aload_n 0, 1) := by decide +kernel
theorem dX7_readAll_82 : decode cX7_readAll 82 = .ok (.getfield 22, 3) := by decide +kernel
theorem dX7_readAll_85 : decode cX7_readAll 85 = .ok (.iconst (-1), 1) := by decide +kernel
theorem dX7_readAll_86 : decode cX7_readAll 86 = .ok (.if_icmp .eq 11, 3) := by decide +kernel
theorem dX7_readAll_97 : decode cX7_readAll 97 = .ok (.iconst 1, 1) := by decide +kernel
theorem dX7_readAll_98 : decode cX7_readAll 98 = .ok (.goto 4, 3) := by decide +kernel
theorem dX7_readAll_102 : decode cX7_readAll 102 = .ok (.ireturn, 1) := by decide +kernel
theorem dX7_commandAt_0 : decode cX7_commandAt 0 = .ok (.aload_n 0, 1) := by decide +kernel
theorem dX7_commandAt_1 : decode cX7_commandAt 1 = .ok (.getfield 13, 3) := by decide +kernel
theorem dX7_commandAt_4 : decode cX7_commandAt 4 = .ok (.iload_n 1, 1) := by decide +kernel
theorem dX7_commandAt_5 : decode cX7_commandAt 5 = .ok (.ifCond .lt 16, 3) := by decide +kernel
theorem dX7_commandAt_21 : decode cX7_commandAt 21 = .ok (.iconst 0, 1) := by decide +kernel
theorem dX7_commandAt_22 : decode cX7_commandAt 22 = .ok (.aaload, 1) := by decide +kernel
theorem dX7_commandAt_23 : decode cX7_commandAt 23 = .ok (.areturn, 1) := by decide +kernel
theorem dX7_commandAt_8 : decode cX7_commandAt 8 = .ok (.iload_n 1, 1) := by decide +kernel
theorem dX7_commandAt_9 : decode cX7_commandAt 9 = .ok (.aload_n 0, 1) := by decide +kernel
theorem dX7_commandAt_10 : decode cX7_commandAt 10 = .ok (.getfield 13, 3) := by decide +kernel
theorem dX7_commandAt_13 : decode cX7_commandAt 13 = .ok (.arraylength, 1) := by decide +kernel
theorem dX7_commandAt_14 : decode cX7_commandAt 14 = .ok (.if_icmp .ge 7, 3) := by decide +kernel
theorem dX7_commandAt_17 : decode cX7_commandAt 17 = .ok (.iload_n 1, 1) := by decide +kernel
theorem dX7_commandAt_18 : decode cX7_commandAt 18 = .ok (.goto 4, 3) := by decide +kernel
theorem dX7_runOn_0 : decode cX7_runOn 0 = .ok (.aload_n 0, 1) := by decide +kernel
theorem dX7_runOn_1 : decode cX7_runOn 1 = .ok (.iconst 0, 1) := by decide +kernel
theorem dX7_runOn_2 : decode cX7_runOn 2 = .ok (.putfield 124, 3) := by decide +kernel
theorem dX7_runOn_5 : decode cX7_runOn 5 = .ok (.aload_n 0, 1) := by decide +kernel
theorem dX7_runOn_6 : decode cX7_runOn 6 = .ok (.iconst (-1), 1) := by decide +kernel
theorem dX7_runOn_7 : decode cX7_runOn 7 = .ok (.putfield 22, 3) := by decide +kernel
theorem dX7_runOn_10 : decode cX7_runOn 10 = .ok (.iconst 0, 1) := by decide +kernel
theorem dX7_runOn_11 : decode cX7_runOn 11 = .ok (.istore_n 2, 1) := by decide +kernel
theorem dX7_runOn_12 : decode cX7_runOn 12 = .ok (.iconst 0, 1) := by decide +kernel
theorem dX7_runOn_13 : decode cX7_runOn 13 = .ok (.istore_n 3, 1) := by decide +kernel
theorem dX7_runOn_14 : decode cX7_runOn 14 = .ok (.iload_n 3, 1) := by decide +kernel
theorem dX7_runOn_15 : decode cX7_runOn 15 = .ok (.ldc 127, 2) := by decide +kernel
theorem dX7_runOn_17 : decode cX7_runOn 17 = .ok (.if_icmp .ge 128, 3) := by decide +kernel
theorem dX7_runOn_20 : decode cX7_runOn 20 = .ok (.aload_n 0, 1) := by decide +kernel
theorem dX7_runOn_21 : decode cX7_runOn 21 = .ok (.getfield 124, 3) := by decide +kernel
theorem dX7_runOn_24 : decode cX7_runOn 24 = .ok (.bipush 40, 2) := by decide +kernel
theorem dX7_runOn_26 : decode cX7_runOn 26 = .ok (.if_icmp .ge 119, 3) := by decide +kernel
theorem dX7_runOn_29 : decode cX7_runOn 29 = .ok (.aload_n 0, 1) := by decide +kernel
theorem dX7_runOn_30 : decode cX7_runOn 30 = .ok (.iload_n 2, 1) := by decide +kernel
theorem dX7_runOn_31 : decode cX7_runOn 31 = .ok (.invokevirtual 74, 3) := by decide +kernel
theorem dX7_runOn_34 : decode cX7_runOn 34 = .ok (.astore 4, 2) := by decide +kernel
theorem dX7_runOn_36 : decode cX7_runOn 36 = .ok (.aload_n 0, 1) := by decide +kernel
theorem dX7_runOn_37 : decode cX7_runOn 37 = .ok (.getfield 22, 3) := by decide +kernel
theorem dX7_runOn_40 : decode cX7_runOn 40 = .ok (.iconst (-1), 1) := by decide +kernel
theorem dX7_runOn_41 : decode cX7_runOn 41 = .ok (.if_icmp .eq 27, 3) := by decide +kernel
theorem dX7_runOn_68 : decode cX7_runOn 68 = .ok (.iload_n 2, 1) := by decide +kernel
theorem dX7_runOn_69 : decode cX7_runOn 69 = .ok (.aload_n 0, 1) := by decide +kernel
theorem dX7_runOn_70 : decode cX7_runOn 70 = .ok (.getfield 18, 3) := by decide +kernel
theorem dX7_runOn_73 : decode cX7_runOn 73 = .ok (.if_icmp .lt 8, 3) := by decide +kernel
theorem dX7_runOn_76 : decode cX7_runOn 76 = .ok (.aload_n 0, 1) := by decide +kernel
theorem dX7_runOn_77 : decode cX7_runOn 77 = .ok (.getfield 124, 3) := by decide +kernel
theorem dX7_runOn_80 : decode cX7_runOn 80 = .ok (.ireturn, 1) := by decide +kernel
theorem dX2_forget_0 : decode cX2_forget 0 = .ok (.aload_n 0, 1) := by decide +kernel
theorem dX2_forget_1 : decode cX2_forget 1 = .ok (.iconst 0, 1) := by decide +kernel
theorem dX2_forget_2 : decode cX2_forget 2 = .ok (.putfield 16, 3) := by decide +kernel
theorem dX2_forget_5 : decode cX2_forget 5 = .ok (.return_, 1) := by decide +kernel
theorem dX2_keep_0 : decode cX2_keep 0 = .ok (.aload_n 0, 1) := by decide +kernel
theorem dX2_keep_1 : decode cX2_keep 1 = .ok (.getfield 20, 3) := by decide +kernel
theorem dX2_keep_4 : decode cX2_keep 4 = .ok (.ifCond .lt 15, 3) := by decide +kernel
theorem dX2_keep_7 : decode cX2_keep 7 = .ok (.aload_n 0, 1) := by decide +kernel
theorem dX2_keep_8 : decode cX2_keep 8 = .ok (.getfield 20, 3) := by decide +kernel
theorem dX2_keep_11 : decode cX2_keep 11 = .ok (.aload_n 0, 1) := by decide +kernel
theorem dX2_keep_12 : decode cX2_keep 12 = .ok (.getfield 11, 3) := by decide +kernel
theorem dX2_keep_15 : decode cX2_keep 15 = .ok (.arraylength, 1) := by decide +kernel
theorem dX2_keep_16 : decode cX2_keep 16 = .ok (.if_icmp .lt 8, 3) := by decide +kernel
theorem dX2_keep_24 : decode cX2_keep 24 = .ok (.aload_n 0, 1) := by decide +kernel
theorem dX2_keep_25 : decode cX2_keep 25 = .ok (.getfield 11, 3) := by decide +kernel
theorem dX2_keep_28 : decode cX2_keep 28 = .ok (.aload_n 0, 1) := by decide +kernel
theorem dX2_keep_29 : decode cX2_keep 29 = .ok (.getfield 20, 3) := by decide +kernel
theorem dX2_keep_32 : decode cX2_keep 32 = .ok (.aaload, 1) := by decide +kernel
theorem dX2_keep_33 : decode cX2_keep 33 = .ok (.aload_n 1, 1) := by decide +kernel
theorem dX2_keep_34 : decode cX2_keep 34 = .ok (.invokevirtual 23, 3) := by decide +kernel
theorem dX2_keep_37 : decode cX2_keep 37 = .ok (.aload_n 0, 1) := by decide +kernel
theorem dX2_keep_38 : decode cX2_keep 38 = .ok (.dup, 1) := by decide +kernel
theorem dX2_keep_39 : decode cX2_keep 39 = .ok (.getfield 20, 3) := by decide +kernel
theorem dX2_keep_42 : decode cX2_keep 42 = .ok (.iconst 1, 1) := by decide +kernel
theorem dX2_keep_43 : decode cX2_keep 43 = .ok (.iadd, 1) := by decide +kernel
theorem dX2_keep_44 : decode cX2_keep 44 = .ok (.putfield 20, 3) := by decide +kernel
theorem dX2_keep_47 : decode cX2_keep 47 = .ok (.aload_n 0, 1) := by decide +kernel
theorem dX2_keep_48 : decode cX2_keep 48 = .ok (.bipush 6, 2) := by decide +kernel
theorem dX2_keep_50 : decode cX2_keep 50 = .ok (.aload_n 0, 1) := by decide +kernel
theorem dX2_keep_51 : decode cX2_keep 51 = .ok (.getfield 16, 3) := by decide +kernel
theorem dX2_keep_54 : decode cX2_keep 54 = .ok (.iconst 1, 1) := by decide +kernel
theorem dX2_keep_55 : decode cX2_keep 55 = .ok (.iadd, 1) := by decide +kernel
theorem dX2_keep_56 : decode cX2_keep 56 = .ok (.invokestatic 27, 3) := by decide +kernel
theorem dX2_keep_59 : decode cX2_keep 59 = .ok (.putfield 16, 3) := by decide +kernel
theorem dX2_keep_62 : decode cX2_keep 62 = .ok (.return_, 1) := by decide +kernel
theorem dX2_takeBack_0 : decode cX2_takeBack 0 = .ok (.aload_n 0, 1) := by decide +kernel
theorem dX2_takeBack_1 : decode cX2_takeBack 1 = .ok (.getfield 16, 3) := by decide +kernel
theorem dX2_takeBack_4 : decode cX2_takeBack 4 = .ok (.ifCond .ne 5, 3) := by decide +kernel
theorem dX2_takeBack_7 : decode cX2_takeBack 7 = .ok (.iconst 0, 1) := by decide +kernel
theorem dX2_takeBack_8 : decode cX2_takeBack 8 = .ok (.ireturn, 1) := by decide +kernel
theorem dX10_notOut_0 : decode cX10_notOut 0 = .ok (.iconst 0, 1) := by decide +kernel
theorem dX10_notOut_1 : decode cX10_notOut 1 = .ok (.istore_n 1, 1) := by decide +kernel
theorem dX10_notOut_2 : decode cX10_notOut 2 = .ok (.iconst 0, 1) := by decide +kernel
theorem dX10_notOut_3 : decode cX10_notOut 3 = .ok (.istore_n 2, 1) := by decide +kernel
theorem dX10_notOut_4 : decode cX10_notOut 4 = .ok (.iload_n 2, 1) := by decide +kernel
theorem dX10_notOut_5 : decode cX10_notOut 5 = .ok (.aload_n 0, 1) := by decide +kernel
theorem dX10_notOut_6 : decode cX10_notOut 6 = .ok (.getfield 35, 3) := by decide +kernel
theorem dX10_notOut_9 : decode cX10_notOut 9 = .ok (.if_icmp .ge 26, 3) := by decide +kernel
theorem dX10_notOut_35 : decode cX10_notOut 35 = .ok (.iload_n 1, 1) := by decide +kernel
theorem dX10_notOut_36 : decode cX10_notOut 36 = .ok (.ireturn, 1) := by decide +kernel
theorem dX10_messagesInState_0 : decode cX10_messagesInState 0 = .ok (.iconst 0, 1) := by decide +kernel
theorem dX10_messagesInState_1 : decode cX10_messagesInState 1 = .ok (.istore_n 2, 1) := by decide +kernel
theorem dX10_messagesInState_2 : decode cX10_messagesInState 2 = .ok (.iconst 0, 1) := by decide +kernel
theorem dX10_messagesInState_3 : decode cX10_messagesInState 3 = .ok (.istore_n 3, 1) := by decide +kernel
theorem dX10_messagesInState_4 : decode cX10_messagesInState 4 = .ok (.iload_n 3, 1) := by decide +kernel
theorem dX10_messagesInState_5 : decode cX10_messagesInState 5 = .ok (.aload_n 0, 1) := by decide +kernel
theorem dX10_messagesInState_6 : decode cX10_messagesInState 6 = .ok (.getfield 42, 3) := by decide +kernel
theorem dX10_messagesInState_9 : decode cX10_messagesInState 9 = .ok (.if_icmp .ge 24, 3) := by decide +kernel
theorem dX10_messagesInState_33 : decode cX10_messagesInState 33 = .ok (.iload_n 2, 1) := by decide +kernel
theorem dX10_messagesInState_34 : decode cX10_messagesInState 34 = .ok (.ireturn, 1) := by decide +kernel
theorem dX10_messagesInTime_0 : decode cX10_messagesInTime 0 = .ok (.iconst 0, 1) := by decide +kernel
theorem dX10_messagesInTime_1 : decode cX10_messagesInTime 1 = .ok (.istore_n 1, 1) := by decide +kernel
theorem dX10_messagesInTime_2 : decode cX10_messagesInTime 2 = .ok (.iconst 0, 1) := by decide +kernel
theorem dX10_messagesInTime_3 : decode cX10_messagesInTime 3 = .ok (.istore_n 2, 1) := by decide +kernel
theorem dX10_messagesInTime_4 : decode cX10_messagesInTime 4 = .ok (.iload_n 2, 1) := by decide +kernel
theorem dX10_messagesInTime_5 : decode cX10_messagesInTime 5 = .ok (.aload_n 0, 1) := by decide +kernel
theorem dX10_messagesInTime_6 : decode cX10_messagesInTime 6 = .ok (.getfield 42, 3) := by decide +kernel
theorem dX10_messagesInTime_9 : decode cX10_messagesInTime 9 = .ok (.if_icmp .ge 37, 3) := by decide +kernel
theorem dX10_messagesInTime_46 : decode cX10_messagesInTime 46 = .ok (.iload_n 1, 1) := by decide +kernel
theorem dX10_messagesInTime_47 : decode cX10_messagesInTime 47 = .ok (.ireturn, 1) := by decide +kernel
theorem dX10_figure_0 : decode cX10_figure 0 = .ok (.iload_n 1, 1) := by decide +kernel
theorem dX10_figure_1 : decode cX10_figure 1 = .ok (.tableswitch 101 0 8 #[51, 56, 61, 66, 71, 76, 82, 87, 93], 51) := by decide +kernel
theorem dX10_figure_52 : decode cX10_figure 52 = .ok (.aload_n 0, 1) := by decide +kernel
theorem dX10_figure_53 : decode cX10_figure 53 = .ok (.getfield 35, 3) := by decide +kernel
theorem dX10_figure_56 : decode cX10_figure 56 = .ok (.ireturn, 1) := by decide +kernel
theorem dX10_figure_57 : decode cX10_figure 57 = .ok (.aload_n 0, 1) := by decide +kernel
theorem dX10_figure_58 : decode cX10_figure 58 = .ok (.getfield 39, 3) := by decide +kernel
theorem dX10_figure_61 : decode cX10_figure 61 = .ok (.ireturn, 1) := by decide +kernel
theorem dX10_figure_62 : decode cX10_figure 62 = .ok (.aload_n 0, 1) := by decide +kernel
theorem dX10_figure_63 : decode cX10_figure 63 = .ok (.getfield 45, 3) := by decide +kernel
theorem dX10_figure_66 : decode cX10_figure 66 = .ok (.ireturn, 1) := by decide +kernel
theorem dX10_figure_67 : decode cX10_figure 67 = .ok (.aload_n 0, 1) := by decide +kernel
theorem dX10_figure_68 : decode cX10_figure 68 = .ok (.getfield 60, 3) := by decide +kernel
theorem dX10_figure_71 : decode cX10_figure 71 = .ok (.ireturn, 1) := by decide +kernel
theorem dX10_figure_72 : decode cX10_figure 72 = .ok (.aload_n 0, 1) := by decide +kernel
theorem dX10_figure_73 : decode cX10_figure 73 = .ok (.getfield 42, 3) := by decide +kernel
theorem dX10_figure_76 : decode cX10_figure 76 = .ok (.ireturn, 1) := by decide +kernel
theorem dX10_figure_77 : decode cX10_figure 77 = .ok (.aload_n 0, 1) := by decide +kernel
theorem dX10_figure_78 : decode cX10_figure 78 = .ok (.iconst 1, 1) := by decide +kernel
theorem dX10_figure_79 : decode cX10_figure 79 = .ok (.invokevirtual 188, 3) := by decide +kernel
theorem dX10_figure_82 : decode cX10_figure 82 = .ok (.ireturn, 1) := by decide +kernel
theorem dX10_figure_83 : decode cX10_figure 83 = .ok (.aload_n 0, 1) := by decide +kernel
theorem dX10_figure_84 : decode cX10_figure 84 = .ok (.invokevirtual 191, 3) := by decide +kernel
theorem dX10_figure_87 : decode cX10_figure 87 = .ok (.ireturn, 1) := by decide +kernel
theorem dX10_figure_88 : decode cX10_figure 88 = .ok (.aload_n 0, 1) := by decide +kernel
theorem dX10_figure_89 : decode cX10_figure 89 = .ok (.iconst 2, 1) := by decide +kernel
theorem dX10_figure_90 : decode cX10_figure 90 = .ok (.invokevirtual 188, 3) := by decide +kernel
theorem dX10_figure_93 : decode cX10_figure 93 = .ok (.ireturn, 1) := by decide +kernel
theorem dX10_figure_94 : decode cX10_figure 94 = .ok (.aload_n 0, 1) := by decide +kernel
theorem dX10_figure_95 : decode cX10_figure 95 = .ok (.invokevirtual 195, 3) := by decide +kernel
theorem dX10_figure_98 : decode cX10_figure 98 = .ok (.invokestatic 198, 3) := by decide +kernel
theorem dX10_figure_101 : decode cX10_figure 101 = .ok (.ireturn, 1) := by decide +kernel
theorem dX10_figure_102 : decode cX10_figure 102 = .ok (.aload_n 0, 1) := by decide +kernel
theorem dX10_figure_103 : decode cX10_figure 103 = .ok (.getfield 63, 3) := by decide +kernel
theorem dX10_figure_106 : decode cX10_figure 106 = .ok (.ireturn, 1) := by decide +kernel
theorem dX10_awakeAfter_0 : decode cX10_awakeAfter 0 = .ok (.iconst 0, 1) := by decide +kernel
theorem dX10_awakeAfter_1 : decode cX10_awakeAfter 1 = .ok (.istore_n 2, 1) := by decide +kernel
theorem dX10_awakeAfter_2 : decode cX10_awakeAfter 2 = .ok (.iconst 0, 1) := by decide +kernel
theorem dX10_awakeAfter_3 : decode cX10_awakeAfter 3 = .ok (.istore_n 3, 1) := by decide +kernel
theorem dX10_awakeAfter_4 : decode cX10_awakeAfter 4 = .ok (.iload_n 3, 1) := by decide +kernel
theorem dX10_awakeAfter_5 : decode cX10_awakeAfter 5 = .ok (.aload_n 0, 1) := by decide +kernel
theorem dX10_awakeAfter_6 : decode cX10_awakeAfter 6 = .ok (.getfield 35, 3) := by decide +kernel
theorem dX10_awakeAfter_9 : decode cX10_awakeAfter 9 = .ok (.if_icmp .ge 32, 3) := by decide +kernel
theorem dX10_awakeAfter_41 : decode cX10_awakeAfter 41 = .ok (.iload_n 2, 1) := by decide +kernel
theorem dX10_awakeAfter_42 : decode cX10_awakeAfter 42 = .ok (.ireturn, 1) := by decide +kernel
theorem dX10_latestMeetingLink_0 : decode cX10_latestMeetingLink 0 = .ok (.iconst (-1), 1) := by decide +kernel
theorem dX10_latestMeetingLink_1 : decode cX10_latestMeetingLink 1 = .ok (.istore_n 1, 1) := by decide +kernel
theorem dX10_latestMeetingLink_2 : decode cX10_latestMeetingLink 2 = .ok (.iconst 0, 1) := by decide +kernel
theorem dX10_latestMeetingLink_3 : decode cX10_latestMeetingLink 3 = .ok (.istore_n 2, 1) := by decide +kernel
theorem dX10_latestMeetingLink_4 : decode cX10_latestMeetingLink 4 = .ok (.iconst 0, 1) := by decide +kernel
theorem dX10_latestMeetingLink_5 : decode cX10_latestMeetingLink 5 = .ok (.istore_n 3, 1) := by decide +kernel
theorem dX10_latestMeetingLink_6 : decode cX10_latestMeetingLink 6 = .ok (.iload_n 3, 1) := by decide +kernel
theorem dX10_latestMeetingLink_7 : decode cX10_latestMeetingLink 7 = .ok (.aload_n 0, 1) := by decide +kernel
theorem dX10_latestMeetingLink_8 : decode cX10_latestMeetingLink 8 = .ok (.getfield 39, 3) := by decide +kernel
theorem dX10_latestMeetingLink_11 : decode cX10_latestMeetingLink 11 = .ok (.if_icmp .ge 55, 3) := by decide +kernel
theorem dX10_latestMeetingLink_66 : decode cX10_latestMeetingLink 66 = .ok (.iload_n 1, 1) := by decide +kernel
theorem dX10_latestMeetingLink_67 : decode cX10_latestMeetingLink 67 = .ok (.ireturn, 1) := by decide +kernel
theorem dX10_ticksToMostAwake_0 : decode cX10_ticksToMostAwake 0 = .ok (.iconst 1, 1) := by decide +kernel
theorem dX10_ticksToMostAwake_1 : decode cX10_ticksToMostAwake 1 = .ok (.istore_n 1, 1) := by decide +kernel
theorem dX10_ticksToMostAwake_2 : decode cX10_ticksToMostAwake 2 = .ok (.iconst 0, 1) := by decide +kernel
theorem dX10_ticksToMostAwake_3 : decode cX10_ticksToMostAwake 3 = .ok (.istore_n 2, 1) := by decide +kernel
theorem dX10_ticksToMostAwake_4 : decode cX10_ticksToMostAwake 4 = .ok (.iconst 1, 1) := by decide +kernel
theorem dX10_ticksToMostAwake_5 : decode cX10_ticksToMostAwake 5 = .ok (.istore_n 3, 1) := by decide +kernel
theorem dX10_ticksToMostAwake_6 : decode cX10_ticksToMostAwake 6 = .ok (.iload_n 3, 1) := by decide +kernel
theorem dX10_ticksToMostAwake_7 : decode cX10_ticksToMostAwake 7 = .ok (.aload_n 0, 1) := by decide +kernel
theorem dX10_ticksToMostAwake_8 : decode cX10_ticksToMostAwake 8 = .ok (.getfield 45, 3) := by decide +kernel
theorem dX10_ticksToMostAwake_11 : decode cX10_ticksToMostAwake 11 = .ok (.if_icmp .gt 30, 3) := by decide +kernel
theorem dX10_ticksToMostAwake_14 : decode cX10_ticksToMostAwake 14 = .ok (.aload_n 0, 1) := by decide +kernel
theorem dX10_ticksToMostAwake_15 : decode cX10_ticksToMostAwake 15 = .ok (.iload_n 3, 1) := by decide +kernel
theorem dX10_ticksToMostAwake_16 : decode cX10_ticksToMostAwake 16 = .ok (.invokevirtual 225, 3) := by decide +kernel
theorem dX10_ticksToMostAwake_19 : decode cX10_ticksToMostAwake 19 = .ok (.invokestatic 198, 3) := by decide +kernel
theorem dX10_ticksToMostAwake_22 : decode cX10_ticksToMostAwake 22 = .ok (.istore 4, 2) := by decide +kernel
theorem dX10_ticksToMostAwake_24 : decode cX10_ticksToMostAwake 24 = .ok (.iload 4, 2) := by decide +kernel
theorem dX10_ticksToMostAwake_26 : decode cX10_ticksToMostAwake 26 = .ok (.iload_n 2, 1) := by decide +kernel
theorem dX10_ticksToMostAwake_27 : decode cX10_ticksToMostAwake 27 = .ok (.if_icmp .le 8, 3) := by decide +kernel
theorem dX10_ticksToMostAwake_35 : decode cX10_ticksToMostAwake 35 = .ok (.iinc 3 1, 3) := by decide +kernel
theorem dX10_ticksToMostAwake_38 : decode cX10_ticksToMostAwake 38 = .ok (.goto (-32), 3) := by decide +kernel
theorem dX10_ticksToMostAwake_41 : decode cX10_ticksToMostAwake 41 = .ok (.iload_n 1, 1) := by decide +kernel
theorem dX10_ticksToMostAwake_42 : decode cX10_ticksToMostAwake 42 = .ok (.ireturn, 1) := by decide +kernel
theorem dX10_greatestHops_0 : decode cX10_greatestHops 0 = .ok (.iconst 0, 1) := by decide +kernel
theorem dX10_greatestHops_1 : decode cX10_greatestHops 1 = .ok (.istore_n 1, 1) := by decide +kernel
theorem dX10_greatestHops_2 : decode cX10_greatestHops 2 = .ok (.iconst 0, 1) := by decide +kernel
theorem dX10_greatestHops_3 : decode cX10_greatestHops 3 = .ok (.istore_n 2, 1) := by decide +kernel
theorem dX10_greatestHops_4 : decode cX10_greatestHops 4 = .ok (.iload_n 2, 1) := by decide +kernel
theorem dX10_greatestHops_5 : decode cX10_greatestHops 5 = .ok (.aload_n 0, 1) := by decide +kernel
theorem dX10_greatestHops_6 : decode cX10_greatestHops 6 = .ok (.getfield 35, 3) := by decide +kernel
theorem dX10_greatestHops_9 : decode cX10_greatestHops 9 = .ok (.if_icmp .ge 33, 3) := by decide +kernel
theorem dX10_greatestHops_42 : decode cX10_greatestHops 42 = .ok (.iload_n 1, 1) := by decide +kernel
theorem dX10_greatestHops_43 : decode cX10_greatestHops 43 = .ok (.ireturn, 1) := by decide +kernel
theorem dX10_isTickCount_0 : decode cX10_isTickCount 0 = .ok (.iload_n 0, 1) := by decide +kernel
theorem dX10_isTickCount_1 : decode cX10_isTickCount 1 = .ok (.iconst 1, 1) := by decide +kernel
theorem dX10_isTickCount_2 : decode cX10_isTickCount 2 = .ok (.if_icmp .lt 13, 3) := by decide +kernel
theorem dX10_isTickCount_15 : decode cX10_isTickCount 15 = .ok (.iconst 0, 1) := by decide +kernel
theorem dX10_isTickCount_16 : decode cX10_isTickCount 16 = .ok (.ireturn, 1) := by decide +kernel
theorem dX10_isTickCount_5 : decode cX10_isTickCount 5 = .ok (.iload_n 0, 1) := by decide +kernel
theorem dX10_isTickCount_6 : decode cX10_isTickCount 6 = .ok (.bipush 99, 2) := by decide +kernel
theorem dX10_isTickCount_8 : decode cX10_isTickCount 8 = .ok (.if_icmp .gt 7, 3) := by decide +kernel
theorem dX10_isTickCount_11 : decode cX10_isTickCount 11 = .ok (.iconst 1, 1) := by decide +kernel
theorem dX10_isTickCount_12 : decode cX10_isTickCount 12 = .ok (.goto 4, 3) := by decide +kernel
theorem dX10_hasTimeFor_0 : decode cX10_hasTimeFor 0 = .ok (.aload_n 0, 1) := by decide +kernel
theorem dX10_hasTimeFor_1 : decode cX10_hasTimeFor 1 = .ok (.getfield 60, 3) := by decide +kernel
theorem dX10_hasTimeFor_4 : decode cX10_hasTimeFor 4 = .ok (.iload_n 1, 1) := by decide +kernel
theorem dX10_hasTimeFor_5 : decode cX10_hasTimeFor 5 = .ok (.iadd, 1) := by decide +kernel
theorem dX10_hasTimeFor_6 : decode cX10_hasTimeFor 6 = .ok (.sipush 9999, 3) := by decide +kernel
theorem dX10_hasTimeFor_9 : decode cX10_hasTimeFor 9 = .ok (.if_icmp .gt 7, 3) := by decide +kernel
theorem dX10_hasTimeFor_12 : decode cX10_hasTimeFor 12 = .ok (.iconst 1, 1) := by decide +kernel
theorem dX10_hasTimeFor_13 : decode cX10_hasTimeFor 13 = .ok (.goto 4, 3) := by decide +kernel
theorem dX10_hasTimeFor_17 : decode cX10_hasTimeFor 17 = .ok (.ireturn, 1) := by decide +kernel
theorem dX10_wakeNodes_0 : decode cX10_wakeNodes 0 = .ok (.aload_n 0, 1) := by decide +kernel
theorem dX10_wakeNodes_1 : decode cX10_wakeNodes 1 = .ok (.iconst 0, 1) := by decide +kernel
theorem dX10_wakeNodes_2 : decode cX10_wakeNodes 2 = .ok (.putfield 262, 3) := by decide +kernel
theorem dX10_wakeNodes_5 : decode cX10_wakeNodes 5 = .ok (.iconst 0, 1) := by decide +kernel
theorem dX10_wakeNodes_6 : decode cX10_wakeNodes 6 = .ok (.istore_n 1, 1) := by decide +kernel
theorem dX10_wakeNodes_7 : decode cX10_wakeNodes 7 = .ok (.iload_n 1, 1) := by decide +kernel
theorem dX10_wakeNodes_8 : decode cX10_wakeNodes 8 = .ok (.aload_n 0, 1) := by decide +kernel
theorem dX10_wakeNodes_9 : decode cX10_wakeNodes 9 = .ok (.getfield 35, 3) := by decide +kernel
theorem dX10_wakeNodes_12 : decode cX10_wakeNodes 12 = .ok (.if_icmp .ge 78, 3) := by decide +kernel
theorem dX10_wakeNodes_90 : decode cX10_wakeNodes 90 = .ok (.return_, 1) := by decide +kernel
theorem dX10_passMessages_0 : decode cX10_passMessages 0 = .ok (.iconst 0, 1) := by decide +kernel
theorem dX10_passMessages_1 : decode cX10_passMessages 1 = .ok (.istore_n 2, 1) := by decide +kernel
theorem dX10_passMessages_2 : decode cX10_passMessages 2 = .ok (.iconst 0, 1) := by decide +kernel
theorem dX10_passMessages_3 : decode cX10_passMessages 3 = .ok (.istore_n 3, 1) := by decide +kernel
theorem dX10_passMessages_4 : decode cX10_passMessages 4 = .ok (.iload_n 3, 1) := by decide +kernel
theorem dX10_passMessages_5 : decode cX10_passMessages 5 = .ok (.aload_n 0, 1) := by decide +kernel
theorem dX10_passMessages_6 : decode cX10_passMessages 6 = .ok (.getfield 42, 3) := by decide +kernel
theorem dX10_passMessages_9 : decode cX10_passMessages 9 = .ok (.if_icmp .ge 56, 3) := by decide +kernel
theorem dX10_passMessages_65 : decode cX10_passMessages 65 = .ok (.iload_n 2, 1) := by decide +kernel
theorem dX10_passMessages_66 : decode cX10_passMessages 66 = .ok (.ireturn, 1) := by decide +kernel
theorem dX10_loseMessages_0 : decode cX10_loseMessages 0 = .ok (.iconst 0, 1) := by decide +kernel
theorem dX10_loseMessages_1 : decode cX10_loseMessages 1 = .ok (.istore_n 1, 1) := by decide +kernel
theorem dX10_loseMessages_2 : decode cX10_loseMessages 2 = .ok (.iload_n 1, 1) := by decide +kernel
theorem dX10_loseMessages_3 : decode cX10_loseMessages 3 = .ok (.aload_n 0, 1) := by decide +kernel
theorem dX10_loseMessages_4 : decode cX10_loseMessages 4 = .ok (.getfield 42, 3) := by decide +kernel
theorem dX10_loseMessages_7 : decode cX10_loseMessages 7 = .ok (.if_icmp .ge 38, 3) := by decide +kernel
theorem dX10_loseMessages_45 : decode cX10_loseMessages 45 = .ok (.return_, 1) := by decide +kernel
theorem dX10_passTicks_0 : decode cX10_passTicks 0 = .ok (.iconst 0, 1) := by decide +kernel
theorem dX10_passTicks_1 : decode cX10_passTicks 1 = .ok (.istore_n 2, 1) := by decide +kernel
theorem dX10_passTicks_2 : decode cX10_passTicks 2 = .ok (.iconst 0, 1) := by decide +kernel
theorem dX10_passTicks_3 : decode cX10_passTicks 3 = .ok (.istore_n 3, 1) := by decide +kernel
theorem dX10_passTicks_4 : decode cX10_passTicks 4 = .ok (.iload_n 3, 1) := by decide +kernel
theorem dX10_passTicks_5 : decode cX10_passTicks 5 = .ok (.iload_n 1, 1) := by decide +kernel
theorem dX10_passTicks_6 : decode cX10_passTicks 6 = .ok (.if_icmp .ge 79, 3) := by decide +kernel
theorem dX10_passTicks_85 : decode cX10_passTicks 85 = .ok (.iload_n 2, 1) := by decide +kernel
theorem dX10_passTicks_86 : decode cX10_passTicks 86 = .ok (.ireturn, 1) := by decide +kernel
theorem dX10_passTicks_9 : decode cX10_passTicks 9 = .ok (.aload_n 0, 1) := by decide +kernel
theorem dX10_passTicks_10 : decode cX10_passTicks 10 = .ok (.dup, 1) := by decide +kernel
theorem dX10_passTicks_11 : decode cX10_passTicks 11 = .ok (.getfield 60, 3) := by decide +kernel
theorem dX10_passTicks_14 : decode cX10_passTicks 14 = .ok (.iconst 1, 1) := by decide +kernel
theorem dX10_passTicks_15 : decode cX10_passTicks 15 = .ok (.iadd, 1) := by decide +kernel
theorem dX10_passTicks_16 : decode cX10_passTicks 16 = .ok (.putfield 60, 3) := by decide +kernel
theorem dX10_passTicks_19 : decode cX10_passTicks 19 = .ok (.aload_n 0, 1) := by decide +kernel
theorem dX10_passTicks_20 : decode cX10_passTicks 20 = .ok (.invokevirtual 243, 3) := by decide +kernel
theorem dX10_passTicks_23 : decode cX10_passTicks 23 = .ok (.iconst 0, 1) := by decide +kernel
theorem dX10_passTicks_24 : decode cX10_passTicks 24 = .ok (.istore 4, 2) := by decide +kernel
theorem dX10_passTicks_26 : decode cX10_passTicks 26 = .ok (.iload 4, 2) := by decide +kernel
theorem dX10_passTicks_28 : decode cX10_passTicks 28 = .ok (.aload_n 0, 1) := by decide +kernel
theorem dX10_passTicks_29 : decode cX10_passTicks 29 = .ok (.getfield 39, 3) := by decide +kernel
theorem dX10_passTicks_32 : decode cX10_passTicks 32 = .ok (.if_icmp .ge 19, 3) := by decide +kernel
theorem dX10_passTicks_51 : decode cX10_passTicks 51 = .ok (.aload_n 0, 1) := by decide +kernel
theorem dX10_passTicks_52 : decode cX10_passTicks 52 = .ok (.iconst 0, 1) := by decide +kernel
theorem dX10_passTicks_53 : decode cX10_passTicks 53 = .ok (.putfield 249, 3) := by decide +kernel
theorem dX10_passTicks_56 : decode cX10_passTicks 56 = .ok (.aload_n 0, 1) := by decide +kernel
theorem dX10_passTicks_57 : decode cX10_passTicks 57 = .ok (.iconst 0, 1) := by decide +kernel
theorem dX10_passTicks_58 : decode cX10_passTicks 58 = .ok (.putfield 252, 3) := by decide +kernel
theorem dX10_passTicks_61 : decode cX10_passTicks 61 = .ok (.iload_n 2, 1) := by decide +kernel
theorem dX10_passTicks_62 : decode cX10_passTicks 62 = .ok (.aload_n 0, 1) := by decide +kernel
theorem dX10_passTicks_63 : decode cX10_passTicks 63 = .ok (.iconst 1, 1) := by decide +kernel
theorem dX10_passTicks_64 : decode cX10_passTicks 64 = .ok (.invokevirtual 255, 3) := by decide +kernel
theorem dX10_passTicks_67 : decode cX10_passTicks 67 = .ok (.aload_n 0, 1) := by decide +kernel
theorem dX10_passTicks_68 : decode cX10_passTicks 68 = .ok (.iconst 0, 1) := by decide +kernel
theorem dX10_passTicks_69 : decode cX10_passTicks 69 = .ok (.invokevirtual 255, 3) := by decide +kernel
theorem dX10_passTicks_72 : decode cX10_passTicks 72 = .ok (.iadd, 1) := by decide +kernel
theorem dX10_passTicks_73 : decode cX10_passTicks 73 = .ok (.iadd, 1) := by decide +kernel
theorem dX10_passTicks_74 : decode cX10_passTicks 74 = .ok (.istore_n 2, 1) := by decide +kernel
theorem dX10_passTicks_75 : decode cX10_passTicks 75 = .ok (.aload_n 0, 1) := by decide +kernel
theorem dX10_passTicks_76 : decode cX10_passTicks 76 = .ok (.invokevirtual 259, 3) := by decide +kernel
theorem dX10_passTicks_79 : decode cX10_passTicks 79 = .ok (.iinc 3 1, 3) := by decide +kernel
theorem dX10_passTicks_82 : decode cX10_passTicks 82 = .ok (.goto (-78), 3) := by decide +kernel
theorem dX6_writeOf_0 : decode cX6_writeOf 0 = .ok (.aload_n 0, 1) := by decide +kernel
theorem dX6_writeOf_1 : decode cX6_writeOf 1 = .ok (.iconst 0, 1) := by decide +kernel
theorem dX6_writeOf_2 : decode cX6_writeOf 2 = .ok (.putfield 13, 3) := by decide +kernel
theorem dX6_writeOf_5 : decode cX6_writeOf 5 = .ok (.iconst 0, 1) := by decide +kernel
theorem dX6_writeOf_6 : decode cX6_writeOf 6 = .ok (.istore_n 2, 1) := by decide +kernel
theorem dX6_writeOf_7 : decode cX6_writeOf 7 = .ok (.iload_n 2, 1) := by decide +kernel
theorem dX6_writeOf_8 : decode cX6_writeOf 8 = .ok (.aload_n 1, 1) := by decide +kernel
theorem dX6_writeOf_9 : decode cX6_writeOf 9 = .ok (.getfield 17, 3) := by decide +kernel
theorem dX6_writeOf_12 : decode cX6_writeOf 12 = .ok (.if_icmp .ge 15, 3) := by decide +kernel
theorem dX6_writeOf_27 : decode cX6_writeOf 27 = .ok (.aload_n 0, 1) := by decide +kernel
theorem dX6_writeOf_28 : decode cX6_writeOf 28 = .ok (.getfield 13, 3) := by decide +kernel
theorem dX6_writeOf_31 : decode cX6_writeOf 31 = .ok (.ireturn, 1) := by decide +kernel
theorem dX1_ticksToShiftTaken_0 : decode cX1_ticksToShiftTaken 0 = .ok (.aload_n 0, 1) := by decide +kernel
theorem dX1_ticksToShiftTaken_1 : decode cX1_ticksToShiftTaken 1 = .ok (.getfield 12, 3) := by decide +kernel
theorem dX1_ticksToShiftTaken_4 : decode cX1_ticksToShiftTaken 4 = .ok (.aload_n 1, 1) := by decide +kernel
theorem dX1_ticksToShiftTaken_5 : decode cX1_ticksToShiftTaken 5 = .ok (.invokevirtual 18, 3) := by decide +kernel
theorem dX1_ticksToShiftTaken_8 : decode cX1_ticksToShiftTaken 8 = .ok (.iconst 1, 1) := by decide +kernel
theorem dX1_ticksToShiftTaken_9 : decode cX1_ticksToShiftTaken 9 = .ok (.istore_n 2, 1) := by decide +kernel
theorem dX1_ticksToShiftTaken_10 : decode cX1_ticksToShiftTaken 10 = .ok (.iload_n 2, 1) := by decide +kernel
theorem dX1_ticksToShiftTaken_11 : decode cX1_ticksToShiftTaken 11 = .ok (.sipush 200, 3) := by decide +kernel
theorem dX1_ticksToShiftTaken_14 : decode cX1_ticksToShiftTaken 14 = .ok (.if_icmp .gt 34, 3) := by decide +kernel
theorem dX1_ticksToShiftTaken_17 : decode cX1_ticksToShiftTaken 17 = .ok (.aload_n 0, 1) := by decide +kernel
theorem dX1_ticksToShiftTaken_18 : decode cX1_ticksToShiftTaken 18 = .ok (.getfield 12, 3) := by decide +kernel
theorem dX1_ticksToShiftTaken_21 : decode cX1_ticksToShiftTaken 21 = .ok (.iconst 1, 1) := by decide +kernel
theorem dX1_ticksToShiftTaken_22 : decode cX1_ticksToShiftTaken 22 = .ok (.invokevirtual 48, 3) := by decide +kernel
theorem dX1_ticksToShiftTaken_25 : decode cX1_ticksToShiftTaken 25 = .ok (.pop, 1) := by decide +kernel
theorem dX1_ticksToShiftTaken_26 : decode cX1_ticksToShiftTaken 26 = .ok (.aload_n 0, 1) := by decide +kernel
theorem dX1_ticksToShiftTaken_27 : decode cX1_ticksToShiftTaken 27 = .ok (.getfield 12, 3) := by decide +kernel
theorem dX1_ticksToShiftTaken_30 : decode cX1_ticksToShiftTaken 30 = .ok (.getfield 61, 3) := by decide +kernel
theorem dX1_ticksToShiftTaken_33 : decode cX1_ticksToShiftTaken 33 = .ok (.aload_n 1, 1) := by decide +kernel
theorem dX1_ticksToShiftTaken_34 : decode cX1_ticksToShiftTaken 34 = .ok (.getfield 61, 3) := by decide +kernel
theorem dX1_ticksToShiftTaken_37 : decode cX1_ticksToShiftTaken 37 = .ok (.if_icmp .eq 5, 3) := by decide +kernel
theorem dX1_ticksToShiftTaken_42 : decode cX1_ticksToShiftTaken 42 = .ok (.iinc 2 1, 3) := by decide +kernel
theorem dX1_ticksToShiftTaken_45 : decode cX1_ticksToShiftTaken 45 = .ok (.goto (-35), 3) := by decide +kernel
theorem dX1_ticksToShiftTaken_48 : decode cX1_ticksToShiftTaken 48 = .ok (.iconst (-1), 1) := by decide +kernel
theorem dX1_ticksToShiftTaken_49 : decode cX1_ticksToShiftTaken 49 = .ok (.ireturn, 1) := by decide +kernel
theorem dX11_requireNode_0 : decode cX11_requireNode 0 = .ok (.iload_n 1, 1) := by decide +kernel
theorem dX11_requireNode_1 : decode cX11_requireNode 1 = .ok (.ifCond .lt 14, 3) := by decide +kernel
theorem dX11_requireNode_15 : decode cX11_requireNode 15 = .ok (.new 141, 3) := by decide +kernel
theorem dX11_requireNode_18 : decode cX11_requireNode 18 = .ok (.dup, 1) := by decide +kernel
theorem dX11_requireNode_19 : decode cX11_requireNode 19 = .ok (.ldc_w 338, 3) := by decide +kernel
theorem dX11_requireNode_22 : decode cX11_requireNode 22 = .ok (.invokespecial 145, 3) := by decide +kernel
theorem dX11_requireNode_25 : decode cX11_requireNode 25 = .ok (.athrow, 1) := by decide +kernel
theorem dX11_requireNode_4 : decode cX11_requireNode 4 = .ok (.iload_n 1, 1) := by decide +kernel
theorem dX11_requireNode_5 : decode cX11_requireNode 5 = .ok (.aload_n 0, 1) := by decide +kernel
theorem dX11_requireNode_6 : decode cX11_requireNode 6 = .ok (.getfield 54, 3) := by decide +kernel
theorem dX11_requireNode_9 : decode cX11_requireNode 9 = .ok (.getfield 101, 3) := by decide +kernel
theorem dX11_requireNode_12 : decode cX11_requireNode 12 = .ok (.if_icmp .lt 14, 3) := by decide +kernel
theorem dX11_requireMessage_0 : decode cX11_requireMessage 0 = .ok (.iload_n 1, 1) := by decide +kernel
theorem dX11_requireMessage_1 : decode cX11_requireMessage 1 = .ok (.ifCond .lt 14, 3) := by decide +kernel
theorem dX11_requireMessage_15 : decode cX11_requireMessage 15 = .ok (.new 141, 3) := by decide +kernel
theorem dX11_requireMessage_18 : decode cX11_requireMessage 18 = .ok (.dup, 1) := by decide +kernel
theorem dX11_requireMessage_19 : decode cX11_requireMessage 19 = .ok (.ldc_w 343, 3) := by decide +kernel
theorem dX11_requireMessage_22 : decode cX11_requireMessage 22 = .ok (.invokespecial 145, 3) := by decide +kernel
theorem dX11_requireMessage_25 : decode cX11_requireMessage 25 = .ok (.athrow, 1) := by decide +kernel
theorem dX11_requireMessage_4 : decode cX11_requireMessage 4 = .ok (.iload_n 1, 1) := by decide +kernel
theorem dX11_requireMessage_5 : decode cX11_requireMessage 5 = .ok (.aload_n 0, 1) := by decide +kernel
theorem dX11_requireMessage_6 : decode cX11_requireMessage 6 = .ok (.getfield 54, 3) := by decide +kernel
theorem dX11_requireMessage_9 : decode cX11_requireMessage 9 = .ok (.getfield 340, 3) := by decide +kernel
theorem dX11_requireMessage_12 : decode cX11_requireMessage 12 = .ok (.if_icmp .lt 14, 3) := by decide +kernel
theorem dX11_feed_0 : decode cX11_feed 0 = .ok (.aload_n 0, 1) := by decide +kernel
theorem dX11_feed_1 : decode cX11_feed 1 = .ok (.getfield 10, 3) := by decide +kernel
theorem dX11_feed_4 : decode cX11_feed 4 = .ok (.invokevirtual 64, 3) := by decide +kernel
theorem dX11_feed_7 : decode cX11_feed 7 = .ok (.ifCond .ne 13, 3) := by decide +kernel
theorem dX11_feed_20 : decode cX11_feed 20 = .ok (.aload_n 0, 1) := by decide +kernel
theorem dX11_feed_21 : decode cX11_feed 21 = .ok (.getfield 10, 3) := by decide +kernel
theorem dX11_feed_24 : decode cX11_feed 24 = .ok (.iload_n 1, 1) := by decide +kernel
theorem dX11_feed_25 : decode cX11_feed 25 = .ok (.invokevirtual 75, 3) := by decide +kernel
theorem dX11_feed_28 : decode cX11_feed 28 = .ok (.aload_n 0, 1) := by decide +kernel
theorem dX11_feed_29 : decode cX11_feed 29 = .ok (.getfield 10, 3) := by decide +kernel
theorem dX11_feed_32 : decode cX11_feed 32 = .ok (.iload_n 2, 1) := by decide +kernel
theorem dX11_feed_33 : decode cX11_feed 33 = .ok (.invokevirtual 75, 3) := by decide +kernel
theorem dX11_feed_36 : decode cX11_feed 36 = .ok (.aload_n 0, 1) := by decide +kernel
theorem dX11_feed_37 : decode cX11_feed 37 = .ok (.getfield 10, 3) := by decide +kernel
theorem dX11_feed_40 : decode cX11_feed 40 = .ok (.iload_n 3, 1) := by decide +kernel
theorem dX11_feed_41 : decode cX11_feed 41 = .ok (.invokevirtual 75, 3) := by decide +kernel
theorem dX11_feed_44 : decode cX11_feed 44 = .ok (.aload_n 0, 1) := by decide +kernel
theorem dX11_feed_45 : decode cX11_feed 45 = .ok (.getfield 10, 3) := by decide +kernel
theorem dX11_feed_48 : decode cX11_feed 48 = .ok (.iload 4, 2) := by decide +kernel
theorem dX11_feed_50 : decode cX11_feed 50 = .ok (.invokevirtual 75, 3) := by decide +kernel
theorem dX11_feed_53 : decode cX11_feed 53 = .ok (.aload_n 0, 1) := by decide +kernel
theorem dX11_feed_54 : decode cX11_feed 54 = .ok (.getfield 10, 3) := by decide +kernel
theorem dX11_feed_57 : decode cX11_feed 57 = .ok (.iload 5, 2) := by decide +kernel
theorem dX11_feed_59 : decode cX11_feed 59 = .ok (.invokevirtual 75, 3) := by decide +kernel
theorem dX11_feed_62 : decode cX11_feed 62 = .ok (.aload_n 0, 1) := by decide +kernel
theorem dX11_feed_63 : decode cX11_feed 63 = .ok (.getfield 10, 3) := by decide +kernel
theorem dX11_feed_66 : decode cX11_feed 66 = .ok (.getfield 79, 3) := by decide +kernel
theorem dX11_feed_69 : decode cX11_feed 69 = .ok (.ireturn, 1) := by decide +kernel
theorem dX11_truncate_0 : decode cX11_truncate 0 = .ok (.iload_n 1, 1) := by decide +kernel
theorem dX11_truncate_1 : decode cX11_truncate 1 = .ok (.ifCond .lt 14, 3) := by decide +kernel
theorem dX11_truncate_15 : decode cX11_truncate 15 = .ok (.new 83, 3) := by decide +kernel
theorem dX11_truncate_18 : decode cX11_truncate 18 = .ok (.dup, 1) := by decide +kernel
theorem dX11_truncate_19 : decode cX11_truncate 19 = .ok (.ldc 85, 2) := by decide +kernel
theorem dX11_truncate_21 : decode cX11_truncate 21 = .ok (.invokespecial 87, 3) := by decide +kernel
theorem dX11_truncate_24 : decode cX11_truncate 24 = .ok (.athrow, 1) := by decide +kernel
theorem dX11_truncate_4 : decode cX11_truncate 4 = .ok (.iload_n 1, 1) := by decide +kernel
theorem dX11_truncate_5 : decode cX11_truncate 5 = .ok (.aload_n 0, 1) := by decide +kernel
theorem dX11_truncate_6 : decode cX11_truncate 6 = .ok (.getfield 10, 3) := by decide +kernel
theorem dX11_truncate_9 : decode cX11_truncate 9 = .ok (.getfield 79, 3) := by decide +kernel
theorem dX11_truncate_12 : decode cX11_truncate 12 = .ok (.if_icmp .le 13, 3) := by decide +kernel
theorem dX11_truncate_25 : decode cX11_truncate 25 = .ok (.aload_n 0, 1) := by decide +kernel
theorem dX11_truncate_26 : decode cX11_truncate 26 = .ok (.getfield 10, 3) := by decide +kernel
theorem dX11_truncate_29 : decode cX11_truncate 29 = .ok (.iload_n 1, 1) := by decide +kernel
theorem dX11_truncate_30 : decode cX11_truncate 30 = .ok (.putfield 79, 3) := by decide +kernel
theorem dX11_truncate_33 : decode cX11_truncate 33 = .ok (.iload_n 1, 1) := by decide +kernel
theorem dX11_truncate_34 : decode cX11_truncate 34 = .ok (.ireturn, 1) := by decide +kernel
theorem dX11_readText_0 : decode cX11_readText 0 = .ok (.aload_n 0, 1) := by decide +kernel
theorem dX11_readText_1 : decode cX11_readText 1 = .ok (.getfield 19, 3) := by decide +kernel
theorem dX11_readText_4 : decode cX11_readText 4 = .ok (.aload_n 0, 1) := by decide +kernel
theorem dX11_readText_5 : decode cX11_readText 5 = .ok (.getfield 10, 3) := by decide +kernel
theorem dX11_readText_8 : decode cX11_readText 8 = .ok (.aload_n 0, 1) := by decide +kernel
theorem dX11_readText_9 : decode cX11_readText 9 = .ok (.getfield 58, 3) := by decide +kernel
theorem dX11_readText_12 : decode cX11_readText 12 = .ok (.invokevirtual 88, 3) := by decide +kernel
theorem dX11_readText_15 : decode cX11_readText 15 = .ok (.istore_n 1, 1) := by decide +kernel
theorem dX11_readText_16 : decode cX11_readText 16 = .ok (.aload_n 0, 1) := by decide +kernel
theorem dX11_readText_17 : decode cX11_readText 17 = .ok (.getfield 10, 3) := by decide +kernel
theorem dX11_readText_20 : decode cX11_readText 20 = .ok (.iconst 0, 1) := by decide +kernel
theorem dX11_readText_21 : decode cX11_readText 21 = .ok (.putfield 79, 3) := by decide +kernel
theorem dX11_readText_24 : decode cX11_readText 24 = .ok (.iload_n 1, 1) := by decide +kernel
theorem dX11_readText_25 : decode cX11_readText 25 = .ok (.ifCond .ne 13, 3) := by decide +kernel
theorem dX11_readText_38 : decode cX11_readText 38 = .ok (.aload_n 0, 1) := by decide +kernel
theorem dX11_readText_39 : decode cX11_readText 39 = .ok (.getfield 54, 3) := by decide +kernel
theorem dX11_readText_42 : decode cX11_readText 42 = .ok (.aload_n 0, 1) := by decide +kernel
theorem dX11_readText_43 : decode cX11_readText 43 = .ok (.getfield 58, 3) := by decide +kernel
theorem dX11_readText_46 : decode cX11_readText 46 = .ok (.invokevirtual 94, 3) := by decide +kernel
theorem dX11_readText_49 : decode cX11_readText 49 = .ok (.aload_n 0, 1) := by decide +kernel
theorem dX11_readText_50 : decode cX11_readText 50 = .ok (.getfield 40, 3) := by decide +kernel
theorem dX11_readText_53 : decode cX11_readText 53 = .ok (.invokevirtual 98, 3) := by decide +kernel
theorem dX11_readText_56 : decode cX11_readText 56 = .ok (.aload_n 0, 1) := by decide +kernel
theorem dX11_readText_57 : decode cX11_readText 57 = .ok (.getfield 54, 3) := by decide +kernel
theorem dX11_readText_60 : decode cX11_readText 60 = .ok (.getfield 101, 3) := by decide +kernel
theorem dX11_readText_63 : decode cX11_readText 63 = .ok (.ireturn, 1) := by decide +kernel
theorem dX11_runScript_0 : decode cX11_runScript 0 = .ok (.aload_n 0, 1) := by decide +kernel
theorem dX11_runScript_1 : decode cX11_runScript 1 = .ok (.getfield 26, 3) := by decide +kernel
theorem dX11_runScript_4 : decode cX11_runScript 4 = .ok (.aload_n 0, 1) := by decide +kernel
theorem dX11_runScript_5 : decode cX11_runScript 5 = .ok (.getfield 10, 3) := by decide +kernel
theorem dX11_runScript_8 : decode cX11_runScript 8 = .ok (.aload_n 0, 1) := by decide +kernel
theorem dX11_runScript_9 : decode cX11_runScript 9 = .ok (.getfield 54, 3) := by decide +kernel
theorem dX11_runScript_12 : decode cX11_runScript 12 = .ok (.invokevirtual 104, 3) := by decide +kernel
theorem dX11_runScript_15 : decode cX11_runScript 15 = .ok (.istore_n 1, 1) := by decide +kernel
theorem dX11_runScript_16 : decode cX11_runScript 16 = .ok (.aload_n 0, 1) := by decide +kernel
theorem dX11_runScript_17 : decode cX11_runScript 17 = .ok (.getfield 10, 3) := by decide +kernel
theorem dX11_runScript_20 : decode cX11_runScript 20 = .ok (.iconst 0, 1) := by decide +kernel
theorem dX11_runScript_21 : decode cX11_runScript 21 = .ok (.putfield 79, 3) := by decide +kernel
theorem dX11_runScript_24 : decode cX11_runScript 24 = .ok (.iload_n 1, 1) := by decide +kernel
theorem dX11_runScript_25 : decode cX11_runScript 25 = .ok (.ifCond .ne 13, 3) := by decide +kernel
theorem dX11_runScript_38 : decode cX11_runScript 38 = .ok (.aload_n 0, 1) := by decide +kernel
theorem dX11_runScript_39 : decode cX11_runScript 39 = .ok (.getfield 40, 3) := by decide +kernel
theorem dX11_runScript_42 : decode cX11_runScript 42 = .ok (.aload_n 0, 1) := by decide +kernel
theorem dX11_runScript_43 : decode cX11_runScript 43 = .ok (.getfield 54, 3) := by decide +kernel
theorem dX11_runScript_46 : decode cX11_runScript 46 = .ok (.invokevirtual 107, 3) := by decide +kernel
theorem dX11_runScript_49 : decode cX11_runScript 49 = .ok (.aload_n 0, 1) := by decide +kernel
theorem dX11_runScript_50 : decode cX11_runScript 50 = .ok (.getfield 26, 3) := by decide +kernel
theorem dX11_runScript_53 : decode cX11_runScript 53 = .ok (.aload_n 0, 1) := by decide +kernel
theorem dX11_runScript_54 : decode cX11_runScript 54 = .ok (.getfield 54, 3) := by decide +kernel
theorem dX11_runScript_57 : decode cX11_runScript 57 = .ok (.invokevirtual 110, 3) := by decide +kernel
theorem dX11_runScript_60 : decode cX11_runScript 60 = .ok (.ireturn, 1) := by decide +kernel
theorem dX11_errorCode_0 : decode cX11_errorCode 0 = .ok (.aload_n 0, 1) := by decide +kernel
theorem dX11_errorCode_1 : decode cX11_errorCode 1 = .ok (.getfield 10, 3) := by decide +kernel
theorem dX11_errorCode_4 : decode cX11_errorCode 4 = .ok (.getfield 114, 3) := by decide +kernel
theorem dX11_errorCode_7 : decode cX11_errorCode 7 = .ok (.ireturn, 1) := by decide +kernel
theorem dX11_errorPosition_0 : decode cX11_errorPosition 0 = .ok (.aload_n 0, 1) := by decide +kernel
theorem dX11_errorPosition_1 : decode cX11_errorPosition 1 = .ok (.getfield 10, 3) := by decide +kernel
theorem dX11_errorPosition_4 : decode cX11_errorPosition 4 = .ok (.getfield 117, 3) := by decide +kernel
theorem dX11_errorPosition_7 : decode cX11_errorPosition 7 = .ok (.ireturn, 1) := by decide +kernel
theorem dX11_setting_0 : decode cX11_setting 0 = .ok (.iload_n 1, 1) := by decide +kernel
theorem dX11_setting_1 : decode cX11_setting 1 = .ok (.ifCond .lt 9, 3) := by decide +kernel
theorem dX11_setting_10 : decode cX11_setting 10 = .ok (.new 83, 3) := by decide +kernel
theorem dX11_setting_13 : decode cX11_setting 13 = .ok (.dup, 1) := by decide +kernel
theorem dX11_setting_14 : decode cX11_setting 14 = .ok (.ldc 120, 2) := by decide +kernel
theorem dX11_setting_16 : decode cX11_setting 16 = .ok (.invokespecial 87, 3) := by decide +kernel
theorem dX11_setting_19 : decode cX11_setting 19 = .ok (.athrow, 1) := by decide +kernel
theorem dX11_setting_4 : decode cX11_setting 4 = .ok (.iload_n 1, 1) := by decide +kernel
theorem dX11_setting_5 : decode cX11_setting 5 = .ok (.bipush 11, 2) := by decide +kernel
theorem dX11_setting_7 : decode cX11_setting 7 = .ok (.if_icmp .lt 13, 3) := by decide +kernel
theorem dX11_setting_20 : decode cX11_setting 20 = .ok (.iload_n 1, 1) := by decide +kernel
theorem dX11_setting_21 : decode cX11_setting 21 = .ok (.bipush 10, 2) := by decide +kernel
theorem dX11_setting_23 : decode cX11_setting 23 = .ok (.if_icmp .ne 13, 3) := by decide +kernel
theorem dX11_setting_36 : decode cX11_setting 36 = .ok (.aload_n 0, 1) := by decide +kernel
theorem dX11_setting_37 : decode cX11_setting 37 = .ok (.getfield 54, 3) := by decide +kernel
theorem dX11_setting_40 : decode cX11_setting 40 = .ok (.iload_n 1, 1) := by decide +kernel
theorem dX11_setting_41 : decode cX11_setting 41 = .ok (.invokevirtual 125, 3) := by decide +kernel
theorem dX11_setting_44 : decode cX11_setting 44 = .ok (.ireturn, 1) := by decide +kernel
theorem dX11_setting_26 : decode cX11_setting 26 = .ok (.aload_n 0, 1) := by decide +kernel
theorem dX11_setting_27 : decode cX11_setting 27 = .ok (.getfield 40, 3) := by decide +kernel
theorem dX11_setting_30 : decode cX11_setting 30 = .ok (.getfield 122, 3) := by decide +kernel
theorem dX11_setting_33 : decode cX11_setting 33 = .ok (.goto 11, 3) := by decide +kernel
theorem dX11_node_0 : decode cX11_node 0 = .ok (.aload_n 0, 1) := by decide +kernel
theorem dX11_node_1 : decode cX11_node 1 = .ok (.iload_n 1, 1) := by decide +kernel
theorem dX11_node_2 : decode cX11_node 2 = .ok (.invokevirtual 129, 3) := by decide +kernel
theorem dX11_message_0 : decode cX11_message 0 = .ok (.aload_n 0, 1) := by decide +kernel
theorem dX11_message_1 : decode cX11_message 1 = .ok (.iload_n 1, 1) := by decide +kernel
theorem dX11_message_2 : decode cX11_message 2 = .ok (.invokevirtual 155, 3) := by decide +kernel
theorem dX11_letter_0 : decode cX11_letter 0 = .ok (.aload_n 0, 1) := by decide +kernel
theorem dX11_letter_1 : decode cX11_letter 1 = .ok (.iload_n 1, 1) := by decide +kernel
theorem dX11_letter_2 : decode cX11_letter 2 = .ok (.invokevirtual 129, 3) := by decide +kernel
theorem dX11_inTable_0 : decode cX11_inTable 0 = .ok (.aload_n 0, 1) := by decide +kernel
theorem dX11_inTable_1 : decode cX11_inTable 1 = .ok (.iload_n 1, 1) := by decide +kernel
theorem dX11_inTable_2 : decode cX11_inTable 2 = .ok (.invokevirtual 129, 3) := by decide +kernel
theorem dX11_duty_0 : decode cX11_duty 0 = .ok (.aload_n 0, 1) := by decide +kernel
theorem dX11_duty_1 : decode cX11_duty 1 = .ok (.iload_n 1, 1) := by decide +kernel
theorem dX11_duty_2 : decode cX11_duty 2 = .ok (.invokevirtual 129, 3) := by decide +kernel
theorem dX11_meetsIn_0 : decode cX11_meetsIn 0 = .ok (.aload_n 0, 1) := by decide +kernel
theorem dX11_meetsIn_1 : decode cX11_meetsIn 1 = .ok (.iload_n 1, 1) := by decide +kernel
theorem dX11_meetsIn_2 : decode cX11_meetsIn 2 = .ok (.invokevirtual 129, 3) := by decide +kernel
theorem dX11_hops_0 : decode cX11_hops 0 = .ok (.aload_n 0, 1) := by decide +kernel
theorem dX11_hops_1 : decode cX11_hops 1 = .ok (.iload_n 1, 1) := by decide +kernel
theorem dX11_hops_2 : decode cX11_hops 2 = .ok (.invokevirtual 129, 3) := by decide +kernel
theorem dX11_nextNode_0 : decode cX11_nextNode 0 = .ok (.aload_n 0, 1) := by decide +kernel
theorem dX11_nextNode_1 : decode cX11_nextNode 1 = .ok (.iload_n 1, 1) := by decide +kernel
theorem dX11_nextNode_2 : decode cX11_nextNode 2 = .ok (.invokevirtual 129, 3) := by decide +kernel
theorem dX11_arrives_0 : decode cX11_arrives 0 = .ok (.aload_n 0, 1) := by decide +kernel
theorem dX11_arrives_1 : decode cX11_arrives 1 = .ok (.iload_n 1, 1) := by decide +kernel
theorem dX11_arrives_2 : decode cX11_arrives 2 = .ok (.invokevirtual 155, 3) := by decide +kernel
theorem dX11_wouldArrive_0 : decode cX11_wouldArrive 0 = .ok (.aload_n 0, 1) := by decide +kernel
theorem dX11_wouldArrive_1 : decode cX11_wouldArrive 1 = .ok (.iload_n 1, 1) := by decide +kernel
theorem dX11_wouldArrive_2 : decode cX11_wouldArrive 2 = .ok (.invokevirtual 129, 3) := by decide +kernel
theorem dX11_outIn_0 : decode cX11_outIn 0 = .ok (.aload_n 0, 1) := by decide +kernel
theorem dX11_outIn_1 : decode cX11_outIn 1 = .ok (.iload_n 1, 1) := by decide +kernel
theorem dX11_outIn_2 : decode cX11_outIn 2 = .ok (.invokevirtual 129, 3) := by decide +kernel
theorem dX11_energyIn_0 : decode cX11_energyIn 0 = .ok (.aload_n 0, 1) := by decide +kernel
theorem dX11_energyIn_1 : decode cX11_energyIn 1 = .ok (.iload_n 1, 1) := by decide +kernel
theorem dX11_energyIn_2 : decode cX11_energyIn 2 = .ok (.invokevirtual 129, 3) := by decide +kernel
theorem dX11_bestShift_0 : decode cX11_bestShift 0 = .ok (.aload_n 0, 1) := by decide +kernel
theorem dX11_bestShift_1 : decode cX11_bestShift 1 = .ok (.iload_n 1, 1) := by decide +kernel
theorem dX11_bestShift_2 : decode cX11_bestShift 2 = .ok (.invokevirtual 129, 3) := by decide +kernel
theorem dX11_bestWatch_0 : decode cX11_bestWatch 0 = .ok (.aload_n 0, 1) := by decide +kernel
theorem dX11_bestWatch_1 : decode cX11_bestWatch 1 = .ok (.iload_n 1, 1) := by decide +kernel
theorem dX11_bestWatch_2 : decode cX11_bestWatch 2 = .ok (.invokevirtual 129, 3) := by decide +kernel
theorem dX11_send_0 : decode cX11_send 0 = .ok (.aload_n 0, 1) := by decide +kernel
theorem dX11_send_1 : decode cX11_send 1 = .ok (.iload_n 1, 1) := by decide +kernel
theorem dX11_send_2 : decode cX11_send 2 = .ok (.invokevirtual 129, 3) := by decide +kernel
theorem dX11_setShift_0 : decode cX11_setShift 0 = .ok (.aload_n 0, 1) := by decide +kernel
theorem dX11_setShift_1 : decode cX11_setShift 1 = .ok (.iload_n 1, 1) := by decide +kernel
theorem dX11_setShift_2 : decode cX11_setShift 2 = .ok (.invokevirtual 129, 3) := by decide +kernel
theorem dX11_watch_0 : decode cX11_watch 0 = .ok (.aload_n 0, 1) := by decide +kernel
theorem dX11_watch_1 : decode cX11_watch 1 = .ok (.iload_n 1, 1) := by decide +kernel
theorem dX11_watch_2 : decode cX11_watch 2 = .ok (.invokevirtual 129, 3) := by decide +kernel
theorem dX11_setBorn_0 : decode cX11_setBorn 0 = .ok (.aload_n 0, 1) := by decide +kernel
theorem dX11_setBorn_1 : decode cX11_setBorn 1 = .ok (.iload_n 1, 1) := by decide +kernel
theorem dX11_setBorn_2 : decode cX11_setBorn 2 = .ok (.invokevirtual 129, 3) := by decide +kernel
theorem dX11_charge_0 : decode cX11_charge 0 = .ok (.aload_n 0, 1) := by decide +kernel
theorem dX11_charge_1 : decode cX11_charge 1 = .ok (.iload_n 1, 1) := by decide +kernel
theorem dX11_charge_2 : decode cX11_charge 2 = .ok (.invokevirtual 129, 3) := by decide +kernel
theorem dX11_link_0 : decode cX11_link 0 = .ok (.iload_n 1, 1) := by decide +kernel
theorem dX11_link_1 : decode cX11_link 1 = .ok (.ifCond .lt 14, 3) := by decide +kernel
theorem dX11_link_15 : decode cX11_link 15 = .ok (.new 141, 3) := by decide +kernel
theorem dX11_link_18 : decode cX11_link 18 = .ok (.dup, 1) := by decide +kernel
theorem dX11_link_19 : decode cX11_link 19 = .ok (.ldc 143, 2) := by decide +kernel
theorem dX11_link_21 : decode cX11_link 21 = .ok (.invokespecial 145, 3) := by decide +kernel
theorem dX11_link_24 : decode cX11_link 24 = .ok (.athrow, 1) := by decide +kernel
theorem dX11_link_4 : decode cX11_link 4 = .ok (.iload_n 1, 1) := by decide +kernel
theorem dX11_link_5 : decode cX11_link 5 = .ok (.aload_n 0, 1) := by decide +kernel
theorem dX11_link_6 : decode cX11_link 6 = .ok (.getfield 54, 3) := by decide +kernel
theorem dX11_link_9 : decode cX11_link 9 = .ok (.getfield 138, 3) := by decide +kernel
theorem dX11_link_12 : decode cX11_link 12 = .ok (.if_icmp .lt 13, 3) := by decide +kernel
theorem dX11_meanEnergy_0 : decode cX11_meanEnergy 0 = .ok (.aload_n 0, 1) := by decide +kernel
theorem dX11_meanEnergy_1 : decode cX11_meanEnergy 1 = .ok (.getfield 54, 3) := by decide +kernel
theorem dX11_meanEnergy_4 : decode cX11_meanEnergy 4 = .ok (.getfield 101, 3) := by decide +kernel
theorem dX11_meanEnergy_7 : decode cX11_meanEnergy 7 = .ok (.ifCond .le 23, 3) := by decide +kernel
theorem dX11_meanEnergy_30 : decode cX11_meanEnergy 30 = .ok (.dconst 0, 1) := by decide +kernel
theorem dX11_meanEnergy_31 : decode cX11_meanEnergy 31 = .ok (.dreturn, 1) := by decide +kernel
theorem dX11_awakeIn_0 : decode cX11_awakeIn 0 = .ok (.iload_n 1, 1) := by decide +kernel
theorem dX11_awakeIn_1 : decode cX11_awakeIn 1 = .ok (.ifCond .lt 9, 3) := by decide +kernel
theorem dX11_awakeIn_10 : decode cX11_awakeIn 10 = .ok (.new 83, 3) := by decide +kernel
theorem dX11_awakeIn_13 : decode cX11_awakeIn 13 = .ok (.dup, 1) := by decide +kernel
theorem dX11_awakeIn_14 : decode cX11_awakeIn 14 = .ok (.ldc 205, 2) := by decide +kernel
theorem dX11_awakeIn_16 : decode cX11_awakeIn 16 = .ok (.invokespecial 87, 3) := by decide +kernel
theorem dX11_awakeIn_19 : decode cX11_awakeIn 19 = .ok (.athrow, 1) := by decide +kernel
theorem dX11_awakeIn_4 : decode cX11_awakeIn 4 = .ok (.iload_n 1, 1) := by decide +kernel
theorem dX11_awakeIn_5 : decode cX11_awakeIn 5 = .ok (.bipush 99, 2) := by decide +kernel
theorem dX11_awakeIn_7 : decode cX11_awakeIn 7 = .ok (.if_icmp .le 13, 3) := by decide +kernel
theorem dX11_awakeIn_20 : decode cX11_awakeIn 20 = .ok (.aload_n 0, 1) := by decide +kernel
theorem dX11_awakeIn_21 : decode cX11_awakeIn 21 = .ok (.getfield 54, 3) := by decide +kernel
theorem dX11_awakeIn_24 : decode cX11_awakeIn 24 = .ok (.iload_n 1, 1) := by decide +kernel
theorem dX11_awakeIn_25 : decode cX11_awakeIn 25 = .ok (.invokevirtual 207, 3) := by decide +kernel
theorem dX11_awakeIn_28 : decode cX11_awakeIn 28 = .ok (.ireturn, 1) := by decide +kernel
theorem dX11_worstLink_0 : decode cX11_worstLink 0 = .ok (.aload_n 0, 1) := by decide +kernel
theorem dX11_worstLink_1 : decode cX11_worstLink 1 = .ok (.getfield 54, 3) := by decide +kernel
theorem dX11_worstLink_4 : decode cX11_worstLink 4 = .ok (.invokevirtual 217, 3) := by decide +kernel
theorem dX11_worstLink_7 : decode cX11_worstLink 7 = .ok (.ireturn, 1) := by decide +kernel
theorem dX11_busiest_0 : decode cX11_busiest 0 = .ok (.aload_n 0, 1) := by decide +kernel
theorem dX11_busiest_1 : decode cX11_busiest 1 = .ok (.getfield 54, 3) := by decide +kernel
theorem dX11_busiest_4 : decode cX11_busiest 4 = .ok (.invokevirtual 220, 3) := by decide +kernel
theorem dX11_busiest_7 : decode cX11_busiest 7 = .ok (.ireturn, 1) := by decide +kernel
theorem dX11_widest_0 : decode cX11_widest 0 = .ok (.aload_n 0, 1) := by decide +kernel
theorem dX11_widest_1 : decode cX11_widest 1 = .ok (.getfield 54, 3) := by decide +kernel
theorem dX11_widest_4 : decode cX11_widest 4 = .ok (.invokevirtual 236, 3) := by decide +kernel
theorem dX11_widest_7 : decode cX11_widest 7 = .ok (.ireturn, 1) := by decide +kernel
theorem dX11_takesIn_0 : decode cX11_takesIn 0 = .ok (.aload_n 0, 1) := by decide +kernel
theorem dX11_takesIn_1 : decode cX11_takesIn 1 = .ok (.getfield 33, 3) := by decide +kernel
theorem dX11_takesIn_4 : decode cX11_takesIn 4 = .ok (.aload_n 0, 1) := by decide +kernel
theorem dX11_takesIn_5 : decode cX11_takesIn 5 = .ok (.getfield 54, 3) := by decide +kernel
theorem dX11_takesIn_8 : decode cX11_takesIn 8 = .ok (.invokevirtual 258, 3) := by decide +kernel
theorem dX11_takesIn_11 : decode cX11_takesIn 11 = .ok (.ireturn, 1) := by decide +kernel
theorem dX11_tick_0 : decode cX11_tick 0 = .ok (.iload_n 1, 1) := by decide +kernel
theorem dX11_tick_1 : decode cX11_tick 1 = .ok (.invokestatic 267, 3) := by decide +kernel
theorem dX11_tick_4 : decode cX11_tick 4 = .ok (.ifCond .ne 13, 3) := by decide +kernel
theorem dX11_tick_7 : decode cX11_tick 7 = .ok (.new 83, 3) := by decide +kernel
theorem dX11_tick_10 : decode cX11_tick 10 = .ok (.dup, 1) := by decide +kernel
theorem dX11_tick_11 : decode cX11_tick 11 = .ok (.ldc 205, 2) := by decide +kernel
theorem dX11_tick_13 : decode cX11_tick 13 = .ok (.invokespecial 87, 3) := by decide +kernel
theorem dX11_tick_16 : decode cX11_tick 16 = .ok (.athrow, 1) := by decide +kernel
theorem dX11_tick_17 : decode cX11_tick 17 = .ok (.aload_n 0, 1) := by decide +kernel
theorem dX11_tick_18 : decode cX11_tick 18 = .ok (.getfield 54, 3) := by decide +kernel
theorem dX11_tick_21 : decode cX11_tick 21 = .ok (.iload_n 1, 1) := by decide +kernel
theorem dX11_tick_22 : decode cX11_tick 22 = .ok (.invokevirtual 270, 3) := by decide +kernel
theorem dX11_tick_25 : decode cX11_tick 25 = .ok (.ifCond .ne 14, 3) := by decide +kernel
theorem dX11_tick_39 : decode cX11_tick 39 = .ok (.aload_n 0, 1) := by decide +kernel
theorem dX11_tick_40 : decode cX11_tick 40 = .ok (.getfield 40, 3) := by decide +kernel
theorem dX11_tick_43 : decode cX11_tick 43 = .ok (.aload_n 0, 1) := by decide +kernel
theorem dX11_tick_44 : decode cX11_tick 44 = .ok (.getfield 54, 3) := by decide +kernel
theorem dX11_tick_47 : decode cX11_tick 47 = .ok (.invokevirtual 107, 3) := by decide +kernel
theorem dX11_tick_50 : decode cX11_tick 50 = .ok (.aload_n 0, 1) := by decide +kernel
theorem dX11_tick_51 : decode cX11_tick 51 = .ok (.getfield 54, 3) := by decide +kernel
theorem dX11_tick_54 : decode cX11_tick 54 = .ok (.iload_n 1, 1) := by decide +kernel
theorem dX11_tick_55 : decode cX11_tick 55 = .ok (.invokevirtual 275, 3) := by decide +kernel
theorem dX11_tick_58 : decode cX11_tick 58 = .ok (.ireturn, 1) := by decide +kernel
theorem dX11_setMiss_0 : decode cX11_setMiss 0 = .ok (.iload_n 1, 1) := by decide +kernel
theorem dX11_setMiss_1 : decode cX11_setMiss 1 = .ok (.iconst 1, 1) := by decide +kernel
theorem dX11_setMiss_2 : decode cX11_setMiss 2 = .ok (.if_icmp .lt 9, 3) := by decide +kernel
theorem dX11_setMiss_11 : decode cX11_setMiss 11 = .ok (.new 83, 3) := by decide +kernel
theorem dX11_setMiss_14 : decode cX11_setMiss 14 = .ok (.dup, 1) := by decide +kernel
theorem dX11_setMiss_15 : decode cX11_setMiss 15 = .ok (.ldc_w 311, 3) := by decide +kernel
theorem dX11_setMiss_18 : decode cX11_setMiss 18 = .ok (.invokespecial 87, 3) := by decide +kernel
theorem dX11_setMiss_21 : decode cX11_setMiss 21 = .ok (.athrow, 1) := by decide +kernel
theorem dX11_setMiss_5 : decode cX11_setMiss 5 = .ok (.iload_n 1, 1) := by decide +kernel
theorem dX11_setMiss_6 : decode cX11_setMiss 6 = .ok (.bipush 9, 2) := by decide +kernel
theorem dX11_setMiss_8 : decode cX11_setMiss 8 = .ok (.if_icmp .le 14, 3) := by decide +kernel
theorem dX11_setMiss_22 : decode cX11_setMiss 22 = .ok (.aload_n 0, 1) := by decide +kernel
theorem dX11_setMiss_23 : decode cX11_setMiss 23 = .ok (.getfield 40, 3) := by decide +kernel
theorem dX11_setMiss_26 : decode cX11_setMiss 26 = .ok (.aload_n 0, 1) := by decide +kernel
theorem dX11_setMiss_27 : decode cX11_setMiss 27 = .ok (.getfield 54, 3) := by decide +kernel
theorem dX11_setMiss_30 : decode cX11_setMiss 30 = .ok (.invokevirtual 107, 3) := by decide +kernel
theorem dX11_setMiss_33 : decode cX11_setMiss 33 = .ok (.aload_n 0, 1) := by decide +kernel
theorem dX11_setMiss_34 : decode cX11_setMiss 34 = .ok (.getfield 54, 3) := by decide +kernel
theorem dX11_setMiss_37 : decode cX11_setMiss 37 = .ok (.getfield 313, 3) := by decide +kernel
theorem dX11_setMiss_40 : decode cX11_setMiss 40 = .ok (.istore_n 2, 1) := by decide +kernel
theorem dX11_setMiss_41 : decode cX11_setMiss 41 = .ok (.aload_n 0, 1) := by decide +kernel
theorem dX11_setMiss_42 : decode cX11_setMiss 42 = .ok (.getfield 54, 3) := by decide +kernel
theorem dX11_setMiss_45 : decode cX11_setMiss 45 = .ok (.iload_n 1, 1) := by decide +kernel
theorem dX11_setMiss_46 : decode cX11_setMiss 46 = .ok (.putfield 313, 3) := by decide +kernel
theorem dX11_setMiss_49 : decode cX11_setMiss 49 = .ok (.iload_n 2, 1) := by decide +kernel
theorem dX11_setMiss_50 : decode cX11_setMiss 50 = .ok (.ireturn, 1) := by decide +kernel
theorem dX11_report_0 : decode cX11_report 0 = .ok (.aload_n 0, 1) := by decide +kernel
theorem dX11_report_1 : decode cX11_report 1 = .ok (.getfield 47, 3) := by decide +kernel
theorem dX11_report_4 : decode cX11_report 4 = .ok (.aload_n 0, 1) := by decide +kernel
theorem dX11_report_5 : decode cX11_report 5 = .ok (.getfield 54, 3) := by decide +kernel
theorem dX11_report_8 : decode cX11_report 8 = .ok (.invokevirtual 316, 3) := by decide +kernel
theorem dX11_report_11 : decode cX11_report 11 = .ok (.ireturn, 1) := by decide +kernel
theorem dX11_reportByte_0 : decode cX11_reportByte 0 = .ok (.iload_n 1, 1) := by decide +kernel
theorem dX11_reportByte_1 : decode cX11_reportByte 1 = .ok (.ifCond .lt 14, 3) := by decide +kernel
theorem dX11_reportByte_15 : decode cX11_reportByte 15 = .ok (.new 141, 3) := by decide +kernel
theorem dX11_reportByte_18 : decode cX11_reportByte 18 = .ok (.dup, 1) := by decide +kernel
theorem dX11_reportByte_19 : decode cX11_reportByte 19 = .ok (.ldc_w 320, 3) := by decide +kernel
theorem dX11_reportByte_22 : decode cX11_reportByte 22 = .ok (.invokespecial 145, 3) := by decide +kernel
theorem dX11_reportByte_25 : decode cX11_reportByte 25 = .ok (.athrow, 1) := by decide +kernel
theorem dX11_reportByte_4 : decode cX11_reportByte 4 = .ok (.iload_n 1, 1) := by decide +kernel
theorem dX11_reportByte_5 : decode cX11_reportByte 5 = .ok (.aload_n 0, 1) := by decide +kernel
theorem dX11_reportByte_6 : decode cX11_reportByte 6 = .ok (.getfield 47, 3) := by decide +kernel
theorem dX11_reportByte_9 : decode cX11_reportByte 9 = .ok (.getfield 319, 3) := by decide +kernel
theorem dX11_reportByte_12 : decode cX11_reportByte 12 = .ok (.if_icmp .lt 14, 3) := by decide +kernel
theorem dX11_undo_0 : decode cX11_undo 0 = .ok (.aload_n 0, 1) := by decide +kernel
theorem dX11_undo_1 : decode cX11_undo 1 = .ok (.getfield 40, 3) := by decide +kernel
theorem dX11_undo_4 : decode cX11_undo 4 = .ok (.aload_n 0, 1) := by decide +kernel
theorem dX11_undo_5 : decode cX11_undo 5 = .ok (.getfield 54, 3) := by decide +kernel
theorem dX11_undo_8 : decode cX11_undo 8 = .ok (.invokevirtual 325, 3) := by decide +kernel
theorem dX11_undo_11 : decode cX11_undo 11 = .ok (.ifCond .eq 13, 3) := by decide +kernel
theorem dX11_undo_24 : decode cX11_undo 24 = .ok (.iconst (-1), 1) := by decide +kernel
theorem dX11_undo_25 : decode cX11_undo 25 = .ok (.ireturn, 1) := by decide +kernel
theorem dX11_save_0 : decode cX11_save 0 = .ok (.aload_n 0, 1) := by decide +kernel
theorem dX11_save_1 : decode cX11_save 1 = .ok (.getfield 61, 3) := by decide +kernel
theorem dX11_save_4 : decode cX11_save 4 = .ok (.aload_n 0, 1) := by decide +kernel
theorem dX11_save_5 : decode cX11_save 5 = .ok (.getfield 54, 3) := by decide +kernel
theorem dX11_save_8 : decode cX11_save 8 = .ok (.invokevirtual 94, 3) := by decide +kernel
theorem dX11_save_11 : decode cX11_save 11 = .ok (.aload_n 0, 1) := by decide +kernel
theorem dX11_save_12 : decode cX11_save 12 = .ok (.iconst 1, 1) := by decide +kernel
theorem dX11_save_13 : decode cX11_save 13 = .ok (.putfield 329, 3) := by decide +kernel
theorem dX11_save_16 : decode cX11_save 16 = .ok (.aload_n 0, 1) := by decide +kernel
theorem dX11_save_17 : decode cX11_save 17 = .ok (.getfield 54, 3) := by decide +kernel
theorem dX11_save_20 : decode cX11_save 20 = .ok (.getfield 333, 3) := by decide +kernel
theorem dX11_save_23 : decode cX11_save 23 = .ok (.ireturn, 1) := by decide +kernel
theorem dX11_restore_0 : decode cX11_restore 0 = .ok (.aload_n 0, 1) := by decide +kernel
theorem dX11_restore_1 : decode cX11_restore 1 = .ok (.getfield 329, 3) := by decide +kernel
theorem dX11_restore_4 : decode cX11_restore 4 = .ok (.ifCond .ne 14, 3) := by decide +kernel
theorem dX11_restore_7 : decode cX11_restore 7 = .ok (.new 68, 3) := by decide +kernel
theorem dX11_restore_10 : decode cX11_restore 10 = .ok (.dup, 1) := by decide +kernel
theorem dX11_restore_11 : decode cX11_restore 11 = .ok (.ldc_w 336, 3) := by decide +kernel
theorem dX11_restore_14 : decode cX11_restore 14 = .ok (.invokespecial 72, 3) := by decide +kernel
theorem dX11_restore_17 : decode cX11_restore 17 = .ok (.athrow, 1) := by decide +kernel
