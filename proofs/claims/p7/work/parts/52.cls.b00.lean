theorem dJ6_bitCount_0f7a4_0 : decode cJ6_bitCount_0f7a4 0 = .ok (.iload_n 0, 1) := by decide +kernel
theorem dJ6_bitCount_0f7a4_1 : decode cJ6_bitCount_0f7a4 1 = .ok (.iload_n 0, 1) := by decide +kernel
theorem dJ6_bitCount_0f7a4_2 : decode cJ6_bitCount_0f7a4 2 = .ok (.iconst 1, 1) := by decide +kernel
theorem dJ6_bitCount_0f7a4_3 : decode cJ6_bitCount_0f7a4 3 = .ok (.iushr, 1) := by decide +kernel
theorem dJ6_bitCount_0f7a4_4 : decode cJ6_bitCount_0f7a4 4 = .ok (.ldc_w 265, 3) := by decide +kernel
theorem dJ6_bitCount_0f7a4_7 : decode cJ6_bitCount_0f7a4 7 = .ok (.iand, 1) := by decide +kernel
theorem dJ6_bitCount_0f7a4_8 : decode cJ6_bitCount_0f7a4 8 = .ok (.isub, 1) := by decide +kernel
theorem dJ6_bitCount_0f7a4_9 : decode cJ6_bitCount_0f7a4 9 = .ok (.istore_n 0, 1) := by decide +kernel
theorem dJ6_bitCount_0f7a4_10 : decode cJ6_bitCount_0f7a4 10 = .ok (.iload_n 0, 1) := by decide +kernel
theorem dJ6_bitCount_0f7a4_11 : decode cJ6_bitCount_0f7a4 11 = .ok (.ldc_w 266, 3) := by decide +kernel
theorem dJ6_bitCount_0f7a4_14 : decode cJ6_bitCount_0f7a4 14 = .ok (.iand, 1) := by decide +kernel
theorem dJ6_bitCount_0f7a4_15 : decode cJ6_bitCount_0f7a4 15 = .ok (.iload_n 0, 1) := by decide +kernel
theorem dJ6_bitCount_0f7a4_16 : decode cJ6_bitCount_0f7a4 16 = .ok (.iconst 2, 1) := by decide +kernel
theorem dJ6_bitCount_0f7a4_17 : decode cJ6_bitCount_0f7a4 17 = .ok (.iushr, 1) := by decide +kernel
theorem dJ6_bitCount_0f7a4_18 : decode cJ6_bitCount_0f7a4 18 = .ok (.ldc_w 266, 3) := by decide +kernel
theorem dJ6_bitCount_0f7a4_21 : decode cJ6_bitCount_0f7a4 21 = .ok (.iand, 1) := by decide +kernel
theorem dJ6_bitCount_0f7a4_22 : decode cJ6_bitCount_0f7a4 22 = .ok (.iadd, 1) := by decide +kernel
theorem dJ6_bitCount_0f7a4_23 : decode cJ6_bitCount_0f7a4 23 = .ok (.istore_n 0, 1) := by decide +kernel
theorem dJ6_bitCount_0f7a4_24 : decode cJ6_bitCount_0f7a4 24 = .ok (.iload_n 0, 1) := by decide +kernel
theorem dJ6_bitCount_0f7a4_25 : decode cJ6_bitCount_0f7a4 25 = .ok (.iload_n 0, 1) := by decide +kernel
theorem dJ6_bitCount_0f7a4_26 : decode cJ6_bitCount_0f7a4 26 = .ok (.iconst 4, 1) := by decide +kernel
theorem dJ6_bitCount_0f7a4_27 : decode cJ6_bitCount_0f7a4 27 = .ok (.iushr, 1) := by decide +kernel
theorem dJ6_bitCount_0f7a4_28 : decode cJ6_bitCount_0f7a4 28 = .ok (.iadd, 1) := by decide +kernel
theorem dJ6_bitCount_0f7a4_29 : decode cJ6_bitCount_0f7a4 29 = .ok (.ldc_w 267, 3) := by decide +kernel
theorem dJ6_bitCount_0f7a4_32 : decode cJ6_bitCount_0f7a4 32 = .ok (.iand, 1) := by decide +kernel
theorem dJ6_bitCount_0f7a4_33 : decode cJ6_bitCount_0f7a4 33 = .ok (.istore_n 0, 1) := by decide +kernel
theorem dJ6_bitCount_0f7a4_34 : decode cJ6_bitCount_0f7a4 34 = .ok (.iload_n 0, 1) := by decide +kernel
theorem dJ6_bitCount_0f7a4_35 : decode cJ6_bitCount_0f7a4 35 = .ok (.iload_n 0, 1) := by decide +kernel
theorem dJ6_bitCount_0f7a4_36 : decode cJ6_bitCount_0f7a4 36 = .ok (.bipush 8, 2) := by decide +kernel
theorem dJ6_bitCount_0f7a4_38 : decode cJ6_bitCount_0f7a4 38 = .ok (.iushr, 1) := by decide +kernel
theorem dJ6_bitCount_0f7a4_39 : decode cJ6_bitCount_0f7a4 39 = .ok (.iadd, 1) := by decide +kernel
theorem dJ6_bitCount_0f7a4_40 : decode cJ6_bitCount_0f7a4 40 = .ok (.istore_n 0, 1) := by decide +kernel
theorem dJ6_bitCount_0f7a4_41 : decode cJ6_bitCount_0f7a4 41 = .ok (.iload_n 0, 1) := by decide +kernel
theorem dJ6_bitCount_0f7a4_42 : decode cJ6_bitCount_0f7a4 42 = .ok (.iload_n 0, 1) := by decide +kernel
theorem dJ6_bitCount_0f7a4_43 : decode cJ6_bitCount_0f7a4 43 = .ok (.bipush 16, 2) := by decide +kernel
theorem dJ6_bitCount_0f7a4_45 : decode cJ6_bitCount_0f7a4 45 = .ok (.iushr, 1) := by decide +kernel
theorem dJ6_bitCount_0f7a4_46 : decode cJ6_bitCount_0f7a4 46 = .ok (.iadd, 1) := by decide +kernel
theorem dJ6_bitCount_0f7a4_47 : decode cJ6_bitCount_0f7a4 47 = .ok (.istore_n 0, 1) := by decide +kernel
theorem dJ6_bitCount_0f7a4_48 : decode cJ6_bitCount_0f7a4 48 = .ok (.iload_n 0, 1) := by decide +kernel
theorem dJ6_bitCount_0f7a4_49 : decode cJ6_bitCount_0f7a4 49 = .ok (.bipush 63, 2) := by decide +kernel
theorem dJ6_bitCount_0f7a4_51 : decode cJ6_bitCount_0f7a4 51 = .ok (.iand, 1) := by decide +kernel
theorem dJ6_bitCount_0f7a4_52 : decode cJ6_bitCount_0f7a4 52 = .ok (.ireturn, 1) := by decide +kernel
theorem dJ13_bitCount_95d88_0 : decode cJ13_bitCount_95d88 0 = .ok (.lload_n 0, 1) := by decide +kernel
theorem dJ13_bitCount_95d88_1 : decode cJ13_bitCount_95d88 1 = .ok (.lload_n 0, 1) := by decide +kernel
theorem dJ13_bitCount_95d88_2 : decode cJ13_bitCount_95d88 2 = .ok (.iconst 1, 1) := by decide +kernel
theorem dJ13_bitCount_95d88_3 : decode cJ13_bitCount_95d88 3 = .ok (.lushr, 1) := by decide +kernel
theorem dJ13_bitCount_95d88_4 : decode cJ13_bitCount_95d88 4 = .ok (.ldc2_w 314, 3) := by decide +kernel
theorem dJ13_bitCount_95d88_7 : decode cJ13_bitCount_95d88 7 = .ok (.land, 1) := by decide +kernel
theorem dJ13_bitCount_95d88_8 : decode cJ13_bitCount_95d88 8 = .ok (.lsub, 1) := by decide +kernel
theorem dJ13_bitCount_95d88_9 : decode cJ13_bitCount_95d88 9 = .ok (.lstore_n 0, 1) := by decide +kernel
theorem dJ13_bitCount_95d88_10 : decode cJ13_bitCount_95d88 10 = .ok (.lload_n 0, 1) := by decide +kernel
theorem dJ13_bitCount_95d88_11 : decode cJ13_bitCount_95d88 11 = .ok (.ldc2_w 316, 3) := by decide +kernel
theorem dJ13_bitCount_95d88_14 : decode cJ13_bitCount_95d88 14 = .ok (.land, 1) := by decide +kernel
theorem dJ13_bitCount_95d88_15 : decode cJ13_bitCount_95d88 15 = .ok (.lload_n 0, 1) := by decide +kernel
theorem dJ13_bitCount_95d88_16 : decode cJ13_bitCount_95d88 16 = .ok (.iconst 2, 1) := by decide +kernel
theorem dJ13_bitCount_95d88_17 : decode cJ13_bitCount_95d88 17 = .ok (.lushr, 1) := by decide +kernel
theorem dJ13_bitCount_95d88_18 : decode cJ13_bitCount_95d88 18 = .ok (.ldc2_w 316, 3) := by decide +kernel
theorem dJ13_bitCount_95d88_21 : decode cJ13_bitCount_95d88 21 = .ok (.land, 1) := by decide +kernel
theorem dJ13_bitCount_95d88_22 : decode cJ13_bitCount_95d88 22 = .ok (.ladd, 1) := by decide +kernel
theorem dJ13_bitCount_95d88_23 : decode cJ13_bitCount_95d88 23 = .ok (.lstore_n 0, 1) := by decide +kernel
theorem dJ13_bitCount_95d88_24 : decode cJ13_bitCount_95d88 24 = .ok (.lload_n 0, 1) := by decide +kernel
theorem dJ13_bitCount_95d88_25 : decode cJ13_bitCount_95d88 25 = .ok (.lload_n 0, 1) := by decide +kernel
theorem dJ13_bitCount_95d88_26 : decode cJ13_bitCount_95d88 26 = .ok (.iconst 4, 1) := by decide +kernel
theorem dJ13_bitCount_95d88_27 : decode cJ13_bitCount_95d88 27 = .ok (.lushr, 1) := by decide +kernel
theorem dJ13_bitCount_95d88_28 : decode cJ13_bitCount_95d88 28 = .ok (.ladd, 1) := by decide +kernel
theorem dJ13_bitCount_95d88_29 : decode cJ13_bitCount_95d88 29 = .ok (.ldc2_w 318, 3) := by decide +kernel
theorem dJ13_bitCount_95d88_32 : decode cJ13_bitCount_95d88 32 = .ok (.land, 1) := by decide +kernel
theorem dJ13_bitCount_95d88_33 : decode cJ13_bitCount_95d88 33 = .ok (.lstore_n 0, 1) := by decide +kernel
theorem dJ13_bitCount_95d88_34 : decode cJ13_bitCount_95d88 34 = .ok (.lload_n 0, 1) := by decide +kernel
theorem dJ13_bitCount_95d88_35 : decode cJ13_bitCount_95d88 35 = .ok (.lload_n 0, 1) := by decide +kernel
theorem dJ13_bitCount_95d88_36 : decode cJ13_bitCount_95d88 36 = .ok (.bipush 8, 2) := by decide +kernel
theorem dJ13_bitCount_95d88_38 : decode cJ13_bitCount_95d88 38 = .ok (.lushr, 1) := by decide +kernel
theorem dJ13_bitCount_95d88_39 : decode cJ13_bitCount_95d88 39 = .ok (.ladd, 1) := by decide +kernel
theorem dJ13_bitCount_95d88_40 : decode cJ13_bitCount_95d88 40 = .ok (.lstore_n 0, 1) := by decide +kernel
theorem dJ13_bitCount_95d88_41 : decode cJ13_bitCount_95d88 41 = .ok (.lload_n 0, 1) := by decide +kernel
theorem dJ13_bitCount_95d88_42 : decode cJ13_bitCount_95d88 42 = .ok (.lload_n 0, 1) := by decide +kernel
theorem dJ13_bitCount_95d88_43 : decode cJ13_bitCount_95d88 43 = .ok (.bipush 16, 2) := by decide +kernel
theorem dJ13_bitCount_95d88_45 : decode cJ13_bitCount_95d88 45 = .ok (.lushr, 1) := by decide +kernel
theorem dJ13_bitCount_95d88_46 : decode cJ13_bitCount_95d88 46 = .ok (.ladd, 1) := by decide +kernel
theorem dJ13_bitCount_95d88_47 : decode cJ13_bitCount_95d88 47 = .ok (.lstore_n 0, 1) := by decide +kernel
theorem dJ13_bitCount_95d88_48 : decode cJ13_bitCount_95d88 48 = .ok (.lload_n 0, 1) := by decide +kernel
theorem dJ13_bitCount_95d88_49 : decode cJ13_bitCount_95d88 49 = .ok (.lload_n 0, 1) := by decide +kernel
theorem dJ13_bitCount_95d88_50 : decode cJ13_bitCount_95d88 50 = .ok (.bipush 32, 2) := by decide +kernel
theorem dJ13_bitCount_95d88_52 : decode cJ13_bitCount_95d88 52 = .ok (.lushr, 1) := by decide +kernel
theorem dJ13_bitCount_95d88_53 : decode cJ13_bitCount_95d88 53 = .ok (.ladd, 1) := by decide +kernel
theorem dJ13_bitCount_95d88_54 : decode cJ13_bitCount_95d88 54 = .ok (.lstore_n 0, 1) := by decide +kernel
theorem dJ13_bitCount_95d88_55 : decode cJ13_bitCount_95d88 55 = .ok (.lload_n 0, 1) := by decide +kernel
theorem dJ13_bitCount_95d88_56 : decode cJ13_bitCount_95d88 56 = .ok (.l2i, 1) := by decide +kernel
theorem dJ13_bitCount_95d88_57 : decode cJ13_bitCount_95d88 57 = .ok (.bipush 127, 2) := by decide +kernel
theorem dJ13_bitCount_95d88_59 : decode cJ13_bitCount_95d88 59 = .ok (.iand, 1) := by decide +kernel
theorem dJ13_bitCount_95d88_60 : decode cJ13_bitCount_95d88 60 = .ok (.ireturn, 1) := by decide +kernel
theorem dX10_nodeAt_0 : decode cX10_nodeAt 0 = .ok (.aload_n 0, 1) := by decide +kernel
theorem dX10_nodeAt_1 : decode cX10_nodeAt 1 = .ok (.getfield 13, 3) := by decide +kernel
theorem dX10_nodeAt_4 : decode cX10_nodeAt 4 = .ok (.iload_n 1, 1) := by decide +kernel
theorem dX10_nodeAt_5 : decode cX10_nodeAt 5 = .ok (.ifCond .lt 16, 3) := by decide +kernel
theorem dX10_nodeAt_8 : decode cX10_nodeAt 8 = .ok (.iload_n 1, 1) := by decide +kernel
theorem dX10_nodeAt_9 : decode cX10_nodeAt 9 = .ok (.aload_n 0, 1) := by decide +kernel
theorem dX10_nodeAt_10 : decode cX10_nodeAt 10 = .ok (.getfield 13, 3) := by decide +kernel
theorem dX10_nodeAt_13 : decode cX10_nodeAt 13 = .ok (.arraylength, 1) := by decide +kernel
theorem dX10_nodeAt_14 : decode cX10_nodeAt 14 = .ok (.if_icmp .ge 7, 3) := by decide +kernel
theorem dX10_nodeAt_17 : decode cX10_nodeAt 17 = .ok (.iload_n 1, 1) := by decide +kernel
theorem dX10_nodeAt_18 : decode cX10_nodeAt 18 = .ok (.goto 4, 3) := by decide +kernel
theorem dX10_nodeAt_21 : decode cX10_nodeAt 21 = .ok (.iconst 0, 1) := by decide +kernel
theorem dX10_nodeAt_22 : decode cX10_nodeAt 22 = .ok (.aaload, 1) := by decide +kernel
theorem dX10_nodeAt_23 : decode cX10_nodeAt 23 = .ok (.areturn, 1) := by decide +kernel
theorem dX5_copyFrom_0 : decode cX5_copyFrom 0 = .ok (.aload_n 0, 1) := by decide +kernel
theorem dX5_copyFrom_1 : decode cX5_copyFrom 1 = .ok (.aload_n 1, 1) := by decide +kernel
theorem dX5_copyFrom_2 : decode cX5_copyFrom 2 = .ok (.getfield 7, 3) := by decide +kernel
theorem dX5_copyFrom_5 : decode cX5_copyFrom 5 = .ok (.putfield 7, 3) := by decide +kernel
theorem dX5_copyFrom_8 : decode cX5_copyFrom 8 = .ok (.aload_n 0, 1) := by decide +kernel
theorem dX5_copyFrom_9 : decode cX5_copyFrom 9 = .ok (.aload_n 1, 1) := by decide +kernel
theorem dX5_copyFrom_10 : decode cX5_copyFrom 10 = .ok (.getfield 13, 3) := by decide +kernel
theorem dX5_copyFrom_13 : decode cX5_copyFrom 13 = .ok (.putfield 13, 3) := by decide +kernel
theorem dX5_copyFrom_16 : decode cX5_copyFrom 16 = .ok (.aload_n 0, 1) := by decide +kernel
theorem dX5_copyFrom_17 : decode cX5_copyFrom 17 = .ok (.aload_n 1, 1) := by decide +kernel
theorem dX5_copyFrom_18 : decode cX5_copyFrom 18 = .ok (.getfield 16, 3) := by decide +kernel
theorem dX5_copyFrom_21 : decode cX5_copyFrom 21 = .ok (.putfield 16, 3) := by decide +kernel
theorem dX5_copyFrom_24 : decode cX5_copyFrom 24 = .ok (.aload_n 0, 1) := by decide +kernel
theorem dX5_copyFrom_25 : decode cX5_copyFrom 25 = .ok (.aload_n 1, 1) := by decide +kernel
theorem dX5_copyFrom_26 : decode cX5_copyFrom 26 = .ok (.getfield 20, 3) := by decide +kernel
theorem dX5_copyFrom_29 : decode cX5_copyFrom 29 = .ok (.putfield 20, 3) := by decide +kernel
theorem dX5_copyFrom_32 : decode cX5_copyFrom 32 = .ok (.aload_n 0, 1) := by decide +kernel
theorem dX5_copyFrom_33 : decode cX5_copyFrom 33 = .ok (.aload_n 1, 1) := by decide +kernel
theorem dX5_copyFrom_34 : decode cX5_copyFrom 34 = .ok (.getfield 23, 3) := by decide +kernel
theorem dX5_copyFrom_37 : decode cX5_copyFrom 37 = .ok (.putfield 23, 3) := by decide +kernel
theorem dX5_copyFrom_40 : decode cX5_copyFrom 40 = .ok (.aload_n 0, 1) := by decide +kernel
theorem dX5_copyFrom_41 : decode cX5_copyFrom 41 = .ok (.aload_n 1, 1) := by decide +kernel
theorem dX5_copyFrom_42 : decode cX5_copyFrom 42 = .ok (.getfield 26, 3) := by decide +kernel
theorem dX5_copyFrom_45 : decode cX5_copyFrom 45 = .ok (.putfield 26, 3) := by decide +kernel
theorem dX5_copyFrom_48 : decode cX5_copyFrom 48 = .ok (.aload_n 0, 1) := by decide +kernel
theorem dX5_copyFrom_49 : decode cX5_copyFrom 49 = .ok (.aload_n 1, 1) := by decide +kernel
theorem dX5_copyFrom_50 : decode cX5_copyFrom 50 = .ok (.getfield 29, 3) := by decide +kernel
theorem dX5_copyFrom_53 : decode cX5_copyFrom 53 = .ok (.putfield 29, 3) := by decide +kernel
theorem dX5_copyFrom_56 : decode cX5_copyFrom 56 = .ok (.aload_n 0, 1) := by decide +kernel
theorem dX5_copyFrom_57 : decode cX5_copyFrom 57 = .ok (.aload_n 1, 1) := by decide +kernel
theorem dX5_copyFrom_58 : decode cX5_copyFrom 58 = .ok (.getfield 32, 3) := by decide +kernel
theorem dX5_copyFrom_61 : decode cX5_copyFrom 61 = .ok (.putfield 32, 3) := by decide +kernel
theorem dX5_copyFrom_64 : decode cX5_copyFrom 64 = .ok (.aload_n 0, 1) := by decide +kernel
theorem dX5_copyFrom_65 : decode cX5_copyFrom 65 = .ok (.aload_n 1, 1) := by decide +kernel
theorem dX5_copyFrom_66 : decode cX5_copyFrom 66 = .ok (.getfield 35, 3) := by decide +kernel
theorem dX5_copyFrom_69 : decode cX5_copyFrom 69 = .ok (.putfield 35, 3) := by decide +kernel
theorem dX5_copyFrom_72 : decode cX5_copyFrom 72 = .ok (.return_, 1) := by decide +kernel
theorem dX10_linkAt_0 : decode cX10_linkAt 0 = .ok (.aload_n 0, 1) := by decide +kernel
theorem dX10_linkAt_1 : decode cX10_linkAt 1 = .ok (.getfield 19, 3) := by decide +kernel
theorem dX10_linkAt_4 : decode cX10_linkAt 4 = .ok (.iload_n 1, 1) := by decide +kernel
theorem dX10_linkAt_5 : decode cX10_linkAt 5 = .ok (.ifCond .lt 16, 3) := by decide +kernel
theorem dX10_linkAt_8 : decode cX10_linkAt 8 = .ok (.iload_n 1, 1) := by decide +kernel
theorem dX10_linkAt_9 : decode cX10_linkAt 9 = .ok (.aload_n 0, 1) := by decide +kernel
theorem dX10_linkAt_10 : decode cX10_linkAt 10 = .ok (.getfield 19, 3) := by decide +kernel
theorem dX10_linkAt_13 : decode cX10_linkAt 13 = .ok (.arraylength, 1) := by decide +kernel
theorem dX10_linkAt_14 : decode cX10_linkAt 14 = .ok (.if_icmp .ge 7, 3) := by decide +kernel
theorem dX10_linkAt_17 : decode cX10_linkAt 17 = .ok (.iload_n 1, 1) := by decide +kernel
theorem dX10_linkAt_18 : decode cX10_linkAt 18 = .ok (.goto 4, 3) := by decide +kernel
theorem dX10_linkAt_21 : decode cX10_linkAt 21 = .ok (.iconst 0, 1) := by decide +kernel
theorem dX10_linkAt_22 : decode cX10_linkAt 22 = .ok (.aaload, 1) := by decide +kernel
theorem dX10_linkAt_23 : decode cX10_linkAt 23 = .ok (.areturn, 1) := by decide +kernel
theorem dX3_copyFrom_0 : decode cX3_copyFrom 0 = .ok (.aload_n 0, 1) := by decide +kernel
theorem dX3_copyFrom_1 : decode cX3_copyFrom 1 = .ok (.aload_n 1, 1) := by decide +kernel
theorem dX3_copyFrom_2 : decode cX3_copyFrom 2 = .ok (.getfield 7, 3) := by decide +kernel
theorem dX3_copyFrom_5 : decode cX3_copyFrom 5 = .ok (.putfield 7, 3) := by decide +kernel
theorem dX3_copyFrom_8 : decode cX3_copyFrom 8 = .ok (.aload_n 0, 1) := by decide +kernel
theorem dX3_copyFrom_9 : decode cX3_copyFrom 9 = .ok (.aload_n 1, 1) := by decide +kernel
theorem dX3_copyFrom_10 : decode cX3_copyFrom 10 = .ok (.getfield 13, 3) := by decide +kernel
theorem dX3_copyFrom_13 : decode cX3_copyFrom 13 = .ok (.putfield 13, 3) := by decide +kernel
theorem dX3_copyFrom_16 : decode cX3_copyFrom 16 = .ok (.aload_n 0, 1) := by decide +kernel
theorem dX3_copyFrom_17 : decode cX3_copyFrom 17 = .ok (.aload_n 1, 1) := by decide +kernel
theorem dX3_copyFrom_18 : decode cX3_copyFrom 18 = .ok (.getfield 16, 3) := by decide +kernel
theorem dX3_copyFrom_21 : decode cX3_copyFrom 21 = .ok (.putfield 16, 3) := by decide +kernel
theorem dX3_copyFrom_24 : decode cX3_copyFrom 24 = .ok (.aload_n 0, 1) := by decide +kernel
theorem dX3_copyFrom_25 : decode cX3_copyFrom 25 = .ok (.aload_n 1, 1) := by decide +kernel
theorem dX3_copyFrom_26 : decode cX3_copyFrom 26 = .ok (.getfield 19, 3) := by decide +kernel
theorem dX3_copyFrom_29 : decode cX3_copyFrom 29 = .ok (.putfield 19, 3) := by decide +kernel
theorem dX3_copyFrom_32 : decode cX3_copyFrom 32 = .ok (.aload_n 0, 1) := by decide +kernel
theorem dX3_copyFrom_33 : decode cX3_copyFrom 33 = .ok (.aload_n 1, 1) := by decide +kernel
theorem dX3_copyFrom_34 : decode cX3_copyFrom 34 = .ok (.getfield 22, 3) := by decide +kernel
theorem dX3_copyFrom_37 : decode cX3_copyFrom 37 = .ok (.putfield 22, 3) := by decide +kernel
theorem dX3_copyFrom_40 : decode cX3_copyFrom 40 = .ok (.return_, 1) := by decide +kernel
theorem dX10_messageAt_0 : decode cX10_messageAt 0 = .ok (.aload_n 0, 1) := by decide +kernel
theorem dX10_messageAt_1 : decode cX10_messageAt 1 = .ok (.getfield 25, 3) := by decide +kernel
theorem dX10_messageAt_4 : decode cX10_messageAt 4 = .ok (.iload_n 1, 1) := by decide +kernel
theorem dX10_messageAt_5 : decode cX10_messageAt 5 = .ok (.ifCond .lt 16, 3) := by decide +kernel
theorem dX10_messageAt_8 : decode cX10_messageAt 8 = .ok (.iload_n 1, 1) := by decide +kernel
theorem dX10_messageAt_9 : decode cX10_messageAt 9 = .ok (.aload_n 0, 1) := by decide +kernel
theorem dX10_messageAt_10 : decode cX10_messageAt 10 = .ok (.getfield 25, 3) := by decide +kernel
theorem dX10_messageAt_13 : decode cX10_messageAt 13 = .ok (.arraylength, 1) := by decide +kernel
theorem dX10_messageAt_14 : decode cX10_messageAt 14 = .ok (.if_icmp .ge 7, 3) := by decide +kernel
theorem dX10_messageAt_17 : decode cX10_messageAt 17 = .ok (.iload_n 1, 1) := by decide +kernel
theorem dX10_messageAt_18 : decode cX10_messageAt 18 = .ok (.goto 4, 3) := by decide +kernel
theorem dX10_messageAt_21 : decode cX10_messageAt 21 = .ok (.iconst 0, 1) := by decide +kernel
theorem dX10_messageAt_22 : decode cX10_messageAt 22 = .ok (.aaload, 1) := by decide +kernel
theorem dX10_messageAt_23 : decode cX10_messageAt 23 = .ok (.areturn, 1) := by decide +kernel
theorem dX4_copyFrom_0 : decode cX4_copyFrom 0 = .ok (.aload_n 0, 1) := by decide +kernel
theorem dX4_copyFrom_1 : decode cX4_copyFrom 1 = .ok (.aload_n 1, 1) := by decide +kernel
theorem dX4_copyFrom_2 : decode cX4_copyFrom 2 = .ok (.getfield 7, 3) := by decide +kernel
theorem dX4_copyFrom_5 : decode cX4_copyFrom 5 = .ok (.putfield 7, 3) := by decide +kernel
theorem dX4_copyFrom_8 : decode cX4_copyFrom 8 = .ok (.aload_n 0, 1) := by decide +kernel
theorem dX4_copyFrom_9 : decode cX4_copyFrom 9 = .ok (.aload_n 1, 1) := by decide +kernel
theorem dX4_copyFrom_10 : decode cX4_copyFrom 10 = .ok (.getfield 13, 3) := by decide +kernel
theorem dX4_copyFrom_13 : decode cX4_copyFrom 13 = .ok (.putfield 13, 3) := by decide +kernel
theorem dX4_copyFrom_16 : decode cX4_copyFrom 16 = .ok (.aload_n 0, 1) := by decide +kernel
theorem dX4_copyFrom_17 : decode cX4_copyFrom 17 = .ok (.aload_n 1, 1) := by decide +kernel
theorem dX4_copyFrom_18 : decode cX4_copyFrom 18 = .ok (.getfield 16, 3) := by decide +kernel
theorem dX4_copyFrom_21 : decode cX4_copyFrom 21 = .ok (.putfield 16, 3) := by decide +kernel
theorem dX4_copyFrom_24 : decode cX4_copyFrom 24 = .ok (.aload_n 0, 1) := by decide +kernel
theorem dX4_copyFrom_25 : decode cX4_copyFrom 25 = .ok (.aload_n 1, 1) := by decide +kernel
theorem dX4_copyFrom_26 : decode cX4_copyFrom 26 = .ok (.getfield 19, 3) := by decide +kernel
theorem dX4_copyFrom_29 : decode cX4_copyFrom 29 = .ok (.putfield 19, 3) := by decide +kernel
theorem dX4_copyFrom_32 : decode cX4_copyFrom 32 = .ok (.aload_n 0, 1) := by decide +kernel
theorem dX4_copyFrom_33 : decode cX4_copyFrom 33 = .ok (.aload_n 1, 1) := by decide +kernel
theorem dX4_copyFrom_34 : decode cX4_copyFrom 34 = .ok (.getfield 22, 3) := by decide +kernel
theorem dX4_copyFrom_37 : decode cX4_copyFrom 37 = .ok (.putfield 22, 3) := by decide +kernel
theorem dX4_copyFrom_40 : decode cX4_copyFrom 40 = .ok (.aload_n 0, 1) := by decide +kernel
theorem dX4_copyFrom_41 : decode cX4_copyFrom 41 = .ok (.aload_n 1, 1) := by decide +kernel
theorem dX4_copyFrom_42 : decode cX4_copyFrom 42 = .ok (.getfield 25, 3) := by decide +kernel
theorem dX4_copyFrom_45 : decode cX4_copyFrom 45 = .ok (.putfield 25, 3) := by decide +kernel
theorem dX4_copyFrom_48 : decode cX4_copyFrom 48 = .ok (.aload_n 0, 1) := by decide +kernel
theorem dX4_copyFrom_49 : decode cX4_copyFrom 49 = .ok (.aload_n 1, 1) := by decide +kernel
theorem dX4_copyFrom_50 : decode cX4_copyFrom 50 = .ok (.getfield 28, 3) := by decide +kernel
theorem dX4_copyFrom_53 : decode cX4_copyFrom 53 = .ok (.putfield 28, 3) := by decide +kernel
theorem dX4_copyFrom_56 : decode cX4_copyFrom 56 = .ok (.aload_n 0, 1) := by decide +kernel
theorem dX4_copyFrom_57 : decode cX4_copyFrom 57 = .ok (.aload_n 1, 1) := by decide +kernel
theorem dX4_copyFrom_58 : decode cX4_copyFrom 58 = .ok (.getfield 31, 3) := by decide +kernel
theorem dX4_copyFrom_61 : decode cX4_copyFrom 61 = .ok (.putfield 31, 3) := by decide +kernel
theorem dX4_copyFrom_64 : decode cX4_copyFrom 64 = .ok (.return_, 1) := by decide +kernel
theorem dX10_copyFrom_0 : decode cX10_copyFrom 0 = .ok (.aload_n 0, 1) := by decide +kernel
theorem dX10_copyFrom_1 : decode cX10_copyFrom 1 = .ok (.aload_n 1, 1) := by decide +kernel
theorem dX10_copyFrom_2 : decode cX10_copyFrom 2 = .ok (.getfield 35, 3) := by decide +kernel
theorem dX10_copyFrom_5 : decode cX10_copyFrom 5 = .ok (.putfield 35, 3) := by decide +kernel
theorem dX10_copyFrom_8 : decode cX10_copyFrom 8 = .ok (.aload_n 0, 1) := by decide +kernel
theorem dX10_copyFrom_9 : decode cX10_copyFrom 9 = .ok (.aload_n 1, 1) := by decide +kernel
theorem dX10_copyFrom_10 : decode cX10_copyFrom 10 = .ok (.getfield 39, 3) := by decide +kernel
theorem dX10_copyFrom_13 : decode cX10_copyFrom 13 = .ok (.putfield 39, 3) := by decide +kernel
theorem dX10_copyFrom_16 : decode cX10_copyFrom 16 = .ok (.aload_n 0, 1) := by decide +kernel
theorem dX10_copyFrom_17 : decode cX10_copyFrom 17 = .ok (.aload_n 1, 1) := by decide +kernel
theorem dX10_copyFrom_18 : decode cX10_copyFrom 18 = .ok (.getfield 42, 3) := by decide +kernel
theorem dX10_copyFrom_21 : decode cX10_copyFrom 21 = .ok (.putfield 42, 3) := by decide +kernel
theorem dX10_copyFrom_24 : decode cX10_copyFrom 24 = .ok (.aload_n 0, 1) := by decide +kernel
theorem dX10_copyFrom_25 : decode cX10_copyFrom 25 = .ok (.aload_n 1, 1) := by decide +kernel
theorem dX10_copyFrom_26 : decode cX10_copyFrom 26 = .ok (.getfield 45, 3) := by decide +kernel
theorem dX10_copyFrom_29 : decode cX10_copyFrom 29 = .ok (.putfield 45, 3) := by decide +kernel
theorem dX10_copyFrom_32 : decode cX10_copyFrom 32 = .ok (.aload_n 0, 1) := by decide +kernel
theorem dX10_copyFrom_33 : decode cX10_copyFrom 33 = .ok (.aload_n 1, 1) := by decide +kernel
theorem dX10_copyFrom_34 : decode cX10_copyFrom 34 = .ok (.getfield 48, 3) := by decide +kernel
theorem dX10_copyFrom_37 : decode cX10_copyFrom 37 = .ok (.putfield 48, 3) := by decide +kernel
theorem dX10_copyFrom_40 : decode cX10_copyFrom 40 = .ok (.aload_n 0, 1) := by decide +kernel
theorem dX10_copyFrom_41 : decode cX10_copyFrom 41 = .ok (.aload_n 1, 1) := by decide +kernel
theorem dX10_copyFrom_42 : decode cX10_copyFrom 42 = .ok (.getfield 51, 3) := by decide +kernel
theorem dX10_copyFrom_45 : decode cX10_copyFrom 45 = .ok (.putfield 51, 3) := by decide +kernel
theorem dX10_copyFrom_48 : decode cX10_copyFrom 48 = .ok (.aload_n 0, 1) := by decide +kernel
theorem dX10_copyFrom_49 : decode cX10_copyFrom 49 = .ok (.aload_n 1, 1) := by decide +kernel
theorem dX10_copyFrom_50 : decode cX10_copyFrom 50 = .ok (.getfield 54, 3) := by decide +kernel
theorem dX10_copyFrom_53 : decode cX10_copyFrom 53 = .ok (.putfield 54, 3) := by decide +kernel
theorem dX10_copyFrom_56 : decode cX10_copyFrom 56 = .ok (.aload_n 0, 1) := by decide +kernel
theorem dX10_copyFrom_57 : decode cX10_copyFrom 57 = .ok (.aload_n 1, 1) := by decide +kernel
theorem dX10_copyFrom_58 : decode cX10_copyFrom 58 = .ok (.getfield 57, 3) := by decide +kernel
theorem dX10_copyFrom_61 : decode cX10_copyFrom 61 = .ok (.putfield 57, 3) := by decide +kernel
theorem dX10_copyFrom_64 : decode cX10_copyFrom 64 = .ok (.aload_n 0, 1) := by decide +kernel
theorem dX10_copyFrom_65 : decode cX10_copyFrom 65 = .ok (.aload_n 1, 1) := by decide +kernel
theorem dX10_copyFrom_66 : decode cX10_copyFrom 66 = .ok (.getfield 60, 3) := by decide +kernel
theorem dX10_copyFrom_69 : decode cX10_copyFrom 69 = .ok (.putfield 60, 3) := by decide +kernel
theorem dX10_copyFrom_72 : decode cX10_copyFrom 72 = .ok (.aload_n 0, 1) := by decide +kernel
theorem dX10_copyFrom_73 : decode cX10_copyFrom 73 = .ok (.aload_n 1, 1) := by decide +kernel
theorem dX10_copyFrom_74 : decode cX10_copyFrom 74 = .ok (.getfield 63, 3) := by decide +kernel
theorem dX10_copyFrom_77 : decode cX10_copyFrom 77 = .ok (.putfield 63, 3) := by decide +kernel
theorem dX10_copyFrom_80 : decode cX10_copyFrom 80 = .ok (.iconst 0, 1) := by decide +kernel
theorem dX10_copyFrom_81 : decode cX10_copyFrom 81 = .ok (.istore_n 2, 1) := by decide +kernel
theorem dX10_copyFrom_82 : decode cX10_copyFrom 82 = .ok (.iload_n 2, 1) := by decide +kernel
theorem dX10_copyFrom_83 : decode cX10_copyFrom 83 = .ok (.aload_n 0, 1) := by decide +kernel
theorem dX10_copyFrom_84 : decode cX10_copyFrom 84 = .ok (.getfield 35, 3) := by decide +kernel
theorem dX10_copyFrom_87 : decode cX10_copyFrom 87 = .ok (.if_icmp .ge 22, 3) := by decide +kernel
theorem dX10_copyFrom_109 : decode cX10_copyFrom 109 = .ok (.iconst 0, 1) := by decide +kernel
theorem dX10_copyFrom_110 : decode cX10_copyFrom 110 = .ok (.istore_n 2, 1) := by decide +kernel
theorem dX10_copyFrom_90 : decode cX10_copyFrom 90 = .ok (.aload_n 0, 1) := by decide +kernel
theorem dX10_copyFrom_91 : decode cX10_copyFrom 91 = .ok (.iload_n 2, 1) := by decide +kernel
theorem dX10_copyFrom_92 : decode cX10_copyFrom 92 = .ok (.invokevirtual 66, 3) := by decide +kernel
theorem dX10_copyFrom_95 : decode cX10_copyFrom 95 = .ok (.aload_n 1, 1) := by decide +kernel
theorem dX10_copyFrom_96 : decode cX10_copyFrom 96 = .ok (.iload_n 2, 1) := by decide +kernel
theorem dX10_copyFrom_97 : decode cX10_copyFrom 97 = .ok (.invokevirtual 66, 3) := by decide +kernel
theorem dX10_copyFrom_100 : decode cX10_copyFrom 100 = .ok (.invokevirtual 70, 3) := by decide +kernel
theorem dX10_copyFrom_103 : decode cX10_copyFrom 103 = .ok (.iinc 2 1, 3) := by decide +kernel
theorem dX10_copyFrom_106 : decode cX10_copyFrom 106 = .ok (.goto (-24), 3) := by decide +kernel
theorem dX10_copyFrom_111 : decode cX10_copyFrom 111 = .ok (.iload_n 2, 1) := by decide +kernel
theorem dX10_copyFrom_112 : decode cX10_copyFrom 112 = .ok (.aload_n 0, 1) := by decide +kernel
theorem dX10_copyFrom_113 : decode cX10_copyFrom 113 = .ok (.getfield 39, 3) := by decide +kernel
theorem dX10_copyFrom_116 : decode cX10_copyFrom 116 = .ok (.if_icmp .ge 22, 3) := by decide +kernel
theorem dX10_copyFrom_138 : decode cX10_copyFrom 138 = .ok (.iconst 0, 1) := by decide +kernel
theorem dX10_copyFrom_139 : decode cX10_copyFrom 139 = .ok (.istore_n 2, 1) := by decide +kernel
theorem dX10_copyFrom_119 : decode cX10_copyFrom 119 = .ok (.aload_n 0, 1) := by decide +kernel
theorem dX10_copyFrom_120 : decode cX10_copyFrom 120 = .ok (.iload_n 2, 1) := by decide +kernel
theorem dX10_copyFrom_121 : decode cX10_copyFrom 121 = .ok (.invokevirtual 74, 3) := by decide +kernel
theorem dX10_copyFrom_124 : decode cX10_copyFrom 124 = .ok (.aload_n 1, 1) := by decide +kernel
theorem dX10_copyFrom_125 : decode cX10_copyFrom 125 = .ok (.iload_n 2, 1) := by decide +kernel
theorem dX10_copyFrom_126 : decode cX10_copyFrom 126 = .ok (.invokevirtual 74, 3) := by decide +kernel
theorem dX10_copyFrom_129 : decode cX10_copyFrom 129 = .ok (.invokevirtual 78, 3) := by decide +kernel
theorem dX10_copyFrom_132 : decode cX10_copyFrom 132 = .ok (.iinc 2 1, 3) := by decide +kernel
theorem dX10_copyFrom_135 : decode cX10_copyFrom 135 = .ok (.goto (-24), 3) := by decide +kernel
theorem dX10_copyFrom_140 : decode cX10_copyFrom 140 = .ok (.iload_n 2, 1) := by decide +kernel
theorem dX10_copyFrom_141 : decode cX10_copyFrom 141 = .ok (.aload_n 0, 1) := by decide +kernel
theorem dX10_copyFrom_142 : decode cX10_copyFrom 142 = .ok (.getfield 42, 3) := by decide +kernel
theorem dX10_copyFrom_145 : decode cX10_copyFrom 145 = .ok (.if_icmp .ge 22, 3) := by decide +kernel
theorem dX10_copyFrom_167 : decode cX10_copyFrom 167 = .ok (.return_, 1) := by decide +kernel
theorem dX10_copyFrom_148 : decode cX10_copyFrom 148 = .ok (.aload_n 0, 1) := by decide +kernel
theorem dX10_copyFrom_149 : decode cX10_copyFrom 149 = .ok (.iload_n 2, 1) := by decide +kernel
theorem dX10_copyFrom_150 : decode cX10_copyFrom 150 = .ok (.invokevirtual 81, 3) := by decide +kernel
theorem dX10_copyFrom_153 : decode cX10_copyFrom 153 = .ok (.aload_n 1, 1) := by decide +kernel
theorem dX10_copyFrom_154 : decode cX10_copyFrom 154 = .ok (.iload_n 2, 1) := by decide +kernel
theorem dX10_copyFrom_155 : decode cX10_copyFrom 155 = .ok (.invokevirtual 81, 3) := by decide +kernel
theorem dX10_copyFrom_158 : decode cX10_copyFrom 158 = .ok (.invokevirtual 85, 3) := by decide +kernel
theorem dX10_copyFrom_161 : decode cX10_copyFrom 161 = .ok (.iinc 2 1, 3) := by decide +kernel
theorem dX10_copyFrom_164 : decode cX10_copyFrom 164 = .ok (.goto (-24), 3) := by decide +kernel
theorem dX10_dayOfYear_0 : decode cX10_dayOfYear 0 = .ok (.aload_n 0, 1) := by decide +kernel
theorem dX10_dayOfYear_1 : decode cX10_dayOfYear 1 = .ok (.getfield 45, 3) := by decide +kernel
theorem dX10_dayOfYear_4 : decode cX10_dayOfYear 4 = .ok (.ifCond .le 12, 3) := by decide +kernel
theorem dX10_dayOfYear_7 : decode cX10_dayOfYear 7 = .ok (.iload_n 1, 1) := by decide +kernel
theorem dX10_dayOfYear_8 : decode cX10_dayOfYear 8 = .ok (.aload_n 0, 1) := by decide +kernel
theorem dX10_dayOfYear_9 : decode cX10_dayOfYear 9 = .ok (.getfield 45, 3) := by decide +kernel
theorem dX10_dayOfYear_12 : decode cX10_dayOfYear 12 = .ok (.irem, 1) := by decide +kernel
theorem dX10_dayOfYear_13 : decode cX10_dayOfYear 13 = .ok (.goto 4, 3) := by decide +kernel
theorem dX10_dayOfYear_17 : decode cX10_dayOfYear 17 = .ok (.ireturn, 1) := by decide +kernel
theorem dX10_dayOf_0 : decode cX10_dayOf 0 = .ok (.aload_n 0, 1) := by decide +kernel
theorem dX10_dayOf_1 : decode cX10_dayOf 1 = .ok (.aload_n 0, 1) := by decide +kernel
theorem dX10_dayOf_2 : decode cX10_dayOf 2 = .ok (.getfield 60, 3) := by decide +kernel
theorem dX10_dayOf_5 : decode cX10_dayOf 5 = .ok (.aload_n 0, 1) := by decide +kernel
theorem dX10_dayOf_6 : decode cX10_dayOf 6 = .ok (.iload_n 1, 1) := by decide +kernel
theorem dX10_dayOf_7 : decode cX10_dayOf 7 = .ok (.invokevirtual 66, 3) := by decide +kernel
theorem dX10_dayOf_10 : decode cX10_dayOf 10 = .ok (.getfield 98, 3) := by decide +kernel
theorem dX10_dayOf_13 : decode cX10_dayOf 13 = .ok (.iadd, 1) := by decide +kernel
theorem dX10_dayOf_14 : decode cX10_dayOf 14 = .ok (.invokevirtual 156, 3) := by decide +kernel
theorem dX10_dayOf_17 : decode cX10_dayOf 17 = .ok (.ireturn, 1) := by decide +kernel
theorem dX10_isOut_0 : decode cX10_isOut 0 = .ok (.aload_n 0, 1) := by decide +kernel
theorem dX10_isOut_1 : decode cX10_isOut 1 = .ok (.iload_n 1, 1) := by decide +kernel
theorem dX10_isOut_2 : decode cX10_isOut 2 = .ok (.invokevirtual 66, 3) := by decide +kernel
theorem dX10_isOut_5 : decode cX10_isOut 5 = .ok (.getfield 101, 3) := by decide +kernel
theorem dX10_isOut_8 : decode cX10_isOut 8 = .ok (.ifCond .ne 7, 3) := by decide +kernel
theorem dX10_isOut_15 : decode cX10_isOut 15 = .ok (.iconst 0, 1) := by decide +kernel
theorem dX10_isOut_11 : decode cX10_isOut 11 = .ok (.iconst 1, 1) := by decide +kernel
theorem dX10_isOut_12 : decode cX10_isOut 12 = .ok (.goto 4, 3) := by decide +kernel
theorem dX10_isOut_16 : decode cX10_isOut 16 = .ok (.ireturn, 1) := by decide +kernel
theorem dX10_has_0 : decode cX10_has 0 = .ok (.iload_n 0, 1) := by decide +kernel
theorem dX10_has_1 : decode cX10_has 1 = .ok (.iload_n 1, 1) := by decide +kernel
theorem dX10_has_2 : decode cX10_has 2 = .ok (.ishr, 1) := by decide +kernel
theorem dX10_has_3 : decode cX10_has 3 = .ok (.iconst 1, 1) := by decide +kernel
theorem dX10_has_4 : decode cX10_has 4 = .ok (.iand, 1) := by decide +kernel
theorem dX10_has_5 : decode cX10_has 5 = .ok (.ifCond .eq 7, 3) := by decide +kernel
theorem dX10_has_12 : decode cX10_has 12 = .ok (.iconst 0, 1) := by decide +kernel
theorem dX10_has_8 : decode cX10_has 8 = .ok (.iconst 1, 1) := by decide +kernel
theorem dX10_has_9 : decode cX10_has 9 = .ok (.goto 4, 3) := by decide +kernel
theorem dX10_has_13 : decode cX10_has 13 = .ok (.ireturn, 1) := by decide +kernel
theorem dX10_tableOf_0 : decode cX10_tableOf 0 = .ok (.aload_n 0, 1) := by decide +kernel
theorem dX10_tableOf_1 : decode cX10_tableOf 1 = .ok (.iload_n 1, 1) := by decide +kernel
theorem dX10_tableOf_2 : decode cX10_tableOf 2 = .ok (.invokevirtual 66, 3) := by decide +kernel
theorem dX10_tableOf_5 : decode cX10_tableOf 5 = .ok (.astore_n 2, 1) := by decide +kernel
theorem dX10_tableOf_6 : decode cX10_tableOf 6 = .ok (.aload_n 2, 1) := by decide +kernel
theorem dX10_tableOf_7 : decode cX10_tableOf 7 = .ok (.getfield 92, 3) := by decide +kernel
theorem dX10_tableOf_10 : decode cX10_tableOf 10 = .ok (.lconst 1, 1) := by decide +kernel
theorem dX10_tableOf_11 : decode cX10_tableOf 11 = .ok (.aload_n 2, 1) := by decide +kernel
theorem dX10_tableOf_12 : decode cX10_tableOf 12 = .ok (.getfield 95, 3) := by decide +kernel
theorem dX10_tableOf_15 : decode cX10_tableOf 15 = .ok (.lshl, 1) := by decide +kernel
theorem dX10_tableOf_16 : decode cX10_tableOf 16 = .ok (.lor, 1) := by decide +kernel
theorem dX10_tableOf_17 : decode cX10_tableOf 17 = .ok (.lstore_n 3, 1) := by decide +kernel
theorem dX10_tableOf_18 : decode cX10_tableOf 18 = .ok (.iconst 0, 1) := by decide +kernel
theorem dX10_tableOf_19 : decode cX10_tableOf 19 = .ok (.istore 5, 2) := by decide +kernel
theorem dX10_tableOf_21 : decode cX10_tableOf 21 = .ok (.iload 5, 2) := by decide +kernel
theorem dX10_tableOf_23 : decode cX10_tableOf 23 = .ok (.aload_n 0, 1) := by decide +kernel
theorem dX10_tableOf_24 : decode cX10_tableOf 24 = .ok (.getfield 35, 3) := by decide +kernel
theorem dX10_tableOf_27 : decode cX10_tableOf 27 = .ok (.if_icmp .ge 35, 3) := by decide +kernel
theorem dX10_tableOf_62 : decode cX10_tableOf 62 = .ok (.lload_n 3, 1) := by decide +kernel
theorem dX10_tableOf_63 : decode cX10_tableOf 63 = .ok (.lreturn, 1) := by decide +kernel
theorem dX10_tableOf_30 : decode cX10_tableOf 30 = .ok (.aload_n 2, 1) := by decide +kernel
theorem dX10_tableOf_31 : decode cX10_tableOf 31 = .ok (.getfield 104, 3) := by decide +kernel
theorem dX10_tableOf_34 : decode cX10_tableOf 34 = .ok (.iload 5, 2) := by decide +kernel
theorem dX10_tableOf_36 : decode cX10_tableOf 36 = .ok (.invokestatic 181, 3) := by decide +kernel
theorem dX10_tableOf_39 : decode cX10_tableOf 39 = .ok (.ifCond .eq 17, 3) := by decide +kernel
theorem dX10_tableOf_42 : decode cX10_tableOf 42 = .ok (.lload_n 3, 1) := by decide +kernel
theorem dX10_tableOf_43 : decode cX10_tableOf 43 = .ok (.lconst 1, 1) := by decide +kernel
theorem dX10_tableOf_44 : decode cX10_tableOf 44 = .ok (.aload_n 0, 1) := by decide +kernel
theorem dX10_tableOf_45 : decode cX10_tableOf 45 = .ok (.iload 5, 2) := by decide +kernel
theorem dX10_tableOf_47 : decode cX10_tableOf 47 = .ok (.invokevirtual 66, 3) := by decide +kernel
theorem dX10_tableOf_50 : decode cX10_tableOf 50 = .ok (.getfield 95, 3) := by decide +kernel
theorem dX10_tableOf_53 : decode cX10_tableOf 53 = .ok (.lshl, 1) := by decide +kernel
theorem dX10_tableOf_54 : decode cX10_tableOf 54 = .ok (.lor, 1) := by decide +kernel
theorem dX10_tableOf_55 : decode cX10_tableOf 55 = .ok (.lstore_n 3, 1) := by decide +kernel
theorem dX10_tableOf_56 : decode cX10_tableOf 56 = .ok (.iinc 5 1, 3) := by decide +kernel
theorem dX10_tableOf_59 : decode cX10_tableOf 59 = .ok (.goto (-38), 3) := by decide +kernel
theorem dX10_hasDay_0 : decode cX10_hasDay 0 = .ok (.lload_n 0, 1) := by decide +kernel
theorem dX10_hasDay_1 : decode cX10_hasDay 1 = .ok (.iload_n 2, 1) := by decide +kernel
theorem dX10_hasDay_2 : decode cX10_hasDay 2 = .ok (.lshr, 1) := by decide +kernel
theorem dX10_hasDay_3 : decode cX10_hasDay 3 = .ok (.lconst 1, 1) := by decide +kernel
theorem dX10_hasDay_4 : decode cX10_hasDay 4 = .ok (.land, 1) := by decide +kernel
theorem dX10_hasDay_5 : decode cX10_hasDay 5 = .ok (.lconst 0, 1) := by decide +kernel
theorem dX10_hasDay_6 : decode cX10_hasDay 6 = .ok (.lcmp, 1) := by decide +kernel
theorem dX10_hasDay_7 : decode cX10_hasDay 7 = .ok (.ifCond .eq 7, 3) := by decide +kernel
theorem dX10_hasDay_14 : decode cX10_hasDay 14 = .ok (.iconst 0, 1) := by decide +kernel
theorem dX10_hasDay_10 : decode cX10_hasDay 10 = .ok (.iconst 1, 1) := by decide +kernel
theorem dX10_hasDay_11 : decode cX10_hasDay 11 = .ok (.goto 4, 3) := by decide +kernel
theorem dX10_hasDay_15 : decode cX10_hasDay 15 = .ok (.ireturn, 1) := by decide +kernel
theorem dX10_isAwake_0 : decode cX10_isAwake 0 = .ok (.aload_n 0, 1) := by decide +kernel
theorem dX10_isAwake_1 : decode cX10_isAwake 1 = .ok (.iload_n 1, 1) := by decide +kernel
theorem dX10_isAwake_2 : decode cX10_isAwake 2 = .ok (.invokevirtual 160, 3) := by decide +kernel
theorem dX10_isAwake_5 : decode cX10_isAwake 5 = .ok (.ifCond .ne 23, 3) := by decide +kernel
theorem dX10_isAwake_8 : decode cX10_isAwake 8 = .ok (.aload_n 0, 1) := by decide +kernel
theorem dX10_isAwake_9 : decode cX10_isAwake 9 = .ok (.iload_n 1, 1) := by decide +kernel
theorem dX10_isAwake_10 : decode cX10_isAwake 10 = .ok (.invokevirtual 174, 3) := by decide +kernel
theorem dX10_isAwake_13 : decode cX10_isAwake 13 = .ok (.aload_n 0, 1) := by decide +kernel
theorem dX10_isAwake_14 : decode cX10_isAwake 14 = .ok (.iload_n 1, 1) := by decide +kernel
theorem dX10_isAwake_15 : decode cX10_isAwake 15 = .ok (.invokevirtual 178, 3) := by decide +kernel
theorem dX10_isAwake_18 : decode cX10_isAwake 18 = .ok (.invokestatic 170, 3) := by decide +kernel
theorem dX10_isAwake_21 : decode cX10_isAwake 21 = .ok (.ifCond .eq 7, 3) := by decide +kernel
theorem dX10_isAwake_24 : decode cX10_isAwake 24 = .ok (.iconst 1, 1) := by decide +kernel
theorem dX10_isAwake_25 : decode cX10_isAwake 25 = .ok (.goto 4, 3) := by decide +kernel
theorem dX10_isAwake_28 : decode cX10_isAwake 28 = .ok (.iconst 0, 1) := by decide +kernel
theorem dX10_isAwake_29 : decode cX10_isAwake 29 = .ok (.ireturn, 1) := by decide +kernel
theorem dX10_wakeNodes_0 : decode cX10_wakeNodes 0 = .ok (.aload_n 0, 1) := by decide +kernel
theorem dX10_wakeNodes_1 : decode cX10_wakeNodes 1 = .ok (.iconst 0, 1) := by decide +kernel
theorem dX10_wakeNodes_2 : decode cX10_wakeNodes 2 = .ok (.putfield 262, 3) := by decide +kernel
theorem dX10_wakeNodes_5 : decode cX10_wakeNodes 5 = .ok (.iconst 0, 1) := by decide +kernel
theorem dX10_wakeNodes_6 : decode cX10_wakeNodes 6 = .ok (.istore_n 1, 1) := by decide +kernel
theorem dX10_wakeNodes_7 : decode cX10_wakeNodes 7 = .ok (.iload_n 1, 1) := by decide +kernel
theorem dX10_wakeNodes_8 : decode cX10_wakeNodes 8 = .ok (.aload_n 0, 1) := by decide +kernel
theorem dX10_wakeNodes_9 : decode cX10_wakeNodes 9 = .ok (.getfield 35, 3) := by decide +kernel
theorem dX10_wakeNodes_12 : decode cX10_wakeNodes 12 = .ok (.if_icmp .ge 78, 3) := by decide +kernel
theorem dX10_wakeNodes_90 : decode cX10_wakeNodes 90 = .ok (.return_, 1) := by decide +kernel
theorem dX10_wakeNodes_15 : decode cX10_wakeNodes 15 = .ok (.aload_n 0, 1) := by decide +kernel
theorem dX10_wakeNodes_16 : decode cX10_wakeNodes 16 = .ok (.iload_n 1, 1) := by decide +kernel
theorem dX10_wakeNodes_17 : decode cX10_wakeNodes 17 = .ok (.invokevirtual 66, 3) := by decide +kernel
theorem dX10_wakeNodes_20 : decode cX10_wakeNodes 20 = .ok (.astore_n 2, 1) := by decide +kernel
theorem dX10_wakeNodes_21 : decode cX10_wakeNodes 21 = .ok (.aload_n 2, 1) := by decide +kernel
theorem dX10_wakeNodes_22 : decode cX10_wakeNodes 22 = .ok (.aload_n 0, 1) := by decide +kernel
theorem dX10_wakeNodes_23 : decode cX10_wakeNodes 23 = .ok (.iload_n 1, 1) := by decide +kernel
theorem dX10_wakeNodes_24 : decode cX10_wakeNodes 24 = .ok (.invokevirtual 178, 3) := by decide +kernel
theorem dX10_wakeNodes_27 : decode cX10_wakeNodes 27 = .ok (.putfield 265, 3) := by decide +kernel
theorem dX10_wakeNodes_30 : decode cX10_wakeNodes 30 = .ok (.aload_n 0, 1) := by decide +kernel
theorem dX10_wakeNodes_31 : decode cX10_wakeNodes 31 = .ok (.iload_n 1, 1) := by decide +kernel
theorem dX10_wakeNodes_32 : decode cX10_wakeNodes 32 = .ok (.invokevirtual 203, 3) := by decide +kernel
theorem dX10_wakeNodes_35 : decode cX10_wakeNodes 35 = .ok (.ifCond .eq 49, 3) := by decide +kernel
theorem dX10_wakeNodes_38 : decode cX10_wakeNodes 38 = .ok (.aload_n 2, 1) := by decide +kernel
theorem dX10_wakeNodes_39 : decode cX10_wakeNodes 39 = .ok (.iconst 0, 1) := by decide +kernel
theorem dX10_wakeNodes_40 : decode cX10_wakeNodes 40 = .ok (.aload_n 2, 1) := by decide +kernel
theorem dX10_wakeNodes_41 : decode cX10_wakeNodes 41 = .ok (.getfield 101, 3) := by decide +kernel
theorem dX10_wakeNodes_44 : decode cX10_wakeNodes 44 = .ok (.aload_n 0, 1) := by decide +kernel
theorem dX10_wakeNodes_45 : decode cX10_wakeNodes 45 = .ok (.getfield 48, 3) := by decide +kernel
theorem dX10_wakeNodes_48 : decode cX10_wakeNodes 48 = .ok (.isub, 1) := by decide +kernel
theorem dX10_wakeNodes_49 : decode cX10_wakeNodes 49 = .ok (.invokestatic 228, 3) := by decide +kernel
theorem dX10_wakeNodes_52 : decode cX10_wakeNodes 52 = .ok (.putfield 101, 3) := by decide +kernel
theorem dX10_wakeNodes_55 : decode cX10_wakeNodes 55 = .ok (.aload_n 2, 1) := by decide +kernel
theorem dX10_wakeNodes_56 : decode cX10_wakeNodes 56 = .ok (.getfield 101, 3) := by decide +kernel
theorem dX10_wakeNodes_59 : decode cX10_wakeNodes 59 = .ok (.ifCond .le 25, 3) := by decide +kernel
theorem dX10_wakeNodes_62 : decode cX10_wakeNodes 62 = .ok (.aload_n 0, 1) := by decide +kernel
theorem dX10_wakeNodes_63 : decode cX10_wakeNodes 63 = .ok (.dup, 1) := by decide +kernel
theorem dX10_wakeNodes_64 : decode cX10_wakeNodes 64 = .ok (.getfield 262, 3) := by decide +kernel
theorem dX10_wakeNodes_67 : decode cX10_wakeNodes 67 = .ok (.iconst 1, 1) := by decide +kernel
theorem dX10_wakeNodes_68 : decode cX10_wakeNodes 68 = .ok (.iload_n 1, 1) := by decide +kernel
theorem dX10_wakeNodes_69 : decode cX10_wakeNodes 69 = .ok (.ishl, 1) := by decide +kernel
theorem dX10_wakeNodes_70 : decode cX10_wakeNodes 70 = .ok (.ior, 1) := by decide +kernel
theorem dX10_wakeNodes_71 : decode cX10_wakeNodes 71 = .ok (.putfield 262, 3) := by decide +kernel
theorem dX10_wakeNodes_74 : decode cX10_wakeNodes 74 = .ok (.aload_n 2, 1) := by decide +kernel
theorem dX10_wakeNodes_75 : decode cX10_wakeNodes 75 = .ok (.dup, 1) := by decide +kernel
theorem dX10_wakeNodes_76 : decode cX10_wakeNodes 76 = .ok (.getfield 107, 3) := by decide +kernel
theorem dX10_wakeNodes_79 : decode cX10_wakeNodes 79 = .ok (.iconst 1, 1) := by decide +kernel
theorem dX10_wakeNodes_80 : decode cX10_wakeNodes 80 = .ok (.iadd, 1) := by decide +kernel
theorem dX10_wakeNodes_81 : decode cX10_wakeNodes 81 = .ok (.putfield 107, 3) := by decide +kernel
theorem dX10_wakeNodes_84 : decode cX10_wakeNodes 84 = .ok (.iinc 1 1, 3) := by decide +kernel
theorem dX10_wakeNodes_87 : decode cX10_wakeNodes 87 = .ok (.goto (-80), 3) := by decide +kernel
theorem dX10_miss_0 : decode cX10_miss 0 = .ok (.aload_n 1, 1) := by decide +kernel
theorem dX10_miss_1 : decode cX10_miss 1 = .ok (.dup, 1) := by decide +kernel
theorem dX10_miss_2 : decode cX10_miss 2 = .ok (.getfield 128, 3) := by decide +kernel
theorem dX10_miss_5 : decode cX10_miss 5 = .ok (.iconst 1, 1) := by decide +kernel
theorem dX10_miss_6 : decode cX10_miss 6 = .ok (.iadd, 1) := by decide +kernel
theorem dX10_miss_7 : decode cX10_miss 7 = .ok (.putfield 128, 3) := by decide +kernel
theorem dX10_miss_10 : decode cX10_miss 10 = .ok (.aload_n 1, 1) := by decide +kernel
theorem dX10_miss_11 : decode cX10_miss 11 = .ok (.dup, 1) := by decide +kernel
theorem dX10_miss_12 : decode cX10_miss 12 = .ok (.getfield 122, 3) := by decide +kernel
theorem dX10_miss_15 : decode cX10_miss 15 = .ok (.iconst 1, 1) := by decide +kernel
theorem dX10_miss_16 : decode cX10_miss 16 = .ok (.iadd, 1) := by decide +kernel
theorem dX10_miss_17 : decode cX10_miss 17 = .ok (.putfield 122, 3) := by decide +kernel
theorem dX10_miss_20 : decode cX10_miss 20 = .ok (.aload_n 1, 1) := by decide +kernel
theorem dX10_miss_21 : decode cX10_miss 21 = .ok (.getfield 122, 3) := by decide +kernel
theorem dX10_miss_24 : decode cX10_miss 24 = .ok (.aload_n 0, 1) := by decide +kernel
theorem dX10_miss_25 : decode cX10_miss 25 = .ok (.getfield 57, 3) := by decide +kernel
theorem dX10_miss_28 : decode cX10_miss 28 = .ok (.if_icmp .lt 58, 3) := by decide +kernel
theorem dX10_miss_31 : decode cX10_miss 31 = .ok (.aload_n 1, 1) := by decide +kernel
theorem dX10_miss_32 : decode cX10_miss 32 = .ok (.getfield 116, 3) := by decide +kernel
theorem dX10_miss_35 : decode cX10_miss 35 = .ok (.aload_n 1, 1) := by decide +kernel
theorem dX10_miss_36 : decode cX10_miss 36 = .ok (.getfield 119, 3) := by decide +kernel
theorem dX10_miss_39 : decode cX10_miss 39 = .ok (.invokestatic 164, 3) := by decide +kernel
theorem dX10_miss_42 : decode cX10_miss 42 = .ok (.istore_n 2, 1) := by decide +kernel
theorem dX10_miss_43 : decode cX10_miss 43 = .ok (.aload_n 1, 1) := by decide +kernel
theorem dX10_miss_44 : decode cX10_miss 44 = .ok (.getfield 116, 3) := by decide +kernel
theorem dX10_miss_47 : decode cX10_miss 47 = .ok (.aload_n 1, 1) := by decide +kernel
theorem dX10_miss_48 : decode cX10_miss 48 = .ok (.getfield 119, 3) := by decide +kernel
theorem dX10_miss_51 : decode cX10_miss 51 = .ok (.invokestatic 228, 3) := by decide +kernel
theorem dX10_miss_54 : decode cX10_miss 54 = .ok (.istore_n 3, 1) := by decide +kernel
theorem dX10_miss_55 : decode cX10_miss 55 = .ok (.aload_n 0, 1) := by decide +kernel
theorem dX10_miss_56 : decode cX10_miss 56 = .ok (.iload_n 3, 1) := by decide +kernel
theorem dX10_miss_57 : decode cX10_miss 57 = .ok (.invokevirtual 66, 3) := by decide +kernel
theorem dX10_miss_60 : decode cX10_miss 60 = .ok (.aload_n 0, 1) := by decide +kernel
theorem dX10_miss_61 : decode cX10_miss 61 = .ok (.iload_n 2, 1) := by decide +kernel
theorem dX10_miss_62 : decode cX10_miss 62 = .ok (.invokevirtual 66, 3) := by decide +kernel
theorem dX10_miss_65 : decode cX10_miss 65 = .ok (.getfield 98, 3) := by decide +kernel
theorem dX10_miss_68 : decode cX10_miss 68 = .ok (.putfield 98, 3) := by decide +kernel
theorem dX10_miss_71 : decode cX10_miss 71 = .ok (.aload_n 1, 1) := by decide +kernel
theorem dX10_miss_72 : decode cX10_miss 72 = .ok (.iconst 0, 1) := by decide +kernel
theorem dX10_miss_73 : decode cX10_miss 73 = .ok (.putfield 122, 3) := by decide +kernel
theorem dX10_miss_76 : decode cX10_miss 76 = .ok (.aload_n 0, 1) := by decide +kernel
theorem dX10_miss_77 : decode cX10_miss 77 = .ok (.dup, 1) := by decide +kernel
theorem dX10_miss_78 : decode cX10_miss 78 = .ok (.getfield 63, 3) := by decide +kernel
theorem dX10_miss_81 : decode cX10_miss 81 = .ok (.iconst 1, 1) := by decide +kernel
theorem dX10_miss_82 : decode cX10_miss 82 = .ok (.iadd, 1) := by decide +kernel
theorem dX10_miss_83 : decode cX10_miss 83 = .ok (.putfield 63, 3) := by decide +kernel
theorem dX10_miss_86 : decode cX10_miss 86 = .ok (.return_, 1) := by decide +kernel
theorem dX10_meetOrMiss_0 : decode cX10_meetOrMiss 0 = .ok (.aload_n 0, 1) := by decide +kernel
theorem dX10_meetOrMiss_1 : decode cX10_meetOrMiss 1 = .ok (.aload_n 1, 1) := by decide +kernel
theorem dX10_meetOrMiss_2 : decode cX10_meetOrMiss 2 = .ok (.getfield 116, 3) := by decide +kernel
theorem dX10_meetOrMiss_5 : decode cX10_meetOrMiss 5 = .ok (.invokevirtual 66, 3) := by decide +kernel
theorem dX10_meetOrMiss_8 : decode cX10_meetOrMiss 8 = .ok (.astore_n 2, 1) := by decide +kernel
theorem dX10_meetOrMiss_9 : decode cX10_meetOrMiss 9 = .ok (.aload_n 0, 1) := by decide +kernel
theorem dX10_meetOrMiss_10 : decode cX10_meetOrMiss 10 = .ok (.aload_n 1, 1) := by decide +kernel
theorem dX10_meetOrMiss_11 : decode cX10_meetOrMiss 11 = .ok (.getfield 119, 3) := by decide +kernel
theorem dX10_meetOrMiss_14 : decode cX10_meetOrMiss 14 = .ok (.invokevirtual 66, 3) := by decide +kernel
theorem dX10_meetOrMiss_17 : decode cX10_meetOrMiss 17 = .ok (.astore_n 3, 1) := by decide +kernel
theorem dX10_meetOrMiss_18 : decode cX10_meetOrMiss 18 = .ok (.aload_n 2, 1) := by decide +kernel
theorem dX10_meetOrMiss_19 : decode cX10_meetOrMiss 19 = .ok (.getfield 101, 3) := by decide +kernel
theorem dX10_meetOrMiss_22 : decode cX10_meetOrMiss 22 = .ok (.ifCond .eq 10, 3) := by decide +kernel
theorem dX10_meetOrMiss_25 : decode cX10_meetOrMiss 25 = .ok (.aload_n 3, 1) := by decide +kernel
theorem dX10_meetOrMiss_26 : decode cX10_meetOrMiss 26 = .ok (.getfield 101, 3) := by decide +kernel
theorem dX10_meetOrMiss_29 : decode cX10_meetOrMiss 29 = .ok (.ifCond .ne 4, 3) := by decide +kernel
theorem dX10_meetOrMiss_33 : decode cX10_meetOrMiss 33 = .ok (.aload_n 0, 1) := by decide +kernel
theorem dX10_meetOrMiss_34 : decode cX10_meetOrMiss 34 = .ok (.getfield 262, 3) := by decide +kernel
theorem dX10_meetOrMiss_37 : decode cX10_meetOrMiss 37 = .ok (.aload_n 1, 1) := by decide +kernel
theorem dX10_meetOrMiss_38 : decode cX10_meetOrMiss 38 = .ok (.getfield 116, 3) := by decide +kernel
theorem dX10_meetOrMiss_41 : decode cX10_meetOrMiss 41 = .ok (.invokestatic 181, 3) := by decide +kernel
theorem dX10_meetOrMiss_44 : decode cX10_meetOrMiss 44 = .ok (.istore 4, 2) := by decide +kernel
theorem dX10_meetOrMiss_46 : decode cX10_meetOrMiss 46 = .ok (.aload_n 0, 1) := by decide +kernel
theorem dX10_meetOrMiss_47 : decode cX10_meetOrMiss 47 = .ok (.getfield 262, 3) := by decide +kernel
theorem dX10_meetOrMiss_50 : decode cX10_meetOrMiss 50 = .ok (.aload_n 1, 1) := by decide +kernel
theorem dX10_meetOrMiss_51 : decode cX10_meetOrMiss 51 = .ok (.getfield 119, 3) := by decide +kernel
theorem dX10_meetOrMiss_54 : decode cX10_meetOrMiss 54 = .ok (.invokestatic 181, 3) := by decide +kernel
theorem dX10_meetOrMiss_57 : decode cX10_meetOrMiss 57 = .ok (.istore 5, 2) := by decide +kernel
theorem dX10_meetOrMiss_59 : decode cX10_meetOrMiss 59 = .ok (.iload 4, 2) := by decide +kernel
theorem dX10_meetOrMiss_61 : decode cX10_meetOrMiss 61 = .ok (.ifCond .eq 26, 3) := by decide +kernel
theorem dX10_meetOrMiss_64 : decode cX10_meetOrMiss 64 = .ok (.iload 5, 2) := by decide +kernel
theorem dX10_meetOrMiss_66 : decode cX10_meetOrMiss 66 = .ok (.ifCond .eq 21, 3) := by decide +kernel
theorem dX10_meetOrMiss_69 : decode cX10_meetOrMiss 69 = .ok (.aload_n 1, 1) := by decide +kernel
theorem dX10_meetOrMiss_70 : decode cX10_meetOrMiss 70 = .ok (.dup, 1) := by decide +kernel
theorem dX10_meetOrMiss_71 : decode cX10_meetOrMiss 71 = .ok (.getfield 125, 3) := by decide +kernel
theorem dX10_meetOrMiss_74 : decode cX10_meetOrMiss 74 = .ok (.iconst 1, 1) := by decide +kernel
theorem dX10_meetOrMiss_75 : decode cX10_meetOrMiss 75 = .ok (.iadd, 1) := by decide +kernel
theorem dX10_meetOrMiss_76 : decode cX10_meetOrMiss 76 = .ok (.putfield 125, 3) := by decide +kernel
theorem dX10_meetOrMiss_79 : decode cX10_meetOrMiss 79 = .ok (.aload_n 1, 1) := by decide +kernel
theorem dX10_meetOrMiss_80 : decode cX10_meetOrMiss 80 = .ok (.iconst 0, 1) := by decide +kernel
theorem dX10_meetOrMiss_81 : decode cX10_meetOrMiss 81 = .ok (.putfield 122, 3) := by decide +kernel
theorem dX10_meetOrMiss_84 : decode cX10_meetOrMiss 84 = .ok (.goto 54, 3) := by decide +kernel
theorem dX10_meetOrMiss_32 : decode cX10_meetOrMiss 32 = .ok (.return_, 1) := by decide +kernel
theorem dX10_meetOrMiss_87 : decode cX10_meetOrMiss 87 = .ok (.iload 4, 2) := by decide +kernel
theorem dX10_meetOrMiss_89 : decode cX10_meetOrMiss 89 = .ok (.ifCond .ne 8, 3) := by decide +kernel
theorem dX10_meetOrMiss_92 : decode cX10_meetOrMiss 92 = .ok (.iload 5, 2) := by decide +kernel
theorem dX10_meetOrMiss_94 : decode cX10_meetOrMiss 94 = .ok (.ifCond .eq 44, 3) := by decide +kernel
theorem dX10_meetOrMiss_138 : decode cX10_meetOrMiss 138 = .ok (.return_, 1) := by decide +kernel
theorem dX10_meetOrMiss_97 : decode cX10_meetOrMiss 97 = .ok (.iload 4, 2) := by decide +kernel
theorem dX10_meetOrMiss_99 : decode cX10_meetOrMiss 99 = .ok (.ifCond .eq 10, 3) := by decide +kernel
theorem dX10_meetOrMiss_109 : decode cX10_meetOrMiss 109 = .ok (.aload_n 3, 1) := by decide +kernel
theorem dX10_meetOrMiss_110 : decode cX10_meetOrMiss 110 = .ok (.getfield 265, 3) := by decide +kernel
theorem dX10_meetOrMiss_102 : decode cX10_meetOrMiss 102 = .ok (.aload_n 2, 1) := by decide +kernel
theorem dX10_meetOrMiss_103 : decode cX10_meetOrMiss 103 = .ok (.getfield 265, 3) := by decide +kernel
theorem dX10_meetOrMiss_106 : decode cX10_meetOrMiss 106 = .ok (.goto 7, 3) := by decide +kernel
theorem dX10_meetOrMiss_113 : decode cX10_meetOrMiss 113 = .ok (.istore 6, 2) := by decide +kernel
theorem dX10_meetOrMiss_115 : decode cX10_meetOrMiss 115 = .ok (.iload 6, 2) := by decide +kernel
theorem dX10_meetOrMiss_117 : decode cX10_meetOrMiss 117 = .ok (.aload_n 2, 1) := by decide +kernel
theorem dX10_meetOrMiss_118 : decode cX10_meetOrMiss 118 = .ok (.getfield 95, 3) := by decide +kernel
theorem dX10_meetOrMiss_121 : decode cX10_meetOrMiss 121 = .ok (.if_icmp .eq 12, 3) := by decide +kernel
theorem dX10_meetOrMiss_124 : decode cX10_meetOrMiss 124 = .ok (.iload 6, 2) := by decide +kernel
theorem dX10_meetOrMiss_126 : decode cX10_meetOrMiss 126 = .ok (.aload_n 3, 1) := by decide +kernel
theorem dX10_meetOrMiss_127 : decode cX10_meetOrMiss 127 = .ok (.getfield 95, 3) := by decide +kernel
theorem dX10_meetOrMiss_130 : decode cX10_meetOrMiss 130 = .ok (.if_icmp .ne 8, 3) := by decide +kernel
theorem dX10_meetOrMiss_133 : decode cX10_meetOrMiss 133 = .ok (.aload_n 0, 1) := by decide +kernel
theorem dX10_meetOrMiss_134 : decode cX10_meetOrMiss 134 = .ok (.aload_n 1, 1) := by decide +kernel
theorem dX10_meetOrMiss_135 : decode cX10_meetOrMiss 135 = .ok (.invokevirtual 268, 3) := by decide +kernel
theorem dX10_notOut_0 : decode cX10_notOut 0 = .ok (.iconst 0, 1) := by decide +kernel
theorem dX10_notOut_1 : decode cX10_notOut 1 = .ok (.istore_n 1, 1) := by decide +kernel
theorem dX10_notOut_2 : decode cX10_notOut 2 = .ok (.iconst 0, 1) := by decide +kernel
theorem dX10_notOut_3 : decode cX10_notOut 3 = .ok (.istore_n 2, 1) := by decide +kernel
theorem dX10_notOut_4 : decode cX10_notOut 4 = .ok (.iload_n 2, 1) := by decide +kernel
theorem dX10_notOut_5 : decode cX10_notOut 5 = .ok (.aload_n 0, 1) := by decide +kernel
theorem dX10_notOut_6 : decode cX10_notOut 6 = .ok (.getfield 35, 3) := by decide +kernel
theorem dX10_notOut_9 : decode cX10_notOut 9 = .ok (.if_icmp .ge 26, 3) := by decide +kernel
theorem dX10_notOut_35 : decode cX10_notOut 35 = .ok (.iload_n 1, 1) := by decide +kernel
theorem dX10_notOut_36 : decode cX10_notOut 36 = .ok (.ireturn, 1) := by decide +kernel
theorem dX10_notOut_12 : decode cX10_notOut 12 = .ok (.aload_n 0, 1) := by decide +kernel
theorem dX10_notOut_13 : decode cX10_notOut 13 = .ok (.iload_n 2, 1) := by decide +kernel
theorem dX10_notOut_14 : decode cX10_notOut 14 = .ok (.invokevirtual 66, 3) := by decide +kernel
theorem dX10_notOut_17 : decode cX10_notOut 17 = .ok (.getfield 101, 3) := by decide +kernel
theorem dX10_notOut_20 : decode cX10_notOut 20 = .ok (.ifCond .le 9, 3) := by decide +kernel
theorem dX10_notOut_23 : decode cX10_notOut 23 = .ok (.iload_n 1, 1) := by decide +kernel
theorem dX10_notOut_24 : decode cX10_notOut 24 = .ok (.iconst 1, 1) := by decide +kernel
theorem dX10_notOut_25 : decode cX10_notOut 25 = .ok (.iload_n 2, 1) := by decide +kernel
theorem dX10_notOut_26 : decode cX10_notOut 26 = .ok (.ishl, 1) := by decide +kernel
theorem dX10_notOut_27 : decode cX10_notOut 27 = .ok (.ior, 1) := by decide +kernel
theorem dX10_notOut_28 : decode cX10_notOut 28 = .ok (.istore_n 1, 1) := by decide +kernel
theorem dX10_notOut_29 : decode cX10_notOut 29 = .ok (.iinc 2 1, 3) := by decide +kernel
theorem dX10_notOut_32 : decode cX10_notOut 32 = .ok (.goto (-28), 3) := by decide +kernel
