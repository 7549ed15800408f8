theorem dJ6_bitCount_0f7a4_0 : decode cJ6_bitCount_0f7a4 0 = .ok (.iload_n 0, 1) := by decide +kernel
theorem dJ6_bitCount_0f7a4_1 : decode cJ6_bitCount_0f7a4 1 = .ok (.iload_n 0, 1) := by decide +kernel
theorem dJ6_bitCount_0f7a4_2 : decode cJ6_bitCount_0f7a4 2 = .ok (.iconst 1, 1) := by decide +kernel
theorem dJ6_bitCount_0f7a4_3 : decode cJ6_bitCount_0f7a4 3 = .ok (.iushr, 1) := by decide +kernel
theorem dJ6_bitCount_0f7a4_4 : decode cJ6_bitCount_0f7a4 4 = .ok (.ldc_w 265, 3) := by decide +kernel
theorem dJ6_bitCount_0f7a4_7 : decode cJ6_bitCount_0f7a4 7 = .ok (.iand, 1) := by decide +kernel
theorem dJ6_bitCount_0f7a4_8 : decode cJ6_bitCount_0f7a4 8 = .ok (.isub, 1) := by decide +kernel
theorem dJ6_bitCount_0f7a4_9 : decode cJ6_bitCount_0f7a4 9 = .ok (.istore_n 0, 1) := by decide +kernel
theorem dJ6_bitCount_0f7a4_10 : decode cJ6_bitCount_0f7a4 10 = .ok (.iload_n 0, 1) := by decide +kernel
theorem dJ6_bitCount_0f7a4_11 : decode cJ6_bitCount_0f7a4 11 = .ok (.ldc_w 266, 3) := by decide +kernel
theorem dJ6_bitCount_0f7a4_14 : decode cJ6_bitCount_0f7a4 14 = .ok (.iand, 1) := by decide +kernel
theorem dJ6_bitCount_0f7a4_15 : decode cJ6_bitCount_0f7a4 15 = .ok (.iload_n 0, 1) := by decide +kernel
theorem dJ6_bitCount_0f7a4_16 : decode cJ6_bitCount_0f7a4 16 = .ok (.iconst 2, 1) := by decide +kernel
theorem dJ6_bitCount_0f7a4_17 : decode cJ6_bitCount_0f7a4 17 = .ok (.iushr, 1) := by decide +kernel
theorem dJ6_bitCount_0f7a4_18 : decode cJ6_bitCount_0f7a4 18 = .ok (.ldc_w 266, 3) := by decide +kernel
theorem dJ6_bitCount_0f7a4_21 : decode cJ6_bitCount_0f7a4 21 = .ok (.iand, 1) := by decide +kernel
theorem dJ6_bitCount_0f7a4_22 : decode cJ6_bitCount_0f7a4 22 = .ok (.iadd, 1) := by decide +kernel
theorem dJ6_bitCount_0f7a4_23 : decode cJ6_bitCount_0f7a4 23 = .ok (.istore_n 0, 1) := by decide +kernel
theorem dJ6_bitCount_0f7a4_24 : decode cJ6_bitCount_0f7a4 24 = .ok (.iload_n 0, 1) := by decide +kernel
theorem dJ6_bitCount_0f7a4_25 : decode cJ6_bitCount_0f7a4 25 = .ok (.iload_n 0, 1) := by decide +kernel
theorem dJ6_bitCount_0f7a4_26 : decode cJ6_bitCount_0f7a4 26 = .ok (.iconst 4, 1) := by decide +kernel
theorem dJ6_bitCount_0f7a4_27 : decode cJ6_bitCount_0f7a4 27 = .ok (.iushr, 1) := by decide +kernel
theorem dJ6_bitCount_0f7a4_28 : decode cJ6_bitCount_0f7a4 28 = .ok (.iadd, 1) := by decide +kernel
theorem dJ6_bitCount_0f7a4_29 : decode cJ6_bitCount_0f7a4 29 = .ok (.ldc_w 267, 3) := by decide +kernel
theorem dJ6_bitCount_0f7a4_32 : decode cJ6_bitCount_0f7a4 32 = .ok (.iand, 1) := by decide +kernel
theorem dJ6_bitCount_0f7a4_33 : decode cJ6_bitCount_0f7a4 33 = .ok (.istore_n 0, 1) := by decide +kernel
theorem dJ6_bitCount_0f7a4_34 : decode cJ6_bitCount_0f7a4 34 = .ok (.iload_n 0, 1) := by decide +kernel
theorem dJ6_bitCount_0f7a4_35 : decode cJ6_bitCount_0f7a4 35 = .ok (.iload_n 0, 1) := by decide +kernel
theorem dJ6_bitCount_0f7a4_36 : decode cJ6_bitCount_0f7a4 36 = .ok (.bipush 8, 2) := by decide +kernel
theorem dJ6_bitCount_0f7a4_38 : decode cJ6_bitCount_0f7a4 38 = .ok (.iushr, 1) := by decide +kernel
theorem dJ6_bitCount_0f7a4_39 : decode cJ6_bitCount_0f7a4 39 = .ok (.iadd, 1) := by decide +kernel
theorem dJ6_bitCount_0f7a4_40 : decode cJ6_bitCount_0f7a4 40 = .ok (.istore_n 0, 1) := by decide +kernel
theorem dJ6_bitCount_0f7a4_41 : decode cJ6_bitCount_0f7a4 41 = .ok (.iload_n 0, 1) := by decide +kernel
theorem dJ6_bitCount_0f7a4_42 : decode cJ6_bitCount_0f7a4 42 = .ok (.iload_n 0, 1) := by decide +kernel
theorem dJ6_bitCount_0f7a4_43 : decode cJ6_bitCount_0f7a4 43 = .ok (.bipush 16, 2) := by decide +kernel
theorem dJ6_bitCount_0f7a4_45 : decode cJ6_bitCount_0f7a4 45 = .ok (.iushr, 1) := by decide +kernel
theorem dJ6_bitCount_0f7a4_46 : decode cJ6_bitCount_0f7a4 46 = .ok (.iadd, 1) := by decide +kernel
theorem dJ6_bitCount_0f7a4_47 : decode cJ6_bitCount_0f7a4 47 = .ok (.istore_n 0, 1) := by decide +kernel
theorem dJ6_bitCount_0f7a4_48 : decode cJ6_bitCount_0f7a4 48 = .ok (.iload_n 0, 1) := by decide +kernel
theorem dJ6_bitCount_0f7a4_49 : decode cJ6_bitCount_0f7a4 49 = .ok (.bipush 63, 2) := by decide +kernel
theorem dJ6_bitCount_0f7a4_51 : decode cJ6_bitCount_0f7a4 51 = .ok (.iand, 1) := by decide +kernel
theorem dJ6_bitCount_0f7a4_52 : decode cJ6_bitCount_0f7a4 52 = .ok (.ireturn, 1) := by decide +kernel
theorem dJ13_bitCount_95d88_0 : decode cJ13_bitCount_95d88 0 = .ok (.lload_n 0, 1) := by decide +kernel
theorem dJ13_bitCount_95d88_1 : decode cJ13_bitCount_95d88 1 = .ok (.lload_n 0, 1) := by decide +kernel
theorem dJ13_bitCount_95d88_2 : decode cJ13_bitCount_95d88 2 = .ok (.iconst 1, 1) := by decide +kernel
theorem dJ13_bitCount_95d88_3 : decode cJ13_bitCount_95d88 3 = .ok (.lushr, 1) := by decide +kernel
theorem dJ13_bitCount_95d88_4 : decode cJ13_bitCount_95d88 4 = .ok (.ldc2_w 314, 3) := by decide +kernel
theorem dJ13_bitCount_95d88_7 : decode cJ13_bitCount_95d88 7 = .ok (.land, 1) := by decide +kernel
theorem dJ13_bitCount_95d88_8 : decode cJ13_bitCount_95d88 8 = .ok (.lsub, 1) := by decide +kernel
theorem dJ13_bitCount_95d88_9 : decode cJ13_bitCount_95d88 9 = .ok (.lstore_n 0, 1) := by decide +kernel
theorem dJ13_bitCount_95d88_10 : decode cJ13_bitCount_95d88 10 = .ok (.lload_n 0, 1) := by decide +kernel
theorem dJ13_bitCount_95d88_11 : decode cJ13_bitCount_95d88 11 = .ok (.ldc2_w 316, 3) := by decide +kernel
theorem dJ13_bitCount_95d88_14 : decode cJ13_bitCount_95d88 14 = .ok (.land, 1) := by decide +kernel
theorem dJ13_bitCount_95d88_15 : decode cJ13_bitCount_95d88 15 = .ok (.lload_n 0, 1) := by decide +kernel
theorem dJ13_bitCount_95d88_16 : decode cJ13_bitCount_95d88 16 = .ok (.iconst 2, 1) := by decide +kernel
theorem dJ13_bitCount_95d88_17 : decode cJ13_bitCount_95d88 17 = .ok (.lushr, 1) := by decide +kernel
theorem dJ13_bitCount_95d88_18 : decode cJ13_bitCount_95d88 18 = .ok (.ldc2_w 316, 3) := by decide +kernel
theorem dJ13_bitCount_95d88_21 : decode cJ13_bitCount_95d88 21 = .ok (.land, 1) := by decide +kernel
theorem dJ13_bitCount_95d88_22 : decode cJ13_bitCount_95d88 22 = .ok (.ladd, 1) := by decide +kernel
theorem dJ13_bitCount_95d88_23 : decode cJ13_bitCount_95d88 23 = .ok (.lstore_n 0, 1) := by decide +kernel
theorem dJ13_bitCount_95d88_24 : decode cJ13_bitCount_95d88 24 = .ok (.lload_n 0, 1) := by decide +kernel
theorem dJ13_bitCount_95d88_25 : decode cJ13_bitCount_95d88 25 = .ok (.lload_n 0, 1) := by decide +kernel
theorem dJ13_bitCount_95d88_26 : decode cJ13_bitCount_95d88 26 = .ok (.iconst 4, 1) := by decide +kernel
theorem dJ13_bitCount_95d88_27 : decode cJ13_bitCount_95d88 27 = .ok (.lushr, 1) := by decide +kernel
theorem dJ13_bitCount_95d88_28 : decode cJ13_bitCount_95d88 28 = .ok (.ladd, 1) := by decide +kernel
theorem dJ13_bitCount_95d88_29 : decode cJ13_bitCount_95d88 29 = .ok (.ldc2_w 318, 3) := by decide +kernel
theorem dJ13_bitCount_95d88_32 : decode cJ13_bitCount_95d88 32 = .ok (.land, 1) := by decide +kernel
theorem dJ13_bitCount_95d88_33 : decode cJ13_bitCount_95d88 33 = .ok (.lstore_n 0, 1) := by decide +kernel
theorem dJ13_bitCount_95d88_34 : decode cJ13_bitCount_95d88 34 = .ok (.lload_n 0, 1) := by decide +kernel
theorem dJ13_bitCount_95d88_35 : decode cJ13_bitCount_95d88 35 = .ok (.lload_n 0, 1) := by decide +kernel
theorem dJ13_bitCount_95d88_36 : decode cJ13_bitCount_95d88 36 = .ok (.bipush 8, 2) := by decide +kernel
theorem dJ13_bitCount_95d88_38 : decode cJ13_bitCount_95d88 38 = .ok (.lushr, 1) := by decide +kernel
theorem dJ13_bitCount_95d88_39 : decode cJ13_bitCount_95d88 39 = .ok (.ladd, 1) := by decide +kernel
theorem dJ13_bitCount_95d88_40 : decode cJ13_bitCount_95d88 40 = .ok (.lstore_n 0, 1) := by decide +kernel
theorem dJ13_bitCount_95d88_41 : decode cJ13_bitCount_95d88 41 = .ok (.lload_n 0, 1) := by decide +kernel
theorem dJ13_bitCount_95d88_42 : decode cJ13_bitCount_95d88 42 = .ok (.lload_n 0, 1) := by decide +kernel
theorem dJ13_bitCount_95d88_43 : decode cJ13_bitCount_95d88 43 = .ok (.bipush 16, 2) := by decide +kernel
theorem dJ13_bitCount_95d88_45 : decode cJ13_bitCount_95d88 45 = .ok (.lushr, 1) := by decide +kernel
theorem dJ13_bitCount_95d88_46 : decode cJ13_bitCount_95d88 46 = .ok (.ladd, 1) := by decide +kernel
theorem dJ13_bitCount_95d88_47 : decode cJ13_bitCount_95d88 47 = .ok (.lstore_n 0, 1) := by decide +kernel
theorem dJ13_bitCount_95d88_48 : decode cJ13_bitCount_95d88 48 = .ok (.lload_n 0, 1) := by decide +kernel
theorem dJ13_bitCount_95d88_49 : decode cJ13_bitCount_95d88 49 = .ok (.lload_n 0, 1) := by decide +kernel
theorem dJ13_bitCount_95d88_50 : decode cJ13_bitCount_95d88 50 = .ok (.bipush 32, 2) := by decide +kernel
theorem dJ13_bitCount_95d88_52 : decode cJ13_bitCount_95d88 52 = .ok (.lushr, 1) := by decide +kernel
theorem dJ13_bitCount_95d88_53 : decode cJ13_bitCount_95d88 53 = .ok (.ladd, 1) := by decide +kernel
theorem dJ13_bitCount_95d88_54 : decode cJ13_bitCount_95d88 54 = .ok (.lstore_n 0, 1) := by decide +kernel
theorem dJ13_bitCount_95d88_55 : decode cJ13_bitCount_95d88 55 = .ok (.lload_n 0, 1) := by decide +kernel
theorem dJ13_bitCount_95d88_56 : decode cJ13_bitCount_95d88 56 = .ok (.l2i, 1) := by decide +kernel
theorem dJ13_bitCount_95d88_57 : decode cJ13_bitCount_95d88 57 = .ok (.bipush 127, 2) := by decide +kernel
theorem dJ13_bitCount_95d88_59 : decode cJ13_bitCount_95d88 59 = .ok (.iand, 1) := by decide +kernel
theorem dJ13_bitCount_95d88_60 : decode cJ13_bitCount_95d88 60 = .ok (.ireturn, 1) := by decide +kernel
theorem dX3_figure_0 : decode cX3_figure 0 = .ok (.iload_n 1, 1) := by decide +kernel
theorem dX3_figure_1 : decode cX3_figure 1 = .ok (.tableswitch 51 0 3 #[31, 36, 41, 46], 31) := by decide +kernel
theorem dX3_figure_32 : decode cX3_figure 32 = .ok (.aload_n 0, 1) := by decide +kernel
theorem dX3_figure_33 : decode cX3_figure 33 = .ok (.getfield 7, 3) := by decide +kernel
theorem dX3_figure_36 : decode cX3_figure 36 = .ok (.ireturn, 1) := by decide +kernel
theorem dX3_figure_37 : decode cX3_figure 37 = .ok (.aload_n 0, 1) := by decide +kernel
theorem dX3_figure_38 : decode cX3_figure 38 = .ok (.getfield 13, 3) := by decide +kernel
theorem dX3_figure_41 : decode cX3_figure 41 = .ok (.ireturn, 1) := by decide +kernel
theorem dX3_figure_42 : decode cX3_figure 42 = .ok (.aload_n 0, 1) := by decide +kernel
theorem dX3_figure_43 : decode cX3_figure 43 = .ok (.getfield 16, 3) := by decide +kernel
theorem dX3_figure_46 : decode cX3_figure 46 = .ok (.ireturn, 1) := by decide +kernel
theorem dX3_figure_47 : decode cX3_figure 47 = .ok (.aload_n 0, 1) := by decide +kernel
theorem dX3_figure_48 : decode cX3_figure 48 = .ok (.getfield 19, 3) := by decide +kernel
theorem dX3_figure_51 : decode cX3_figure 51 = .ok (.ireturn, 1) := by decide +kernel
theorem dX3_figure_52 : decode cX3_figure 52 = .ok (.aload_n 0, 1) := by decide +kernel
theorem dX3_figure_53 : decode cX3_figure 53 = .ok (.getfield 22, 3) := by decide +kernel
theorem dX3_figure_56 : decode cX3_figure 56 = .ok (.ireturn, 1) := by decide +kernel
theorem dX4_figure_0 : decode cX4_figure 0 = .ok (.iload_n 1, 1) := by decide +kernel
theorem dX4_figure_1 : decode cX4_figure 1 = .ok (.tableswitch 86 0 6 #[43, 48, 53, 58, 63, 68, 81], 43) := by decide +kernel
theorem dX4_figure_44 : decode cX4_figure 44 = .ok (.aload_n 0, 1) := by decide +kernel
theorem dX4_figure_45 : decode cX4_figure 45 = .ok (.getfield 7, 3) := by decide +kernel
theorem dX4_figure_48 : decode cX4_figure 48 = .ok (.ireturn, 1) := by decide +kernel
theorem dX4_figure_49 : decode cX4_figure 49 = .ok (.aload_n 0, 1) := by decide +kernel
theorem dX4_figure_50 : decode cX4_figure 50 = .ok (.getfield 13, 3) := by decide +kernel
theorem dX4_figure_53 : decode cX4_figure 53 = .ok (.ireturn, 1) := by decide +kernel
theorem dX4_figure_54 : decode cX4_figure 54 = .ok (.aload_n 0, 1) := by decide +kernel
theorem dX4_figure_55 : decode cX4_figure 55 = .ok (.getfield 16, 3) := by decide +kernel
theorem dX4_figure_58 : decode cX4_figure 58 = .ok (.ireturn, 1) := by decide +kernel
theorem dX4_figure_59 : decode cX4_figure 59 = .ok (.aload_n 0, 1) := by decide +kernel
theorem dX4_figure_60 : decode cX4_figure 60 = .ok (.getfield 19, 3) := by decide +kernel
theorem dX4_figure_63 : decode cX4_figure 63 = .ok (.ireturn, 1) := by decide +kernel
theorem dX4_figure_64 : decode cX4_figure 64 = .ok (.aload_n 0, 1) := by decide +kernel
theorem dX4_figure_65 : decode cX4_figure 65 = .ok (.getfield 22, 3) := by decide +kernel
theorem dX4_figure_68 : decode cX4_figure 68 = .ok (.ireturn, 1) := by decide +kernel
theorem dX4_figure_69 : decode cX4_figure 69 = .ok (.aload_n 0, 1) := by decide +kernel
theorem dX4_figure_70 : decode cX4_figure 70 = .ok (.getfield 31, 3) := by decide +kernel
theorem dX4_figure_73 : decode cX4_figure 73 = .ok (.ifCond .eq 7, 3) := by decide +kernel
theorem dX4_figure_80 : decode cX4_figure 80 = .ok (.iconst 0, 1) := by decide +kernel
theorem dX4_figure_81 : decode cX4_figure 81 = .ok (.ireturn, 1) := by decide +kernel
theorem dX4_figure_76 : decode cX4_figure 76 = .ok (.iconst 1, 1) := by decide +kernel
theorem dX4_figure_77 : decode cX4_figure 77 = .ok (.goto 4, 3) := by decide +kernel
theorem dX4_figure_82 : decode cX4_figure 82 = .ok (.aload_n 0, 1) := by decide +kernel
theorem dX4_figure_83 : decode cX4_figure 83 = .ok (.getfield 25, 3) := by decide +kernel
theorem dX4_figure_86 : decode cX4_figure 86 = .ok (.ireturn, 1) := by decide +kernel
theorem dX4_figure_87 : decode cX4_figure 87 = .ok (.aload_n 0, 1) := by decide +kernel
theorem dX4_figure_88 : decode cX4_figure 88 = .ok (.getfield 28, 3) := by decide +kernel
theorem dX4_figure_91 : decode cX4_figure 91 = .ok (.ireturn, 1) := by decide +kernel
theorem dX10_figure_0 : decode cX10_figure 0 = .ok (.iload_n 1, 1) := by decide +kernel
theorem dX10_figure_1 : decode cX10_figure 1 = .ok (.tableswitch 101 0 8 #[51, 56, 61, 66, 71, 76, 82, 87, 93], 51) := by decide +kernel
theorem dX10_figure_52 : decode cX10_figure 52 = .ok (.aload_n 0, 1) := by decide +kernel
theorem dX10_figure_53 : decode cX10_figure 53 = .ok (.getfield 35, 3) := by decide +kernel
theorem dX10_figure_56 : decode cX10_figure 56 = .ok (.ireturn, 1) := by decide +kernel
theorem dX10_figure_57 : decode cX10_figure 57 = .ok (.aload_n 0, 1) := by decide +kernel
theorem dX10_figure_58 : decode cX10_figure 58 = .ok (.getfield 39, 3) := by decide +kernel
theorem dX10_figure_61 : decode cX10_figure 61 = .ok (.ireturn, 1) := by decide +kernel
theorem dX10_figure_62 : decode cX10_figure 62 = .ok (.aload_n 0, 1) := by decide +kernel
theorem dX10_figure_63 : decode cX10_figure 63 = .ok (.getfield 45, 3) := by decide +kernel
theorem dX10_figure_66 : decode cX10_figure 66 = .ok (.ireturn, 1) := by decide +kernel
theorem dX10_figure_67 : decode cX10_figure 67 = .ok (.aload_n 0, 1) := by decide +kernel
theorem dX10_figure_68 : decode cX10_figure 68 = .ok (.getfield 60, 3) := by decide +kernel
theorem dX10_figure_71 : decode cX10_figure 71 = .ok (.ireturn, 1) := by decide +kernel
theorem dX10_figure_72 : decode cX10_figure 72 = .ok (.aload_n 0, 1) := by decide +kernel
theorem dX10_figure_73 : decode cX10_figure 73 = .ok (.getfield 42, 3) := by decide +kernel
theorem dX10_figure_76 : decode cX10_figure 76 = .ok (.ireturn, 1) := by decide +kernel
theorem dX10_figure_77 : decode cX10_figure 77 = .ok (.aload_n 0, 1) := by decide +kernel
theorem dX10_figure_78 : decode cX10_figure 78 = .ok (.iconst 1, 1) := by decide +kernel
theorem dX10_figure_79 : decode cX10_figure 79 = .ok (.invokevirtual 188, 3) := by decide +kernel
theorem dX10_figure_82 : decode cX10_figure 82 = .ok (.ireturn, 1) := by decide +kernel
theorem dX10_figure_83 : decode cX10_figure 83 = .ok (.aload_n 0, 1) := by decide +kernel
theorem dX10_figure_84 : decode cX10_figure 84 = .ok (.invokevirtual 191, 3) := by decide +kernel
theorem dX10_figure_87 : decode cX10_figure 87 = .ok (.ireturn, 1) := by decide +kernel
theorem dX10_figure_88 : decode cX10_figure 88 = .ok (.aload_n 0, 1) := by decide +kernel
theorem dX10_figure_89 : decode cX10_figure 89 = .ok (.iconst 2, 1) := by decide +kernel
theorem dX10_figure_90 : decode cX10_figure 90 = .ok (.invokevirtual 188, 3) := by decide +kernel
theorem dX10_figure_93 : decode cX10_figure 93 = .ok (.ireturn, 1) := by decide +kernel
theorem dX10_figure_94 : decode cX10_figure 94 = .ok (.aload_n 0, 1) := by decide +kernel
theorem dX10_figure_95 : decode cX10_figure 95 = .ok (.invokevirtual 195, 3) := by decide +kernel
theorem dX10_figure_98 : decode cX10_figure 98 = .ok (.invokestatic 198, 3) := by decide +kernel
theorem dX10_figure_101 : decode cX10_figure 101 = .ok (.ireturn, 1) := by decide +kernel
theorem dX10_figure_102 : decode cX10_figure 102 = .ok (.aload_n 0, 1) := by decide +kernel
theorem dX10_figure_103 : decode cX10_figure 103 = .ok (.getfield 63, 3) := by decide +kernel
theorem dX10_figure_106 : decode cX10_figure 106 = .ok (.ireturn, 1) := by decide +kernel
theorem dX10_nodeFigure_0 : decode cX10_nodeFigure 0 = .ok (.aload_n 0, 1) := by decide +kernel
theorem dX10_nodeFigure_1 : decode cX10_nodeFigure 1 = .ok (.iload_n 1, 1) := by decide +kernel
theorem dX10_nodeFigure_2 : decode cX10_nodeFigure 2 = .ok (.invokevirtual 66, 3) := by decide +kernel
theorem dX10_nodeFigure_5 : decode cX10_nodeFigure 5 = .ok (.astore_n 3, 1) := by decide +kernel
theorem dX10_nodeFigure_6 : decode cX10_nodeFigure 6 = .ok (.iload_n 2, 1) := by decide +kernel
theorem dX10_nodeFigure_7 : decode cX10_nodeFigure 7 = .ok (.tableswitch 117 0 9 #[53, 58, 63, 68, 74, 88, 93, 98, 103, 108], 53) := by decide +kernel
theorem dX10_nodeFigure_60 : decode cX10_nodeFigure 60 = .ok (.aload_n 3, 1) := by decide +kernel
theorem dX10_nodeFigure_61 : decode cX10_nodeFigure 61 = .ok (.getfield 95, 3) := by decide +kernel
theorem dX10_nodeFigure_64 : decode cX10_nodeFigure 64 = .ok (.ireturn, 1) := by decide +kernel
theorem dX10_nodeFigure_65 : decode cX10_nodeFigure 65 = .ok (.aload_n 3, 1) := by decide +kernel
theorem dX10_nodeFigure_66 : decode cX10_nodeFigure 66 = .ok (.getfield 98, 3) := by decide +kernel
theorem dX10_nodeFigure_69 : decode cX10_nodeFigure 69 = .ok (.ireturn, 1) := by decide +kernel
theorem dX10_nodeFigure_70 : decode cX10_nodeFigure 70 = .ok (.aload_n 3, 1) := by decide +kernel
theorem dX10_nodeFigure_71 : decode cX10_nodeFigure 71 = .ok (.getfield 101, 3) := by decide +kernel
theorem dX10_nodeFigure_74 : decode cX10_nodeFigure 74 = .ok (.ireturn, 1) := by decide +kernel
theorem dX10_nodeFigure_75 : decode cX10_nodeFigure 75 = .ok (.aload_n 0, 1) := by decide +kernel
theorem dX10_nodeFigure_76 : decode cX10_nodeFigure 76 = .ok (.iload_n 1, 1) := by decide +kernel
theorem dX10_nodeFigure_77 : decode cX10_nodeFigure 77 = .ok (.invokevirtual 178, 3) := by decide +kernel
theorem dX10_nodeFigure_80 : decode cX10_nodeFigure 80 = .ok (.ireturn, 1) := by decide +kernel
theorem dX10_nodeFigure_81 : decode cX10_nodeFigure 81 = .ok (.aload_n 0, 1) := by decide +kernel
theorem dX10_nodeFigure_82 : decode cX10_nodeFigure 82 = .ok (.iload_n 1, 1) := by decide +kernel
theorem dX10_nodeFigure_83 : decode cX10_nodeFigure 83 = .ok (.invokevirtual 203, 3) := by decide +kernel
theorem dX10_nodeFigure_86 : decode cX10_nodeFigure 86 = .ok (.ifCond .eq 7, 3) := by decide +kernel
theorem dX10_nodeFigure_89 : decode cX10_nodeFigure 89 = .ok (.iconst 1, 1) := by decide +kernel
theorem dX10_nodeFigure_90 : decode cX10_nodeFigure 90 = .ok (.goto 4, 3) := by decide +kernel
theorem dX10_nodeFigure_94 : decode cX10_nodeFigure 94 = .ok (.ireturn, 1) := by decide +kernel
theorem dX10_nodeFigure_93 : decode cX10_nodeFigure 93 = .ok (.iconst 0, 1) := by decide +kernel
theorem dX10_nodeFigure_95 : decode cX10_nodeFigure 95 = .ok (.aload_n 3, 1) := by decide +kernel
theorem dX10_nodeFigure_96 : decode cX10_nodeFigure 96 = .ok (.getfield 104, 3) := by decide +kernel
theorem dX10_nodeFigure_99 : decode cX10_nodeFigure 99 = .ok (.ireturn, 1) := by decide +kernel
theorem dX10_nodeFigure_100 : decode cX10_nodeFigure 100 = .ok (.aload_n 3, 1) := by decide +kernel
theorem dX10_nodeFigure_101 : decode cX10_nodeFigure 101 = .ok (.getfield 107, 3) := by decide +kernel
theorem dX10_nodeFigure_104 : decode cX10_nodeFigure 104 = .ok (.ireturn, 1) := by decide +kernel
theorem dX10_nodeFigure_105 : decode cX10_nodeFigure 105 = .ok (.aload_n 3, 1) := by decide +kernel
theorem dX10_nodeFigure_106 : decode cX10_nodeFigure 106 = .ok (.getfield 110, 3) := by decide +kernel
theorem dX10_nodeFigure_109 : decode cX10_nodeFigure 109 = .ok (.ireturn, 1) := by decide +kernel
theorem dX10_nodeFigure_110 : decode cX10_nodeFigure 110 = .ok (.aload_n 3, 1) := by decide +kernel
theorem dX10_nodeFigure_111 : decode cX10_nodeFigure 111 = .ok (.getfield 113, 3) := by decide +kernel
theorem dX10_nodeFigure_114 : decode cX10_nodeFigure 114 = .ok (.ireturn, 1) := by decide +kernel
theorem dX10_nodeFigure_115 : decode cX10_nodeFigure 115 = .ok (.aload_n 0, 1) := by decide +kernel
theorem dX10_nodeFigure_116 : decode cX10_nodeFigure 116 = .ok (.iload_n 1, 1) := by decide +kernel
theorem dX10_nodeFigure_117 : decode cX10_nodeFigure 117 = .ok (.invokevirtual 174, 3) := by decide +kernel
theorem dX10_nodeFigure_120 : decode cX10_nodeFigure 120 = .ok (.invokestatic 206, 3) := by decide +kernel
theorem dX10_nodeFigure_123 : decode cX10_nodeFigure 123 = .ok (.ireturn, 1) := by decide +kernel
theorem dX10_nodeFigure_124 : decode cX10_nodeFigure 124 = .ok (.aload_n 0, 1) := by decide +kernel
theorem dX10_nodeFigure_125 : decode cX10_nodeFigure 125 = .ok (.iload_n 1, 1) := by decide +kernel
theorem dX10_nodeFigure_126 : decode cX10_nodeFigure 126 = .ok (.invokevirtual 211, 3) := by decide +kernel
theorem dX10_nodeFigure_129 : decode cX10_nodeFigure 129 = .ok (.ireturn, 1) := by decide +kernel
