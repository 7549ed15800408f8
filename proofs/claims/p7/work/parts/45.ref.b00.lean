theorem dX12_four_0 : decode cX12_four 0 = .ok (.bipush 24, 2) := by decide +kernel
theorem dX12_four_2 : decode cX12_four 2 = .ok (.istore_n 2, 1) := by decide +kernel
theorem dX12_four_3 : decode cX12_four 3 = .ok (.iload_n 2, 1) := by decide +kernel
theorem dX12_four_4 : decode cX12_four 4 = .ok (.ifCond .lt 35, 3) := by decide +kernel
theorem dX12_four_7 : decode cX12_four 7 = .ok (.aload_n 0, 1) := by decide +kernel
theorem dX12_four_8 : decode cX12_four 8 = .ok (.getfield 7, 3) := by decide +kernel
theorem dX12_four_11 : decode cX12_four 11 = .ok (.aload_n 0, 1) := by decide +kernel
theorem dX12_four_12 : decode cX12_four 12 = .ok (.getfield 82, 3) := by decide +kernel
theorem dX12_four_15 : decode cX12_four 15 = .ok (.iload_n 1, 1) := by decide +kernel
theorem dX12_four_16 : decode cX12_four 16 = .ok (.iload_n 2, 1) := by decide +kernel
theorem dX12_four_17 : decode cX12_four 17 = .ok (.ishr, 1) := by decide +kernel
theorem dX12_four_18 : decode cX12_four 18 = .ok (.sipush 255, 3) := by decide +kernel
theorem dX12_four_21 : decode cX12_four 21 = .ok (.iand, 1) := by decide +kernel
theorem dX12_four_22 : decode cX12_four 22 = .ok (.iastore, 1) := by decide +kernel
theorem dX12_four_23 : decode cX12_four 23 = .ok (.aload_n 0, 1) := by decide +kernel
theorem dX12_four_24 : decode cX12_four 24 = .ok (.dup, 1) := by decide +kernel
theorem dX12_four_25 : decode cX12_four 25 = .ok (.getfield 82, 3) := by decide +kernel
theorem dX12_four_28 : decode cX12_four 28 = .ok (.iconst 1, 1) := by decide +kernel
theorem dX12_four_29 : decode cX12_four 29 = .ok (.iadd, 1) := by decide +kernel
theorem dX12_four_30 : decode cX12_four 30 = .ok (.putfield 82, 3) := by decide +kernel
theorem dX12_four_33 : decode cX12_four 33 = .ok (.iinc 2 (-8), 3) := by decide +kernel
theorem dX12_four_36 : decode cX12_four 36 = .ok (.goto (-33), 3) := by decide +kernel
theorem dX12_four_39 : decode cX12_four 39 = .ok (.return_, 1) := by decide +kernel
theorem dX12_feed_0 : decode cX12_feed 0 = .ok (.aload_n 0, 1) := by decide +kernel
theorem dX12_feed_1 : decode cX12_feed 1 = .ok (.aload_n 0, 1) := by decide +kernel
theorem dX12_feed_2 : decode cX12_feed 2 = .ok (.getfield 82, 3) := by decide +kernel
theorem dX12_feed_5 : decode cX12_feed 5 = .ok (.bipush 20, 2) := by decide +kernel
theorem dX12_feed_7 : decode cX12_feed 7 = .ok (.iadd, 1) := by decide +kernel
theorem dX12_feed_8 : decode cX12_feed 8 = .ok (.sipush 600, 3) := by decide +kernel
theorem dX12_feed_11 : decode cX12_feed 11 = .ok (.if_icmp .gt 7, 3) := by decide +kernel
theorem dX12_feed_14 : decode cX12_feed 14 = .ok (.iconst 1, 1) := by decide +kernel
theorem dX12_feed_15 : decode cX12_feed 15 = .ok (.goto 4, 3) := by decide +kernel
theorem dX12_feed_19 : decode cX12_feed 19 = .ok (.invokevirtual 85, 3) := by decide +kernel
theorem dX12_feed_22 : decode cX12_feed 22 = .ok (.ifCond .ne 5, 3) := by decide +kernel
theorem dX12_feed_27 : decode cX12_feed 27 = .ok (.aload_n 0, 1) := by decide +kernel
theorem dX12_feed_28 : decode cX12_feed 28 = .ok (.iload_n 1, 1) := by decide +kernel
theorem dX12_feed_29 : decode cX12_feed 29 = .ok (.invokevirtual 89, 3) := by decide +kernel
theorem dX12_feed_32 : decode cX12_feed 32 = .ok (.aload_n 0, 1) := by decide +kernel
theorem dX12_feed_33 : decode cX12_feed 33 = .ok (.iload_n 2, 1) := by decide +kernel
theorem dX12_feed_34 : decode cX12_feed 34 = .ok (.invokevirtual 89, 3) := by decide +kernel
theorem dX12_feed_37 : decode cX12_feed 37 = .ok (.aload_n 0, 1) := by decide +kernel
theorem dX12_feed_38 : decode cX12_feed 38 = .ok (.iload_n 3, 1) := by decide +kernel
theorem dX12_feed_39 : decode cX12_feed 39 = .ok (.invokevirtual 89, 3) := by decide +kernel
theorem dX12_feed_42 : decode cX12_feed 42 = .ok (.aload_n 0, 1) := by decide +kernel
theorem dX12_feed_43 : decode cX12_feed 43 = .ok (.iload 4, 2) := by decide +kernel
theorem dX12_feed_45 : decode cX12_feed 45 = .ok (.invokevirtual 89, 3) := by decide +kernel
theorem dX12_feed_48 : decode cX12_feed 48 = .ok (.aload_n 0, 1) := by decide +kernel
theorem dX12_feed_49 : decode cX12_feed 49 = .ok (.iload 5, 2) := by decide +kernel
theorem dX12_feed_51 : decode cX12_feed 51 = .ok (.invokevirtual 89, 3) := by decide +kernel
theorem dX12_feed_54 : decode cX12_feed 54 = .ok (.aload_n 0, 1) := by decide +kernel
theorem dX12_feed_55 : decode cX12_feed 55 = .ok (.getfield 82, 3) := by decide +kernel
theorem dX12_feed_58 : decode cX12_feed 58 = .ok (.ireturn, 1) := by decide +kernel
theorem dX12_feed_18 : decode cX12_feed 18 = .ok (.iconst 0, 1) := by decide +kernel
theorem dX12_feed_25 : decode cX12_feed 25 = .ok (.iconst 0, 1) := by decide +kernel
theorem dX12_feed_26 : decode cX12_feed 26 = .ok (.ireturn, 1) := by decide +kernel
theorem dX12_truncate_0 : decode cX12_truncate 0 = .ok (.aload_n 0, 1) := by decide +kernel
theorem dX12_truncate_1 : decode cX12_truncate 1 = .ok (.iload_n 1, 1) := by decide +kernel
theorem dX12_truncate_2 : decode cX12_truncate 2 = .ok (.i2l, 1) := by decide +kernel
theorem dX12_truncate_3 : decode cX12_truncate 3 = .ok (.lconst 0, 1) := by decide +kernel
theorem dX12_truncate_4 : decode cX12_truncate 4 = .ok (.aload_n 0, 1) := by decide +kernel
theorem dX12_truncate_5 : decode cX12_truncate 5 = .ok (.getfield 82, 3) := by decide +kernel
theorem dX12_truncate_8 : decode cX12_truncate 8 = .ok (.i2l, 1) := by decide +kernel
theorem dX12_truncate_9 : decode cX12_truncate 9 = .ok (.invokestatic 93, 3) := by decide +kernel
theorem dX12_truncate_12 : decode cX12_truncate 12 = .ok (.invokevirtual 85, 3) := by decide +kernel
theorem dX12_truncate_15 : decode cX12_truncate 15 = .ok (.ifCond .ne 5, 3) := by decide +kernel
theorem dX12_truncate_18 : decode cX12_truncate 18 = .ok (.iconst 0, 1) := by decide +kernel
theorem dX12_truncate_19 : decode cX12_truncate 19 = .ok (.ireturn, 1) := by decide +kernel
theorem dX12_truncate_20 : decode cX12_truncate 20 = .ok (.aload_n 0, 1) := by decide +kernel
theorem dX12_truncate_21 : decode cX12_truncate 21 = .ok (.iload_n 1, 1) := by decide +kernel
theorem dX12_truncate_22 : decode cX12_truncate 22 = .ok (.putfield 82, 3) := by decide +kernel
theorem dX12_truncate_25 : decode cX12_truncate 25 = .ok (.iload_n 1, 1) := by decide +kernel
theorem dX12_truncate_26 : decode cX12_truncate 26 = .ok (.ireturn, 1) := by decide +kernel
theorem dX12_errorCode_0 : decode cX12_errorCode 0 = .ok (.aload_n 0, 1) := by decide +kernel
theorem dX12_errorCode_1 : decode cX12_errorCode 1 = .ok (.iconst 0, 1) := by decide +kernel
theorem dX12_errorCode_2 : decode cX12_errorCode 2 = .ok (.putfield 75, 3) := by decide +kernel
theorem dX12_errorCode_5 : decode cX12_errorCode 5 = .ok (.aload_n 0, 1) := by decide +kernel
theorem dX12_errorCode_6 : decode cX12_errorCode 6 = .ok (.getfield 151, 3) := by decide +kernel
theorem dX12_errorCode_9 : decode cX12_errorCode 9 = .ok (.ireturn, 1) := by decide +kernel
theorem dX12_errorPosition_0 : decode cX12_errorPosition 0 = .ok (.aload_n 0, 1) := by decide +kernel
theorem dX12_errorPosition_1 : decode cX12_errorPosition 1 = .ok (.iconst 0, 1) := by decide +kernel
theorem dX12_errorPosition_2 : decode cX12_errorPosition 2 = .ok (.putfield 75, 3) := by decide +kernel
theorem dX12_errorPosition_5 : decode cX12_errorPosition 5 = .ok (.aload_n 0, 1) := by decide +kernel
theorem dX12_errorPosition_6 : decode cX12_errorPosition 6 = .ok (.getfield 17, 3) := by decide +kernel
theorem dX12_errorPosition_9 : decode cX12_errorPosition 9 = .ok (.ireturn, 1) := by decide +kernel
theorem dX12_readText_0 : decode cX12_readText 0 = .ok (.aload_n 0, 1) := by decide +kernel
theorem dX12_readText_1 : decode cX12_readText 1 = .ok (.invokevirtual 244, 3) := by decide +kernel
theorem dX12_readText_4 : decode cX12_readText 4 = .ok (.aload_n 0, 1) := by decide +kernel
theorem dX12_readText_5 : decode cX12_readText 5 = .ok (.invokevirtual 247, 3) := by decide +kernel
theorem dX12_readText_8 : decode cX12_readText 8 = .ok (.aload_n 0, 1) := by decide +kernel
theorem dX12_readText_9 : decode cX12_readText 9 = .ok (.getfield 35, 3) := by decide +kernel
theorem dX12_readText_12 : decode cX12_readText 12 = .ok (.aload_n 0, 1) := by decide +kernel
theorem dX12_readText_13 : decode cX12_readText 13 = .ok (.getfield 42, 3) := by decide +kernel
theorem dX12_readText_16 : decode cX12_readText 16 = .ok (.invokestatic 164, 3) := by decide +kernel
theorem dX12_readText_19 : decode cX12_readText 19 = .ok (.aload_n 0, 1) := by decide +kernel
theorem dX12_readText_20 : decode cX12_readText 20 = .ok (.invokevirtual 72, 3) := by decide +kernel
theorem dX12_readText_23 : decode cX12_readText 23 = .ok (.aload_n 0, 1) := by decide +kernel
theorem dX12_readText_24 : decode cX12_readText 24 = .ok (.iconst 0, 1) := by decide +kernel
theorem dX12_readText_25 : decode cX12_readText 25 = .ok (.putfield 182, 3) := by decide +kernel
theorem dX12_readText_28 : decode cX12_readText 28 = .ok (.aload_n 0, 1) := by decide +kernel
theorem dX12_readText_29 : decode cX12_readText 29 = .ok (.invokevirtual 130, 3) := by decide +kernel
theorem dX12_readText_32 : decode cX12_readText 32 = .ok (.ifCond .eq 17, 3) := by decide +kernel
theorem dX12_readText_35 : decode cX12_readText 35 = .ok (.aload_n 0, 1) := by decide +kernel
theorem dX12_readText_36 : decode cX12_readText 36 = .ok (.getfield 117, 3) := by decide +kernel
theorem dX12_readText_39 : decode cX12_readText 39 = .ok (.ifCond .eq 10, 3) := by decide +kernel
theorem dX12_readText_49 : decode cX12_readText 49 = .ok (.aload_n 0, 1) := by decide +kernel
theorem dX12_readText_50 : decode cX12_readText 50 = .ok (.invokevirtual 253, 3) := by decide +kernel
theorem dX12_readText_53 : decode cX12_readText 53 = .ok (.ifCond .ne 29, 3) := by decide +kernel
theorem dX12_readText_82 : decode cX12_readText 82 = .ok (.iconst 0, 1) := by decide +kernel
theorem dX12_readText_83 : decode cX12_readText 83 = .ok (.istore_n 1, 1) := by decide +kernel
theorem dX12_readText_42 : decode cX12_readText 42 = .ok (.aload_n 0, 1) := by decide +kernel
theorem dX12_readText_43 : decode cX12_readText 43 = .ok (.invokevirtual 250, 3) := by decide +kernel
theorem dX12_readText_46 : decode cX12_readText 46 = .ok (.goto (-18), 3) := by decide +kernel
theorem dX12_readText_56 : decode cX12_readText 56 = .ok (.aload_n 0, 1) := by decide +kernel
theorem dX12_readText_57 : decode cX12_readText 57 = .ok (.getfield 26, 3) := by decide +kernel
theorem dX12_readText_60 : decode cX12_readText 60 = .ok (.iconst 0, 1) := by decide +kernel
theorem dX12_readText_61 : decode cX12_readText 61 = .ok (.aload_n 0, 1) := by decide +kernel
theorem dX12_readText_62 : decode cX12_readText 62 = .ok (.getfield 20, 3) := by decide +kernel
theorem dX12_readText_65 : decode cX12_readText 65 = .ok (.iconst 0, 1) := by decide +kernel
theorem dX12_readText_66 : decode cX12_readText 66 = .ok (.invokestatic 154, 3) := by decide +kernel
theorem dX12_readText_69 : decode cX12_readText 69 = .ok (.aload_n 0, 1) := by decide +kernel
theorem dX12_readText_70 : decode cX12_readText 70 = .ok (.getfield 42, 3) := by decide +kernel
theorem dX12_readText_73 : decode cX12_readText 73 = .ok (.aload_n 0, 1) := by decide +kernel
theorem dX12_readText_74 : decode cX12_readText 74 = .ok (.getfield 35, 3) := by decide +kernel
theorem dX12_readText_77 : decode cX12_readText 77 = .ok (.invokestatic 164, 3) := by decide +kernel
theorem dX12_readText_80 : decode cX12_readText 80 = .ok (.iconst 0, 1) := by decide +kernel
theorem dX12_readText_81 : decode cX12_readText 81 = .ok (.ireturn, 1) := by decide +kernel
theorem dX12_readText_84 : decode cX12_readText 84 = .ok (.iload_n 1, 1) := by decide +kernel
theorem dX12_readText_85 : decode cX12_readText 85 = .ok (.aload_n 0, 1) := by decide +kernel
theorem dX12_readText_86 : decode cX12_readText 86 = .ok (.getfield 20, 3) := by decide +kernel
theorem dX12_readText_89 : decode cX12_readText 89 = .ok (.iconst 0, 1) := by decide +kernel
theorem dX12_readText_90 : decode cX12_readText 90 = .ok (.iaload, 1) := by decide +kernel
theorem dX12_readText_91 : decode cX12_readText 91 = .ok (.if_icmp .ge 47, 3) := by decide +kernel
theorem dX12_readText_138 : decode cX12_readText 138 = .ok (.aload_n 0, 1) := by decide +kernel
theorem dX12_readText_139 : decode cX12_readText 139 = .ok (.iconst 0, 1) := by decide +kernel
theorem dX12_readText_140 : decode cX12_readText 140 = .ok (.putfield 158, 3) := by decide +kernel
theorem dX12_readText_143 : decode cX12_readText 143 = .ok (.aload_n 0, 1) := by decide +kernel
theorem dX12_readText_144 : decode cX12_readText 144 = .ok (.getfield 20, 3) := by decide +kernel
theorem dX12_readText_147 : decode cX12_readText 147 = .ok (.iconst 0, 1) := by decide +kernel
theorem dX12_readText_148 : decode cX12_readText 148 = .ok (.iaload, 1) := by decide +kernel
theorem dX12_readText_149 : decode cX12_readText 149 = .ok (.ireturn, 1) := by decide +kernel
theorem dX12_readText_94 : decode cX12_readText 94 = .ok (.aload_n 0, 1) := by decide +kernel
theorem dX12_readText_95 : decode cX12_readText 95 = .ok (.iload_n 1, 1) := by decide +kernel
theorem dX12_readText_96 : decode cX12_readText 96 = .ok (.iconst 0, 1) := by decide +kernel
theorem dX12_readText_97 : decode cX12_readText 97 = .ok (.aload_n 0, 1) := by decide +kernel
theorem dX12_readText_98 : decode cX12_readText 98 = .ok (.iload_n 1, 1) := by decide +kernel
theorem dX12_readText_99 : decode cX12_readText 99 = .ok (.iconst 0, 1) := by decide +kernel
theorem dX12_readText_100 : decode cX12_readText 100 = .ok (.invokevirtual 256, 3) := by decide +kernel
theorem dX12_readText_103 : decode cX12_readText 103 = .ok (.aload_n 0, 1) := by decide +kernel
theorem dX12_readText_104 : decode cX12_readText 104 = .ok (.getfield 20, 3) := by decide +kernel
theorem dX12_readText_107 : decode cX12_readText 107 = .ok (.iconst 2, 1) := by decide +kernel
theorem dX12_readText_108 : decode cX12_readText 108 = .ok (.iaload, 1) := by decide +kernel
theorem dX12_readText_109 : decode cX12_readText 109 = .ok (.irem, 1) := by decide +kernel
theorem dX12_readText_110 : decode cX12_readText 110 = .ok (.invokevirtual 202, 3) := by decide +kernel
theorem dX12_readText_113 : decode cX12_readText 113 = .ok (.aload_n 0, 1) := by decide +kernel
theorem dX12_readText_114 : decode cX12_readText 114 = .ok (.iload_n 1, 1) := by decide +kernel
theorem dX12_readText_115 : decode cX12_readText 115 = .ok (.iconst 1, 1) := by decide +kernel
theorem dX12_readText_116 : decode cX12_readText 116 = .ok (.aload_n 0, 1) := by decide +kernel
theorem dX12_readText_117 : decode cX12_readText 117 = .ok (.iload_n 1, 1) := by decide +kernel
theorem dX12_readText_118 : decode cX12_readText 118 = .ok (.iconst 1, 1) := by decide +kernel
theorem dX12_readText_119 : decode cX12_readText 119 = .ok (.invokevirtual 256, 3) := by decide +kernel
theorem dX12_readText_122 : decode cX12_readText 122 = .ok (.aload_n 0, 1) := by decide +kernel
theorem dX12_readText_123 : decode cX12_readText 123 = .ok (.getfield 20, 3) := by decide +kernel
theorem dX12_readText_126 : decode cX12_readText 126 = .ok (.iconst 2, 1) := by decide +kernel
theorem dX12_readText_127 : decode cX12_readText 127 = .ok (.iaload, 1) := by decide +kernel
theorem dX12_readText_128 : decode cX12_readText 128 = .ok (.irem, 1) := by decide +kernel
theorem dX12_readText_129 : decode cX12_readText 129 = .ok (.invokevirtual 202, 3) := by decide +kernel
theorem dX12_readText_132 : decode cX12_readText 132 = .ok (.iinc 1 1, 3) := by decide +kernel
theorem dX12_readText_135 : decode cX12_readText 135 = .ok (.goto (-51), 3) := by decide +kernel
theorem dX12_undo_0 : decode cX12_undo 0 = .ok (.aload_n 0, 1) := by decide +kernel
theorem dX12_undo_1 : decode cX12_undo 1 = .ok (.iconst 0, 1) := by decide +kernel
theorem dX12_undo_2 : decode cX12_undo 2 = .ok (.putfield 75, 3) := by decide +kernel
theorem dX12_undo_5 : decode cX12_undo 5 = .ok (.aload_n 0, 1) := by decide +kernel
theorem dX12_undo_6 : decode cX12_undo 6 = .ok (.getfield 158, 3) := by decide +kernel
theorem dX12_undo_9 : decode cX12_undo 9 = .ok (.ifCond .ne 5, 3) := by decide +kernel
theorem dX12_undo_12 : decode cX12_undo 12 = .ok (.iconst (-1), 1) := by decide +kernel
theorem dX12_undo_13 : decode cX12_undo 13 = .ok (.ireturn, 1) := by decide +kernel
theorem dX12_undo_14 : decode cX12_undo 14 = .ok (.aload_n 0, 1) := by decide +kernel
theorem dX12_undo_15 : decode cX12_undo 15 = .ok (.dup, 1) := by decide +kernel
theorem dX12_undo_16 : decode cX12_undo 16 = .ok (.getfield 158, 3) := by decide +kernel
theorem dX12_undo_19 : decode cX12_undo 19 = .ok (.iconst 1, 1) := by decide +kernel
theorem dX12_undo_20 : decode cX12_undo 20 = .ok (.isub, 1) := by decide +kernel
theorem dX12_undo_21 : decode cX12_undo 21 = .ok (.putfield 158, 3) := by decide +kernel
theorem dX12_undo_24 : decode cX12_undo 24 = .ok (.aload_n 0, 1) := by decide +kernel
theorem dX12_undo_25 : decode cX12_undo 25 = .ok (.getfield 32, 3) := by decide +kernel
theorem dX12_undo_28 : decode cX12_undo 28 = .ok (.sipush 658, 3) := by decide +kernel
theorem dX12_undo_31 : decode cX12_undo 31 = .ok (.aload_n 0, 1) := by decide +kernel
theorem dX12_undo_32 : decode cX12_undo 32 = .ok (.getfield 158, 3) := by decide +kernel
theorem dX12_undo_35 : decode cX12_undo 35 = .ok (.imul, 1) := by decide +kernel
theorem dX12_undo_36 : decode cX12_undo 36 = .ok (.aload_n 0, 1) := by decide +kernel
theorem dX12_undo_37 : decode cX12_undo 37 = .ok (.getfield 20, 3) := by decide +kernel
theorem dX12_undo_40 : decode cX12_undo 40 = .ok (.iconst 0, 1) := by decide +kernel
theorem dX12_undo_41 : decode cX12_undo 41 = .ok (.invokestatic 154, 3) := by decide +kernel
theorem dX12_undo_44 : decode cX12_undo 44 = .ok (.aload_n 0, 1) := by decide +kernel
theorem dX12_undo_45 : decode cX12_undo 45 = .ok (.getfield 158, 3) := by decide +kernel
theorem dX12_undo_48 : decode cX12_undo 48 = .ok (.ireturn, 1) := by decide +kernel
theorem dX12_save_0 : decode cX12_save 0 = .ok (.aload_n 0, 1) := by decide +kernel
theorem dX12_save_1 : decode cX12_save 1 = .ok (.iconst 0, 1) := by decide +kernel
theorem dX12_save_2 : decode cX12_save 2 = .ok (.putfield 75, 3) := by decide +kernel
theorem dX12_save_5 : decode cX12_save 5 = .ok (.aload_n 0, 1) := by decide +kernel
theorem dX12_save_6 : decode cX12_save 6 = .ok (.getfield 20, 3) := by decide +kernel
theorem dX12_save_9 : decode cX12_save 9 = .ok (.iconst 0, 1) := by decide +kernel
theorem dX12_save_10 : decode cX12_save 10 = .ok (.aload_n 0, 1) := by decide +kernel
theorem dX12_save_11 : decode cX12_save 11 = .ok (.getfield 23, 3) := by decide +kernel
theorem dX12_save_14 : decode cX12_save 14 = .ok (.iconst 0, 1) := by decide +kernel
theorem dX12_save_15 : decode cX12_save 15 = .ok (.invokestatic 154, 3) := by decide +kernel
theorem dX12_save_18 : decode cX12_save 18 = .ok (.aload_n 0, 1) := by decide +kernel
theorem dX12_save_19 : decode cX12_save 19 = .ok (.getfield 35, 3) := by decide +kernel
theorem dX12_save_22 : decode cX12_save 22 = .ok (.aload_n 0, 1) := by decide +kernel
theorem dX12_save_23 : decode cX12_save 23 = .ok (.getfield 39, 3) := by decide +kernel
theorem dX12_save_26 : decode cX12_save 26 = .ok (.invokestatic 164, 3) := by decide +kernel
theorem dX12_save_29 : decode cX12_save 29 = .ok (.aload_n 0, 1) := by decide +kernel
theorem dX12_save_30 : decode cX12_save 30 = .ok (.iconst 1, 1) := by decide +kernel
theorem dX12_save_31 : decode cX12_save 31 = .ok (.putfield 168, 3) := by decide +kernel
theorem dX12_save_34 : decode cX12_save 34 = .ok (.aload_n 0, 1) := by decide +kernel
theorem dX12_save_35 : decode cX12_save 35 = .ok (.getfield 20, 3) := by decide +kernel
theorem dX12_save_38 : decode cX12_save 38 = .ok (.iconst 3, 1) := by decide +kernel
theorem dX12_save_39 : decode cX12_save 39 = .ok (.iaload, 1) := by decide +kernel
theorem dX12_save_40 : decode cX12_save 40 = .ok (.ireturn, 1) := by decide +kernel
theorem dX12_restore_0 : decode cX12_restore 0 = .ok (.aload_n 0, 1) := by decide +kernel
theorem dX12_restore_1 : decode cX12_restore 1 = .ok (.aload_n 0, 1) := by decide +kernel
theorem dX12_restore_2 : decode cX12_restore 2 = .ok (.getfield 168, 3) := by decide +kernel
theorem dX12_restore_5 : decode cX12_restore 5 = .ok (.invokevirtual 85, 3) := by decide +kernel
theorem dX12_restore_8 : decode cX12_restore 8 = .ok (.ifCond .ne 5, 3) := by decide +kernel
theorem dX12_restore_11 : decode cX12_restore 11 = .ok (.iconst 0, 1) := by decide +kernel
theorem dX12_restore_12 : decode cX12_restore 12 = .ok (.ireturn, 1) := by decide +kernel
theorem dX12_restore_13 : decode cX12_restore 13 = .ok (.aload_n 0, 1) := by decide +kernel
theorem dX12_restore_14 : decode cX12_restore 14 = .ok (.getfield 23, 3) := by decide +kernel
theorem dX12_restore_17 : decode cX12_restore 17 = .ok (.iconst 0, 1) := by decide +kernel
theorem dX12_restore_18 : decode cX12_restore 18 = .ok (.aload_n 0, 1) := by decide +kernel
theorem dX12_restore_19 : decode cX12_restore 19 = .ok (.getfield 20, 3) := by decide +kernel
theorem dX12_restore_22 : decode cX12_restore 22 = .ok (.iconst 0, 1) := by decide +kernel
theorem dX12_restore_23 : decode cX12_restore 23 = .ok (.invokestatic 154, 3) := by decide +kernel
theorem dX12_restore_26 : decode cX12_restore 26 = .ok (.aload_n 0, 1) := by decide +kernel
theorem dX12_restore_27 : decode cX12_restore 27 = .ok (.getfield 39, 3) := by decide +kernel
theorem dX12_restore_30 : decode cX12_restore 30 = .ok (.aload_n 0, 1) := by decide +kernel
theorem dX12_restore_31 : decode cX12_restore 31 = .ok (.getfield 35, 3) := by decide +kernel
theorem dX12_restore_34 : decode cX12_restore 34 = .ok (.invokestatic 164, 3) := by decide +kernel
theorem dX12_restore_37 : decode cX12_restore 37 = .ok (.aload_n 0, 1) := by decide +kernel
theorem dX12_restore_38 : decode cX12_restore 38 = .ok (.iconst 0, 1) := by decide +kernel
theorem dX12_restore_39 : decode cX12_restore 39 = .ok (.putfield 158, 3) := by decide +kernel
theorem dX12_restore_42 : decode cX12_restore 42 = .ok (.aload_n 0, 1) := by decide +kernel
theorem dX12_restore_43 : decode cX12_restore 43 = .ok (.getfield 20, 3) := by decide +kernel
theorem dX12_restore_46 : decode cX12_restore 46 = .ok (.iconst 3, 1) := by decide +kernel
theorem dX12_restore_47 : decode cX12_restore 47 = .ok (.iaload, 1) := by decide +kernel
theorem dX12_restore_48 : decode cX12_restore 48 = .ok (.ireturn, 1) := by decide +kernel
theorem dX12_setting_0 : decode cX12_setting 0 = .ok (.aload_n 0, 1) := by decide +kernel
theorem dX12_setting_1 : decode cX12_setting 1 = .ok (.iload_n 1, 1) := by decide +kernel
theorem dX12_setting_2 : decode cX12_setting 2 = .ok (.i2l, 1) := by decide +kernel
theorem dX12_setting_3 : decode cX12_setting 3 = .ok (.lconst 0, 1) := by decide +kernel
theorem dX12_setting_4 : decode cX12_setting 4 = .ok (.ldc2_w 341, 3) := by decide +kernel
theorem dX12_setting_7 : decode cX12_setting 7 = .ok (.invokestatic 93, 3) := by decide +kernel
theorem dX12_setting_10 : decode cX12_setting 10 = .ok (.invokevirtual 85, 3) := by decide +kernel
theorem dX12_setting_13 : decode cX12_setting 13 = .ok (.ifCond .ne 5, 3) := by decide +kernel
theorem dX12_setting_18 : decode cX12_setting 18 = .ok (.iload_n 1, 1) := by decide +kernel
theorem dX12_setting_19 : decode cX12_setting 19 = .ok (.tableswitch 72 5 10 #[37, 43, 48, 54, 59, 67], 37) := by decide +kernel
theorem dX12_setting_56 : decode cX12_setting 56 = .ok (.aload_n 0, 1) := by decide +kernel
theorem dX12_setting_57 : decode cX12_setting 57 = .ok (.iconst 1, 1) := by decide +kernel
theorem dX12_setting_58 : decode cX12_setting 58 = .ok (.invokevirtual 343, 3) := by decide +kernel
theorem dX12_setting_61 : decode cX12_setting 61 = .ok (.ireturn, 1) := by decide +kernel
theorem dX12_setting_62 : decode cX12_setting 62 = .ok (.aload_n 0, 1) := by decide +kernel
theorem dX12_setting_63 : decode cX12_setting 63 = .ok (.invokevirtual 346, 3) := by decide +kernel
theorem dX12_setting_66 : decode cX12_setting 66 = .ok (.ireturn, 1) := by decide +kernel
theorem dX12_setting_67 : decode cX12_setting 67 = .ok (.aload_n 0, 1) := by decide +kernel
theorem dX12_setting_68 : decode cX12_setting 68 = .ok (.iconst 2, 1) := by decide +kernel
theorem dX12_setting_69 : decode cX12_setting 69 = .ok (.invokevirtual 343, 3) := by decide +kernel
theorem dX12_setting_72 : decode cX12_setting 72 = .ok (.ireturn, 1) := by decide +kernel
theorem dX12_setting_73 : decode cX12_setting 73 = .ok (.aload_n 0, 1) := by decide +kernel
theorem dX12_setting_74 : decode cX12_setting 74 = .ok (.invokevirtual 349, 3) := by decide +kernel
theorem dX12_setting_77 : decode cX12_setting 77 = .ok (.ireturn, 1) := by decide +kernel
theorem dX12_setting_78 : decode cX12_setting 78 = .ok (.aload_n 0, 1) := by decide +kernel
theorem dX12_setting_79 : decode cX12_setting 79 = .ok (.getfield 20, 3) := by decide +kernel
theorem dX12_setting_82 : decode cX12_setting 82 = .ok (.bipush 9, 2) := by decide +kernel
theorem dX12_setting_84 : decode cX12_setting 84 = .ok (.iaload, 1) := by decide +kernel
theorem dX12_setting_85 : decode cX12_setting 85 = .ok (.ireturn, 1) := by decide +kernel
theorem dX12_setting_86 : decode cX12_setting 86 = .ok (.aload_n 0, 1) := by decide +kernel
theorem dX12_setting_87 : decode cX12_setting 87 = .ok (.getfield 158, 3) := by decide +kernel
theorem dX12_setting_90 : decode cX12_setting 90 = .ok (.ireturn, 1) := by decide +kernel
theorem dX12_setting_91 : decode cX12_setting 91 = .ok (.aload_n 0, 1) := by decide +kernel
theorem dX12_setting_92 : decode cX12_setting 92 = .ok (.getfield 20, 3) := by decide +kernel
theorem dX12_setting_95 : decode cX12_setting 95 = .ok (.iload_n 1, 1) := by decide +kernel
theorem dX12_setting_96 : decode cX12_setting 96 = .ok (.iaload, 1) := by decide +kernel
theorem dX12_setting_97 : decode cX12_setting 97 = .ok (.ireturn, 1) := by decide +kernel
theorem dX12_setting_16 : decode cX12_setting 16 = .ok (.iconst 0, 1) := by decide +kernel
theorem dX12_setting_17 : decode cX12_setting 17 = .ok (.ireturn, 1) := by decide +kernel
theorem dX12_node_0 : decode cX12_node 0 = .ok (.aload_n 0, 1) := by decide +kernel
theorem dX12_node_1 : decode cX12_node 1 = .ok (.aload_n 0, 1) := by decide +kernel
theorem dX12_node_2 : decode cX12_node 2 = .ok (.iload_n 1, 1) := by decide +kernel
theorem dX12_node_3 : decode cX12_node 3 = .ok (.invokevirtual 355, 3) := by decide +kernel
theorem dX12_node_6 : decode cX12_node 6 = .ok (.iload_n 2, 1) := by decide +kernel
theorem dX12_node_7 : decode cX12_node 7 = .ok (.i2l, 1) := by decide +kernel
theorem dX12_node_8 : decode cX12_node 8 = .ok (.lconst 0, 1) := by decide +kernel
theorem dX12_node_9 : decode cX12_node 9 = .ok (.ldc2_w 341, 3) := by decide +kernel
theorem dX12_node_12 : decode cX12_node 12 = .ok (.invokestatic 93, 3) := by decide +kernel
theorem dX12_node_15 : decode cX12_node 15 = .ok (.invokevirtual 358, 3) := by decide +kernel
theorem dX12_node_18 : decode cX12_node 18 = .ok (.ifCond .ne 5, 3) := by decide +kernel
theorem dX12_node_23 : decode cX12_node 23 = .ok (.iload_n 2, 1) := by decide +kernel
theorem dX12_node_24 : decode cX12_node 24 = .ok (.tableswitch 102 3 10 #[48, 54, 63, 69, 76, 83, 90, 96], 48) := by decide +kernel
theorem dX12_node_72 : decode cX12_node 72 = .ok (.aload_n 0, 1) := by decide +kernel
theorem dX12_node_73 : decode cX12_node 73 = .ok (.iload_n 1, 1) := by decide +kernel
theorem dX12_node_74 : decode cX12_node 74 = .ok (.invokevirtual 289, 3) := by decide +kernel
theorem dX12_node_77 : decode cX12_node 77 = .ok (.ireturn, 1) := by decide +kernel
theorem dX12_node_78 : decode cX12_node 78 = .ok (.aload_n 0, 1) := by decide +kernel
theorem dX12_node_79 : decode cX12_node 79 = .ok (.iload_n 1, 1) := by decide +kernel
theorem dX12_node_80 : decode cX12_node 80 = .ok (.invokevirtual 362, 3) := by decide +kernel
theorem dX12_node_83 : decode cX12_node 83 = .ok (.invokestatic 78, 3) := by decide +kernel
theorem dX12_node_86 : decode cX12_node 86 = .ok (.ireturn, 1) := by decide +kernel
theorem dX12_node_87 : decode cX12_node 87 = .ok (.aload_n 0, 1) := by decide +kernel
theorem dX12_node_88 : decode cX12_node 88 = .ok (.iload_n 1, 1) := by decide +kernel
theorem dX12_node_89 : decode cX12_node 89 = .ok (.invokevirtual 265, 3) := by decide +kernel
theorem dX12_node_92 : decode cX12_node 92 = .ok (.ireturn, 1) := by decide +kernel
theorem dX12_node_93 : decode cX12_node 93 = .ok (.aload_n 0, 1) := by decide +kernel
theorem dX12_node_94 : decode cX12_node 94 = .ok (.iload_n 1, 1) := by decide +kernel
theorem dX12_node_95 : decode cX12_node 95 = .ok (.iconst 3, 1) := by decide +kernel
theorem dX12_node_96 : decode cX12_node 96 = .ok (.invokevirtual 256, 3) := by decide +kernel
theorem dX12_node_99 : decode cX12_node 99 = .ok (.ireturn, 1) := by decide +kernel
theorem dX12_node_100 : decode cX12_node 100 = .ok (.aload_n 0, 1) := by decide +kernel
theorem dX12_node_101 : decode cX12_node 101 = .ok (.iload_n 1, 1) := by decide +kernel
theorem dX12_node_102 : decode cX12_node 102 = .ok (.iconst 4, 1) := by decide +kernel
theorem dX12_node_103 : decode cX12_node 103 = .ok (.invokevirtual 256, 3) := by decide +kernel
theorem dX12_node_106 : decode cX12_node 106 = .ok (.ireturn, 1) := by decide +kernel
theorem dX12_node_107 : decode cX12_node 107 = .ok (.aload_n 0, 1) := by decide +kernel
theorem dX12_node_108 : decode cX12_node 108 = .ok (.iload_n 1, 1) := by decide +kernel
theorem dX12_node_109 : decode cX12_node 109 = .ok (.iconst 5, 1) := by decide +kernel
theorem dX12_node_110 : decode cX12_node 110 = .ok (.invokevirtual 256, 3) := by decide +kernel
theorem dX12_node_113 : decode cX12_node 113 = .ok (.ireturn, 1) := by decide +kernel
theorem dX12_node_114 : decode cX12_node 114 = .ok (.aload_n 0, 1) := by decide +kernel
theorem dX12_node_115 : decode cX12_node 115 = .ok (.iload_n 1, 1) := by decide +kernel
theorem dX12_node_116 : decode cX12_node 116 = .ok (.invokevirtual 365, 3) := by decide +kernel
theorem dX12_node_119 : decode cX12_node 119 = .ok (.ireturn, 1) := by decide +kernel
theorem dX12_node_120 : decode cX12_node 120 = .ok (.aload_n 0, 1) := by decide +kernel
theorem dX12_node_121 : decode cX12_node 121 = .ok (.iload_n 1, 1) := by decide +kernel
theorem dX12_node_122 : decode cX12_node 122 = .ok (.invokevirtual 368, 3) := by decide +kernel
theorem dX12_node_125 : decode cX12_node 125 = .ok (.ireturn, 1) := by decide +kernel
theorem dX12_node_126 : decode cX12_node 126 = .ok (.aload_n 0, 1) := by decide +kernel
theorem dX12_node_127 : decode cX12_node 127 = .ok (.iload_n 1, 1) := by decide +kernel
theorem dX12_node_128 : decode cX12_node 128 = .ok (.iload_n 2, 1) := by decide +kernel
theorem dX12_node_129 : decode cX12_node 129 = .ok (.invokevirtual 256, 3) := by decide +kernel
theorem dX12_node_132 : decode cX12_node 132 = .ok (.ireturn, 1) := by decide +kernel
theorem dX12_node_21 : decode cX12_node 21 = .ok (.iconst 0, 1) := by decide +kernel
theorem dX12_node_22 : decode cX12_node 22 = .ok (.ireturn, 1) := by decide +kernel
theorem dX12_link_0 : decode cX12_link 0 = .ok (.aload_n 0, 1) := by decide +kernel
theorem dX12_link_1 : decode cX12_link 1 = .ok (.iload_n 1, 1) := by decide +kernel
theorem dX12_link_2 : decode cX12_link 2 = .ok (.i2l, 1) := by decide +kernel
theorem dX12_link_3 : decode cX12_link 3 = .ok (.lconst 0, 1) := by decide +kernel
theorem dX12_link_4 : decode cX12_link 4 = .ok (.aload_n 0, 1) := by decide +kernel
theorem dX12_link_5 : decode cX12_link 5 = .ok (.getfield 20, 3) := by decide +kernel
theorem dX12_link_8 : decode cX12_link 8 = .ok (.iconst 1, 1) := by decide +kernel
theorem dX12_link_9 : decode cX12_link 9 = .ok (.iaload, 1) := by decide +kernel
theorem dX12_link_10 : decode cX12_link 10 = .ok (.iconst 1, 1) := by decide +kernel
theorem dX12_link_11 : decode cX12_link 11 = .ok (.isub, 1) := by decide +kernel
theorem dX12_link_12 : decode cX12_link 12 = .ok (.i2l, 1) := by decide +kernel
theorem dX12_link_13 : decode cX12_link 13 = .ok (.invokestatic 93, 3) := by decide +kernel
theorem dX12_link_16 : decode cX12_link 16 = .ok (.iload_n 2, 1) := by decide +kernel
theorem dX12_link_17 : decode cX12_link 17 = .ok (.i2l, 1) := by decide +kernel
theorem dX12_link_18 : decode cX12_link 18 = .ok (.lconst 0, 1) := by decide +kernel
theorem dX12_link_19 : decode cX12_link 19 = .ok (.ldc2_w 371, 3) := by decide +kernel
theorem dX12_link_22 : decode cX12_link 22 = .ok (.invokestatic 93, 3) := by decide +kernel
theorem dX12_link_25 : decode cX12_link 25 = .ok (.invokevirtual 358, 3) := by decide +kernel
theorem dX12_link_28 : decode cX12_link 28 = .ok (.ifCond .eq 12, 3) := by decide +kernel
theorem dX12_link_31 : decode cX12_link 31 = .ok (.aload_n 0, 1) := by decide +kernel
theorem dX12_link_32 : decode cX12_link 32 = .ok (.iload_n 1, 1) := by decide +kernel
theorem dX12_link_33 : decode cX12_link 33 = .ok (.iload_n 2, 1) := by decide +kernel
theorem dX12_link_34 : decode cX12_link 34 = .ok (.invokevirtual 210, 3) := by decide +kernel
theorem dX12_link_37 : decode cX12_link 37 = .ok (.goto 4, 3) := by decide +kernel
theorem dX12_link_41 : decode cX12_link 41 = .ok (.ireturn, 1) := by decide +kernel
theorem dX12_link_40 : decode cX12_link 40 = .ok (.iconst 0, 1) := by decide +kernel
theorem dX12_message_0 : decode cX12_message 0 = .ok (.aload_n 0, 1) := by decide +kernel
theorem dX12_message_1 : decode cX12_message 1 = .ok (.aload_n 0, 1) := by decide +kernel
theorem dX12_message_2 : decode cX12_message 2 = .ok (.iload_n 1, 1) := by decide +kernel
theorem dX12_message_3 : decode cX12_message 3 = .ok (.invokevirtual 373, 3) := by decide +kernel
theorem dX12_message_6 : decode cX12_message 6 = .ok (.iload_n 2, 1) := by decide +kernel
theorem dX12_message_7 : decode cX12_message 7 = .ok (.i2l, 1) := by decide +kernel
theorem dX12_message_8 : decode cX12_message 8 = .ok (.lconst 0, 1) := by decide +kernel
theorem dX12_message_9 : decode cX12_message 9 = .ok (.ldc2_w 376, 3) := by decide +kernel
theorem dX12_message_12 : decode cX12_message 12 = .ok (.invokestatic 93, 3) := by decide +kernel
theorem dX12_message_15 : decode cX12_message 15 = .ok (.invokevirtual 358, 3) := by decide +kernel
theorem dX12_message_18 : decode cX12_message 18 = .ok (.ifCond .eq 12, 3) := by decide +kernel
theorem dX12_message_21 : decode cX12_message 21 = .ok (.aload_n 0, 1) := by decide +kernel
theorem dX12_message_22 : decode cX12_message 22 = .ok (.iload_n 1, 1) := by decide +kernel
theorem dX12_message_23 : decode cX12_message 23 = .ok (.iload_n 2, 1) := by decide +kernel
theorem dX12_message_24 : decode cX12_message 24 = .ok (.invokevirtual 308, 3) := by decide +kernel
theorem dX12_message_27 : decode cX12_message 27 = .ok (.goto 4, 3) := by decide +kernel
theorem dX12_message_31 : decode cX12_message 31 = .ok (.ireturn, 1) := by decide +kernel
theorem dX12_message_30 : decode cX12_message 30 = .ok (.iconst 0, 1) := by decide +kernel
theorem dX12_letter_0 : decode cX12_letter 0 = .ok (.aload_n 0, 1) := by decide +kernel
theorem dX12_letter_1 : decode cX12_letter 1 = .ok (.aload_n 0, 1) := by decide +kernel
theorem dX12_letter_2 : decode cX12_letter 2 = .ok (.iload_n 1, 1) := by decide +kernel
theorem dX12_letter_3 : decode cX12_letter 3 = .ok (.invokevirtual 355, 3) := by decide +kernel
theorem dX12_letter_6 : decode cX12_letter 6 = .ok (.invokevirtual 85, 3) := by decide +kernel
theorem dX12_letter_9 : decode cX12_letter 9 = .ok (.ifCond .eq 16, 3) := by decide +kernel
theorem dX12_letter_12 : decode cX12_letter 12 = .ok (.aload_n 0, 1) := by decide +kernel
theorem dX12_letter_13 : decode cX12_letter 13 = .ok (.getfield 35, 3) := by decide +kernel
theorem dX12_letter_16 : decode cX12_letter 16 = .ok (.iload_n 1, 1) := by decide +kernel
theorem dX12_letter_17 : decode cX12_letter 17 = .ok (.laload, 1) := by decide +kernel
theorem dX12_letter_18 : decode cX12_letter 18 = .ok (.iload_n 2, 1) := by decide +kernel
theorem dX12_letter_19 : decode cX12_letter 19 = .ok (.invokestatic 384, 3) := by decide +kernel
theorem dX12_letter_22 : decode cX12_letter 22 = .ok (.goto 4, 3) := by decide +kernel
theorem dX12_letter_26 : decode cX12_letter 26 = .ok (.ireturn, 1) := by decide +kernel
theorem dX12_letter_25 : decode cX12_letter 25 = .ok (.iconst 0, 1) := by decide +kernel
theorem dX12_inTable_0 : decode cX12_inTable 0 = .ok (.aload_n 0, 1) := by decide +kernel
theorem dX12_inTable_1 : decode cX12_inTable 1 = .ok (.aload_n 0, 1) := by decide +kernel
theorem dX12_inTable_2 : decode cX12_inTable 2 = .ok (.iload_n 1, 1) := by decide +kernel
theorem dX12_inTable_3 : decode cX12_inTable 3 = .ok (.invokevirtual 355, 3) := by decide +kernel
theorem dX12_inTable_6 : decode cX12_inTable 6 = .ok (.aload_n 0, 1) := by decide +kernel
theorem dX12_inTable_7 : decode cX12_inTable 7 = .ok (.iload_n 2, 1) := by decide +kernel
theorem dX12_inTable_8 : decode cX12_inTable 8 = .ok (.invokevirtual 388, 3) := by decide +kernel
theorem dX12_inTable_11 : decode cX12_inTable 11 = .ok (.invokevirtual 358, 3) := by decide +kernel
theorem dX12_inTable_14 : decode cX12_inTable 14 = .ok (.ifCond .eq 16, 3) := by decide +kernel
theorem dX12_inTable_17 : decode cX12_inTable 17 = .ok (.aload_n 0, 1) := by decide +kernel
theorem dX12_inTable_18 : decode cX12_inTable 18 = .ok (.iload_n 1, 1) := by decide +kernel
theorem dX12_inTable_19 : decode cX12_inTable 19 = .ok (.iload_n 2, 1) := by decide +kernel
theorem dX12_inTable_20 : decode cX12_inTable 20 = .ok (.invokevirtual 268, 3) := by decide +kernel
theorem dX12_inTable_23 : decode cX12_inTable 23 = .ok (.ifCond .eq 7, 3) := by decide +kernel
theorem dX12_inTable_30 : decode cX12_inTable 30 = .ok (.iconst 0, 1) := by decide +kernel
theorem dX12_inTable_31 : decode cX12_inTable 31 = .ok (.ireturn, 1) := by decide +kernel
theorem dX12_inTable_26 : decode cX12_inTable 26 = .ok (.iconst 1, 1) := by decide +kernel
theorem dX12_inTable_27 : decode cX12_inTable 27 = .ok (.goto 4, 3) := by decide +kernel
theorem dX12_duty_0 : decode cX12_duty 0 = .ok (.aload_n 0, 1) := by decide +kernel
theorem dX12_duty_1 : decode cX12_duty 1 = .ok (.aload_n 0, 1) := by decide +kernel
theorem dX12_duty_2 : decode cX12_duty 2 = .ok (.iload_n 1, 1) := by decide +kernel
theorem dX12_duty_3 : decode cX12_duty 3 = .ok (.invokevirtual 355, 3) := by decide +kernel
theorem dX12_duty_6 : decode cX12_duty 6 = .ok (.invokevirtual 85, 3) := by decide +kernel
theorem dX12_duty_9 : decode cX12_duty 9 = .ok (.ifCond .eq 20, 3) := by decide +kernel
theorem dX12_duty_12 : decode cX12_duty 12 = .ok (.aload_n 0, 1) := by decide +kernel
theorem dX12_duty_13 : decode cX12_duty 13 = .ok (.iload_n 1, 1) := by decide +kernel
theorem dX12_duty_14 : decode cX12_duty 14 = .ok (.invokevirtual 365, 3) := by decide +kernel
theorem dX12_duty_17 : decode cX12_duty 17 = .ok (.i2f, 1) := by decide +kernel
theorem dX12_duty_18 : decode cX12_duty 18 = .ok (.aload_n 0, 1) := by decide +kernel
theorem dX12_duty_19 : decode cX12_duty 19 = .ok (.getfield 20, 3) := by decide +kernel
theorem dX12_duty_22 : decode cX12_duty 22 = .ok (.iconst 2, 1) := by decide +kernel
theorem dX12_duty_23 : decode cX12_duty 23 = .ok (.iaload, 1) := by decide +kernel
theorem dX12_duty_24 : decode cX12_duty 24 = .ok (.i2f, 1) := by decide +kernel
theorem dX12_duty_25 : decode cX12_duty 25 = .ok (.fdiv, 1) := by decide +kernel
theorem dX12_duty_26 : decode cX12_duty 26 = .ok (.goto 4, 3) := by decide +kernel
theorem dX12_duty_30 : decode cX12_duty 30 = .ok (.freturn, 1) := by decide +kernel
theorem dX12_duty_29 : decode cX12_duty 29 = .ok (.fconst 0, 1) := by decide +kernel
theorem dX12_meanEnergy_0 : decode cX12_meanEnergy 0 = .ok (.aload_n 0, 1) := by decide +kernel
theorem dX12_meanEnergy_1 : decode cX12_meanEnergy 1 = .ok (.iconst 0, 1) := by decide +kernel
theorem dX12_meanEnergy_2 : decode cX12_meanEnergy 2 = .ok (.putfield 75, 3) := by decide +kernel
theorem dX12_meanEnergy_5 : decode cX12_meanEnergy 5 = .ok (.iconst 0, 1) := by decide +kernel
theorem dX12_meanEnergy_6 : decode cX12_meanEnergy 6 = .ok (.istore_n 1, 1) := by decide +kernel
theorem dX12_meanEnergy_7 : decode cX12_meanEnergy 7 = .ok (.iconst 0, 1) := by decide +kernel
theorem dX12_meanEnergy_8 : decode cX12_meanEnergy 8 = .ok (.istore_n 2, 1) := by decide +kernel
theorem dX12_meanEnergy_9 : decode cX12_meanEnergy 9 = .ok (.iload_n 2, 1) := by decide +kernel
theorem dX12_meanEnergy_10 : decode cX12_meanEnergy 10 = .ok (.aload_n 0, 1) := by decide +kernel
theorem dX12_meanEnergy_11 : decode cX12_meanEnergy 11 = .ok (.getfield 20, 3) := by decide +kernel
theorem dX12_meanEnergy_14 : decode cX12_meanEnergy 14 = .ok (.iconst 0, 1) := by decide +kernel
theorem dX12_meanEnergy_15 : decode cX12_meanEnergy 15 = .ok (.iaload, 1) := by decide +kernel
theorem dX12_meanEnergy_16 : decode cX12_meanEnergy 16 = .ok (.if_icmp .ge 18, 3) := by decide +kernel
theorem dX12_meanEnergy_34 : decode cX12_meanEnergy 34 = .ok (.aload_n 0, 1) := by decide +kernel
theorem dX12_meanEnergy_35 : decode cX12_meanEnergy 35 = .ok (.getfield 20, 3) := by decide +kernel
theorem dX12_meanEnergy_38 : decode cX12_meanEnergy 38 = .ok (.iconst 0, 1) := by decide +kernel
theorem dX12_meanEnergy_39 : decode cX12_meanEnergy 39 = .ok (.iaload, 1) := by decide +kernel
theorem dX12_meanEnergy_40 : decode cX12_meanEnergy 40 = .ok (.ifCond .ne 7, 3) := by decide +kernel
theorem dX12_meanEnergy_43 : decode cX12_meanEnergy 43 = .ok (.dconst 0, 1) := by decide +kernel
theorem dX12_meanEnergy_44 : decode cX12_meanEnergy 44 = .ok (.goto 13, 3) := by decide +kernel
theorem dX12_meanEnergy_57 : decode cX12_meanEnergy 57 = .ok (.dreturn, 1) := by decide +kernel
theorem dX12_meanEnergy_19 : decode cX12_meanEnergy 19 = .ok (.iload_n 1, 1) := by decide +kernel
theorem dX12_meanEnergy_20 : decode cX12_meanEnergy 20 = .ok (.aload_n 0, 1) := by decide +kernel
theorem dX12_meanEnergy_21 : decode cX12_meanEnergy 21 = .ok (.iload_n 2, 1) := by decide +kernel
theorem dX12_meanEnergy_22 : decode cX12_meanEnergy 22 = .ok (.iconst 2, 1) := by decide +kernel
theorem dX12_meanEnergy_23 : decode cX12_meanEnergy 23 = .ok (.invokevirtual 256, 3) := by decide +kernel
theorem dX12_meanEnergy_26 : decode cX12_meanEnergy 26 = .ok (.iadd, 1) := by decide +kernel
theorem dX12_meanEnergy_27 : decode cX12_meanEnergy 27 = .ok (.istore_n 1, 1) := by decide +kernel
theorem dX12_meanEnergy_28 : decode cX12_meanEnergy 28 = .ok (.iinc 2 1, 3) := by decide +kernel
theorem dX12_meanEnergy_31 : decode cX12_meanEnergy 31 = .ok (.goto (-22), 3) := by decide +kernel
theorem dX12_meanEnergy_47 : decode cX12_meanEnergy 47 = .ok (.iload_n 1, 1) := by decide +kernel
theorem dX12_meanEnergy_48 : decode cX12_meanEnergy 48 = .ok (.i2d, 1) := by decide +kernel
theorem dX12_meanEnergy_49 : decode cX12_meanEnergy 49 = .ok (.aload_n 0, 1) := by decide +kernel
theorem dX12_meanEnergy_50 : decode cX12_meanEnergy 50 = .ok (.getfield 20, 3) := by decide +kernel
theorem dX12_meanEnergy_53 : decode cX12_meanEnergy 53 = .ok (.iconst 0, 1) := by decide +kernel
theorem dX12_meanEnergy_54 : decode cX12_meanEnergy 54 = .ok (.iaload, 1) := by decide +kernel
theorem dX12_meanEnergy_55 : decode cX12_meanEnergy 55 = .ok (.i2d, 1) := by decide +kernel
theorem dX12_meanEnergy_56 : decode cX12_meanEnergy 56 = .ok (.ddiv, 1) := by decide +kernel
theorem dX12_awakeIn_0 : decode cX12_awakeIn 0 = .ok (.aload_n 0, 1) := by decide +kernel
theorem dX12_awakeIn_1 : decode cX12_awakeIn 1 = .ok (.iload_n 1, 1) := by decide +kernel
theorem dX12_awakeIn_2 : decode cX12_awakeIn 2 = .ok (.i2l, 1) := by decide +kernel
theorem dX12_awakeIn_3 : decode cX12_awakeIn 3 = .ok (.lconst 0, 1) := by decide +kernel
theorem dX12_awakeIn_4 : decode cX12_awakeIn 4 = .ok (.ldc2_w 391, 3) := by decide +kernel
theorem dX12_awakeIn_7 : decode cX12_awakeIn 7 = .ok (.invokestatic 93, 3) := by decide +kernel
theorem dX12_awakeIn_10 : decode cX12_awakeIn 10 = .ok (.invokevirtual 85, 3) := by decide +kernel
theorem dX12_awakeIn_13 : decode cX12_awakeIn 13 = .ok (.ifCond .eq 11, 3) := by decide +kernel
theorem dX12_awakeIn_16 : decode cX12_awakeIn 16 = .ok (.aload_n 0, 1) := by decide +kernel
theorem dX12_awakeIn_17 : decode cX12_awakeIn 17 = .ok (.iload_n 1, 1) := by decide +kernel
theorem dX12_awakeIn_18 : decode cX12_awakeIn 18 = .ok (.invokevirtual 286, 3) := by decide +kernel
theorem dX12_awakeIn_21 : decode cX12_awakeIn 21 = .ok (.goto 4, 3) := by decide +kernel
theorem dX12_awakeIn_25 : decode cX12_awakeIn 25 = .ok (.ireturn, 1) := by decide +kernel
theorem dX12_awakeIn_24 : decode cX12_awakeIn 24 = .ok (.iconst 0, 1) := by decide +kernel
theorem dX12_meetsIn_0 : decode cX12_meetsIn 0 = .ok (.aload_n 0, 1) := by decide +kernel
theorem dX12_meetsIn_1 : decode cX12_meetsIn 1 = .ok (.aload_n 0, 1) := by decide +kernel
theorem dX12_meetsIn_2 : decode cX12_meetsIn 2 = .ok (.iload_n 1, 1) := by decide +kernel
theorem dX12_meetsIn_3 : decode cX12_meetsIn 3 = .ok (.invokevirtual 355, 3) := by decide +kernel
theorem dX12_meetsIn_6 : decode cX12_meetsIn 6 = .ok (.ifCond .eq 15, 3) := by decide +kernel
theorem dX12_meetsIn_9 : decode cX12_meetsIn 9 = .ok (.aload_n 0, 1) := by decide +kernel
theorem dX12_meetsIn_10 : decode cX12_meetsIn 10 = .ok (.iload_n 2, 1) := by decide +kernel
theorem dX12_meetsIn_11 : decode cX12_meetsIn 11 = .ok (.invokevirtual 355, 3) := by decide +kernel
theorem dX12_meetsIn_14 : decode cX12_meetsIn 14 = .ok (.ifCond .eq 7, 3) := by decide +kernel
theorem dX12_meetsIn_17 : decode cX12_meetsIn 17 = .ok (.iconst 1, 1) := by decide +kernel
theorem dX12_meetsIn_18 : decode cX12_meetsIn 18 = .ok (.goto 4, 3) := by decide +kernel
theorem dX12_meetsIn_22 : decode cX12_meetsIn 22 = .ok (.invokevirtual 85, 3) := by decide +kernel
theorem dX12_meetsIn_25 : decode cX12_meetsIn 25 = .ok (.ifCond .eq 12, 3) := by decide +kernel
theorem dX12_meetsIn_28 : decode cX12_meetsIn 28 = .ok (.aload_n 0, 1) := by decide +kernel
theorem dX12_meetsIn_29 : decode cX12_meetsIn 29 = .ok (.iload_n 1, 1) := by decide +kernel
theorem dX12_meetsIn_30 : decode cX12_meetsIn 30 = .ok (.iload_n 2, 1) := by decide +kernel
theorem dX12_meetsIn_31 : decode cX12_meetsIn 31 = .ok (.invokevirtual 393, 3) := by decide +kernel
theorem dX12_meetsIn_34 : decode cX12_meetsIn 34 = .ok (.goto 4, 3) := by decide +kernel
theorem dX12_meetsIn_38 : decode cX12_meetsIn 38 = .ok (.ireturn, 1) := by decide +kernel
theorem dX12_meetsIn_21 : decode cX12_meetsIn 21 = .ok (.iconst 0, 1) := by decide +kernel
theorem dX12_meetsIn_37 : decode cX12_meetsIn 37 = .ok (.iconst 0, 1) := by decide +kernel
theorem dX12_worstLink_0 : decode cX12_worstLink 0 = .ok (.aload_n 0, 1) := by decide +kernel
theorem dX12_worstLink_1 : decode cX12_worstLink 1 = .ok (.iconst 0, 1) := by decide +kernel
theorem dX12_worstLink_2 : decode cX12_worstLink 2 = .ok (.putfield 75, 3) := by decide +kernel
theorem dX12_worstLink_5 : decode cX12_worstLink 5 = .ok (.iconst (-1), 1) := by decide +kernel
theorem dX12_worstLink_6 : decode cX12_worstLink 6 = .ok (.istore_n 1, 1) := by decide +kernel
theorem dX12_worstLink_7 : decode cX12_worstLink 7 = .ok (.iconst (-1), 1) := by decide +kernel
theorem dX12_worstLink_8 : decode cX12_worstLink 8 = .ok (.istore_n 2, 1) := by decide +kernel
theorem dX12_worstLink_9 : decode cX12_worstLink 9 = .ok (.iconst 0, 1) := by decide +kernel
theorem dX12_worstLink_10 : decode cX12_worstLink 10 = .ok (.istore_n 3, 1) := by decide +kernel
theorem dX12_worstLink_11 : decode cX12_worstLink 11 = .ok (.iload_n 3, 1) := by decide +kernel
theorem dX12_worstLink_12 : decode cX12_worstLink 12 = .ok (.aload_n 0, 1) := by decide +kernel
theorem dX12_worstLink_13 : decode cX12_worstLink 13 = .ok (.getfield 20, 3) := by decide +kernel
theorem dX12_worstLink_16 : decode cX12_worstLink 16 = .ok (.iconst 1, 1) := by decide +kernel
theorem dX12_worstLink_17 : decode cX12_worstLink 17 = .ok (.iaload, 1) := by decide +kernel
theorem dX12_worstLink_18 : decode cX12_worstLink 18 = .ok (.if_icmp .ge 41, 3) := by decide +kernel
theorem dX12_worstLink_59 : decode cX12_worstLink 59 = .ok (.iload_n 1, 1) := by decide +kernel
theorem dX12_worstLink_60 : decode cX12_worstLink 60 = .ok (.ireturn, 1) := by decide +kernel
theorem dX12_worstLink_21 : decode cX12_worstLink 21 = .ok (.aload_n 0, 1) := by decide +kernel
theorem dX12_worstLink_22 : decode cX12_worstLink 22 = .ok (.aload_n 0, 1) := by decide +kernel
theorem dX12_worstLink_23 : decode cX12_worstLink 23 = .ok (.iload_n 3, 1) := by decide +kernel
theorem dX12_worstLink_24 : decode cX12_worstLink 24 = .ok (.iconst 0, 1) := by decide +kernel
theorem dX12_worstLink_25 : decode cX12_worstLink 25 = .ok (.invokevirtual 210, 3) := by decide +kernel
theorem dX12_worstLink_28 : decode cX12_worstLink 28 = .ok (.aload_n 0, 1) := by decide +kernel
theorem dX12_worstLink_29 : decode cX12_worstLink 29 = .ok (.iload_n 3, 1) := by decide +kernel
theorem dX12_worstLink_30 : decode cX12_worstLink 30 = .ok (.iconst 1, 1) := by decide +kernel
theorem dX12_worstLink_31 : decode cX12_worstLink 31 = .ok (.invokevirtual 210, 3) := by decide +kernel
theorem dX12_worstLink_34 : decode cX12_worstLink 34 = .ok (.invokevirtual 396, 3) := by decide +kernel
theorem dX12_worstLink_37 : decode cX12_worstLink 37 = .ok (.istore 4, 2) := by decide +kernel
theorem dX12_worstLink_39 : decode cX12_worstLink 39 = .ok (.iload 4, 2) := by decide +kernel
theorem dX12_worstLink_41 : decode cX12_worstLink 41 = .ok (.iload_n 2, 1) := by decide +kernel
theorem dX12_worstLink_42 : decode cX12_worstLink 42 = .ok (.if_icmp .gt 6, 3) := by decide +kernel
theorem dX12_worstLink_48 : decode cX12_worstLink 48 = .ok (.iload 4, 2) := by decide +kernel
theorem dX12_worstLink_50 : decode cX12_worstLink 50 = .ok (.istore_n 2, 1) := by decide +kernel
theorem dX12_worstLink_51 : decode cX12_worstLink 51 = .ok (.iload_n 3, 1) := by decide +kernel
theorem dX12_worstLink_52 : decode cX12_worstLink 52 = .ok (.istore_n 1, 1) := by decide +kernel
theorem dX12_worstLink_53 : decode cX12_worstLink 53 = .ok (.iinc 3 1, 3) := by decide +kernel
theorem dX12_worstLink_56 : decode cX12_worstLink 56 = .ok (.goto (-45), 3) := by decide +kernel
theorem dX12_worstLink_45 : decode cX12_worstLink 45 = .ok (.goto 8, 3) := by decide +kernel
theorem dX12_busiest_0 : decode cX12_busiest 0 = .ok (.aload_n 0, 1) := by decide +kernel
theorem dX12_busiest_1 : decode cX12_busiest 1 = .ok (.iconst 0, 1) := by decide +kernel
theorem dX12_busiest_2 : decode cX12_busiest 2 = .ok (.putfield 75, 3) := by decide +kernel
theorem dX12_busiest_5 : decode cX12_busiest 5 = .ok (.iconst 1, 1) := by decide +kernel
theorem dX12_busiest_6 : decode cX12_busiest 6 = .ok (.istore_n 1, 1) := by decide +kernel
theorem dX12_busiest_7 : decode cX12_busiest 7 = .ok (.iconst 2, 1) := by decide +kernel
theorem dX12_busiest_8 : decode cX12_busiest 8 = .ok (.istore_n 2, 1) := by decide +kernel
theorem dX12_busiest_9 : decode cX12_busiest 9 = .ok (.iload_n 2, 1) := by decide +kernel
theorem dX12_busiest_10 : decode cX12_busiest 10 = .ok (.aload_n 0, 1) := by decide +kernel
theorem dX12_busiest_11 : decode cX12_busiest 11 = .ok (.getfield 20, 3) := by decide +kernel
theorem dX12_busiest_14 : decode cX12_busiest 14 = .ok (.iconst 2, 1) := by decide +kernel
theorem dX12_busiest_15 : decode cX12_busiest 15 = .ok (.iaload, 1) := by decide +kernel
theorem dX12_busiest_16 : decode cX12_busiest 16 = .ok (.if_icmp .gt 30, 3) := by decide +kernel
theorem dX12_busiest_19 : decode cX12_busiest 19 = .ok (.aload_n 0, 1) := by decide +kernel
theorem dX12_busiest_20 : decode cX12_busiest 20 = .ok (.iload_n 2, 1) := by decide +kernel
theorem dX12_busiest_21 : decode cX12_busiest 21 = .ok (.invokevirtual 286, 3) := by decide +kernel
theorem dX12_busiest_24 : decode cX12_busiest 24 = .ok (.invokestatic 399, 3) := by decide +kernel
theorem dX12_busiest_27 : decode cX12_busiest 27 = .ok (.aload_n 0, 1) := by decide +kernel
theorem dX12_busiest_28 : decode cX12_busiest 28 = .ok (.iload_n 1, 1) := by decide +kernel
theorem dX12_busiest_29 : decode cX12_busiest 29 = .ok (.invokevirtual 286, 3) := by decide +kernel
theorem dX12_busiest_32 : decode cX12_busiest 32 = .ok (.invokestatic 399, 3) := by decide +kernel
theorem dX12_busiest_35 : decode cX12_busiest 35 = .ok (.if_icmp .le 5, 3) := by decide +kernel
theorem dX12_busiest_40 : decode cX12_busiest 40 = .ok (.iinc 2 1, 3) := by decide +kernel
theorem dX12_busiest_43 : decode cX12_busiest 43 = .ok (.goto (-34), 3) := by decide +kernel
theorem dX12_busiest_38 : decode cX12_busiest 38 = .ok (.iload_n 2, 1) := by decide +kernel
theorem dX12_busiest_39 : decode cX12_busiest 39 = .ok (.istore_n 1, 1) := by decide +kernel
theorem dX12_busiest_46 : decode cX12_busiest 46 = .ok (.iload_n 1, 1) := by decide +kernel
theorem dX12_busiest_47 : decode cX12_busiest 47 = .ok (.ireturn, 1) := by decide +kernel
theorem dX12_hops_0 : decode cX12_hops 0 = .ok (.aload_n 0, 1) := by decide +kernel
theorem dX12_hops_1 : decode cX12_hops 1 = .ok (.aload_n 0, 1) := by decide +kernel
theorem dX12_hops_2 : decode cX12_hops 2 = .ok (.iload_n 1, 1) := by decide +kernel
theorem dX12_hops_3 : decode cX12_hops 3 = .ok (.invokevirtual 355, 3) := by decide +kernel
theorem dX12_hops_6 : decode cX12_hops 6 = .ok (.ifCond .eq 15, 3) := by decide +kernel
theorem dX12_hops_9 : decode cX12_hops 9 = .ok (.aload_n 0, 1) := by decide +kernel
theorem dX12_hops_10 : decode cX12_hops 10 = .ok (.iload_n 2, 1) := by decide +kernel
theorem dX12_hops_11 : decode cX12_hops 11 = .ok (.invokevirtual 355, 3) := by decide +kernel
theorem dX12_hops_14 : decode cX12_hops 14 = .ok (.ifCond .eq 7, 3) := by decide +kernel
theorem dX12_hops_17 : decode cX12_hops 17 = .ok (.iconst 1, 1) := by decide +kernel
theorem dX12_hops_18 : decode cX12_hops 18 = .ok (.goto 4, 3) := by decide +kernel
theorem dX12_hops_22 : decode cX12_hops 22 = .ok (.invokevirtual 85, 3) := by decide +kernel
theorem dX12_hops_25 : decode cX12_hops 25 = .ok (.ifCond .eq 12, 3) := by decide +kernel
theorem dX12_hops_28 : decode cX12_hops 28 = .ok (.aload_n 0, 1) := by decide +kernel
theorem dX12_hops_29 : decode cX12_hops 29 = .ok (.iload_n 1, 1) := by decide +kernel
theorem dX12_hops_30 : decode cX12_hops 30 = .ok (.iload_n 2, 1) := by decide +kernel
theorem dX12_hops_31 : decode cX12_hops 31 = .ok (.invokevirtual 402, 3) := by decide +kernel
theorem dX12_hops_34 : decode cX12_hops 34 = .ok (.goto 4, 3) := by decide +kernel
theorem dX12_hops_38 : decode cX12_hops 38 = .ok (.ireturn, 1) := by decide +kernel
theorem dX12_hops_21 : decode cX12_hops 21 = .ok (.iconst 0, 1) := by decide +kernel
theorem dX12_hops_37 : decode cX12_hops 37 = .ok (.iconst 0, 1) := by decide +kernel
theorem dX12_nextNode_0 : decode cX12_nextNode 0 = .ok (.aload_n 0, 1) := by decide +kernel
theorem dX12_nextNode_1 : decode cX12_nextNode 1 = .ok (.aload_n 0, 1) := by decide +kernel
theorem dX12_nextNode_2 : decode cX12_nextNode 2 = .ok (.iload_n 1, 1) := by decide +kernel
theorem dX12_nextNode_3 : decode cX12_nextNode 3 = .ok (.invokevirtual 355, 3) := by decide +kernel
