theorem dX12_feed_0 : decode cX12_feed 0 = .ok (.aload_n 0, 1) := by decide +kernel
theorem dX12_feed_1 : decode cX12_feed 1 = .ok (.aload_n 0, 1) := by decide +kernel
theorem dX12_feed_2 : decode cX12_feed 2 = .ok (.getfield 82, 3) := by decide +kernel
theorem dX12_feed_5 : decode cX12_feed 5 = .ok (.bipush 20, 2) := by decide +kernel
theorem dX12_feed_7 : decode cX12_feed 7 = .ok (.iadd, 1) := by decide +kernel
theorem dX12_feed_8 : decode cX12_feed 8 = .ok (.sipush 600, 3) := by decide +kernel
theorem dX12_feed_11 : decode cX12_feed 11 = .ok (.if_icmp .gt 7, 3) := by decide +kernel
theorem dX12_feed_14 : decode cX12_feed 14 = .ok (.iconst 1, 1) := by decide +kernel
theorem dX12_feed_15 : decode cX12_feed 15 = .ok (.goto 4, 3) := by decide +kernel
theorem dX12_feed_19 : decode cX12_feed 19 = .ok (.invokevirtual 85, 3) := by decide +kernel
theorem dX12_feed_22 : decode cX12_feed 22 = .ok (.ifCond .ne 5, 3) := by decide +kernel
theorem dX12_feed_27 : decode cX12_feed 27 = .ok (.aload_n 0, 1) := by decide +kernel
theorem dX12_feed_28 : decode cX12_feed 28 = .ok (.iload_n 1, 1) := by decide +kernel
theorem dX12_feed_29 : decode cX12_feed 29 = .ok (.invokevirtual 89, 3) := by decide +kernel
theorem dX12_feed_32 : decode cX12_feed 32 = .ok (.aload_n 0, 1) := by decide +kernel
theorem dX12_feed_33 : decode cX12_feed 33 = .ok (.iload_n 2, 1) := by decide +kernel
theorem dX12_feed_34 : decode cX12_feed 34 = .ok (.invokevirtual 89, 3) := by decide +kernel
theorem dX12_feed_37 : decode cX12_feed 37 = .ok (.aload_n 0, 1) := by decide +kernel
theorem dX12_feed_38 : decode cX12_feed 38 = .ok (.iload_n 3, 1) := by decide +kernel
theorem dX12_feed_39 : decode cX12_feed 39 = .ok (.invokevirtual 89, 3) := by decide +kernel
theorem dX12_feed_42 : decode cX12_feed 42 = .ok (.aload_n 0, 1) := by decide +kernel
theorem dX12_feed_43 : decode cX12_feed 43 = .ok (.iload 4, 2) := by decide +kernel
theorem dX12_feed_45 : decode cX12_feed 45 = .ok (.invokevirtual 89, 3) := by decide +kernel
theorem dX12_feed_48 : decode cX12_feed 48 = .ok (.aload_n 0, 1) := by decide +kernel
theorem dX12_feed_49 : decode cX12_feed 49 = .ok (.iload 5, 2) := by decide +kernel
theorem dX12_feed_51 : decode cX12_feed 51 = .ok (.invokevirtual 89, 3) := by decide +kernel
theorem dX12_feed_54 : decode cX12_feed 54 = .ok (.aload_n 0, 1) := by decide +kernel
theorem dX12_feed_55 : decode cX12_feed 55 = .ok (.getfield 82, 3) := by decide +kernel
theorem dX12_feed_58 : decode cX12_feed 58 = .ok (.ireturn, 1) := by decide +kernel
theorem dX12_truncate_0 : decode cX12_truncate 0 = .ok (.aload_n 0, 1) := by decide +kernel
theorem dX12_truncate_1 : decode cX12_truncate 1 = .ok (.iload_n 1, 1) := by decide +kernel
theorem dX12_truncate_2 : decode cX12_truncate 2 = .ok (.i2l, 1) := by decide +kernel
theorem dX12_truncate_3 : decode cX12_truncate 3 = .ok (.lconst 0, 1) := by decide +kernel
theorem dX12_truncate_4 : decode cX12_truncate 4 = .ok (.aload_n 0, 1) := by decide +kernel
theorem dX12_truncate_5 : decode cX12_truncate 5 = .ok (.getfield 82, 3) := by decide +kernel
theorem dX12_truncate_8 : decode cX12_truncate 8 = .ok (.i2l, 1) := by decide +kernel
theorem dX12_truncate_9 : decode cX12_truncate 9 = .ok (.invokestatic 93, 3) := by decide +kernel
theorem dX12_truncate_12 : decode cX12_truncate 12 = .ok (.invokevirtual 85, 3) := by decide +kernel
theorem dX12_truncate_15 : decode cX12_truncate 15 = .ok (.ifCond .ne 5, 3) := by decide +kernel
theorem dX12_truncate_18 : decode cX12_truncate 18 = .ok (.iconst 0, 1) := by decide +kernel
theorem dX12_truncate_19 : decode cX12_truncate 19 = .ok (.ireturn, 1) := by decide +kernel
theorem dX12_truncate_20 : decode cX12_truncate 20 = .ok (.aload_n 0, 1) := by decide +kernel
theorem dX12_truncate_21 : decode cX12_truncate 21 = .ok (.iload_n 1, 1) := by decide +kernel
theorem dX12_truncate_22 : decode cX12_truncate 22 = .ok (.putfield 82, 3) := by decide +kernel
theorem dX12_truncate_25 : decode cX12_truncate 25 = .ok (.iload_n 1, 1) := by decide +kernel
theorem dX12_truncate_26 : decode cX12_truncate 26 = .ok (.ireturn, 1) := by decide +kernel
theorem dX12_readText_0 : decode cX12_readText 0 = .ok (.aload_n 0, 1) := by decide +kernel
theorem dX12_readText_1 : decode cX12_readText 1 = .ok (.invokevirtual 244, 3) := by decide +kernel
theorem dX12_readText_4 : decode cX12_readText 4 = .ok (.aload_n 0, 1) := by decide +kernel
theorem dX12_readText_5 : decode cX12_readText 5 = .ok (.invokevirtual 247, 3) := by decide +kernel
theorem dX12_readText_8 : decode cX12_readText 8 = .ok (.aload_n 0, 1) := by decide +kernel
theorem dX12_readText_9 : decode cX12_readText 9 = .ok (.getfield 35, 3) := by decide +kernel
theorem dX12_readText_12 : decode cX12_readText 12 = .ok (.aload_n 0, 1) := by decide +kernel
theorem dX12_readText_13 : decode cX12_readText 13 = .ok (.getfield 42, 3) := by decide +kernel
theorem dX12_readText_16 : decode cX12_readText 16 = .ok (.invokestatic 164, 3) := by decide +kernel
theorem dX12_readText_19 : decode cX12_readText 19 = .ok (.aload_n 0, 1) := by decide +kernel
theorem dX12_readText_20 : decode cX12_readText 20 = .ok (.invokevirtual 72, 3) := by decide +kernel
theorem dX12_readText_23 : decode cX12_readText 23 = .ok (.aload_n 0, 1) := by decide +kernel
theorem dX12_readText_24 : decode cX12_readText 24 = .ok (.iconst 0, 1) := by decide +kernel
theorem dX12_readText_25 : decode cX12_readText 25 = .ok (.putfield 182, 3) := by decide +kernel
theorem dX12_readText_28 : decode cX12_readText 28 = .ok (.aload_n 0, 1) := by decide +kernel
theorem dX12_readText_29 : decode cX12_readText 29 = .ok (.invokevirtual 130, 3) := by decide +kernel
theorem dX12_readText_32 : decode cX12_readText 32 = .ok (.ifCond .eq 17, 3) := by decide +kernel
theorem dX12_readText_35 : decode cX12_readText 35 = .ok (.aload_n 0, 1) := by decide +kernel
theorem dX12_readText_36 : decode cX12_readText 36 = .ok (.getfield 117, 3) := by decide +kernel
theorem dX12_readText_39 : decode cX12_readText 39 = .ok (.ifCond .eq 10, 3) := by decide +kernel
theorem dX12_readText_49 : decode cX12_readText 49 = .ok (.aload_n 0, 1) := by decide +kernel
theorem dX12_readText_50 : decode cX12_readText 50 = .ok (.invokevirtual 253, 3) := by decide +kernel
theorem dX12_readText_53 : decode cX12_readText 53 = .ok (.ifCond .ne 29, 3) := by decide +kernel
theorem dX12_readText_82 : decode cX12_readText 82 = .ok (.iconst 0, 1) := by decide +kernel
theorem dX12_readText_83 : decode cX12_readText 83 = .ok (.istore_n 1, 1) := by decide +kernel
theorem dX12_readText_84 : decode cX12_readText 84 = .ok (.iload_n 1, 1) := by decide +kernel
theorem dX12_readText_85 : decode cX12_readText 85 = .ok (.aload_n 0, 1) := by decide +kernel
theorem dX12_readText_86 : decode cX12_readText 86 = .ok (.getfield 20, 3) := by decide +kernel
theorem dX12_readText_89 : decode cX12_readText 89 = .ok (.iconst 0, 1) := by decide +kernel
theorem dX12_readText_90 : decode cX12_readText 90 = .ok (.iaload, 1) := by decide +kernel
theorem dX12_readText_91 : decode cX12_readText 91 = .ok (.if_icmp .ge 47, 3) := by decide +kernel
theorem dX12_readText_138 : decode cX12_readText 138 = .ok (.aload_n 0, 1) := by decide +kernel
theorem dX12_readText_139 : decode cX12_readText 139 = .ok (.iconst 0, 1) := by decide +kernel
theorem dX12_readText_140 : decode cX12_readText 140 = .ok (.putfield 158, 3) := by decide +kernel
theorem dX12_readText_143 : decode cX12_readText 143 = .ok (.aload_n 0, 1) := by decide +kernel
theorem dX12_readText_144 : decode cX12_readText 144 = .ok (.getfield 20, 3) := by decide +kernel
theorem dX12_readText_147 : decode cX12_readText 147 = .ok (.iconst 0, 1) := by decide +kernel
theorem dX12_readText_148 : decode cX12_readText 148 = .ok (.iaload, 1) := by decide +kernel
theorem dX12_readText_149 : decode cX12_readText 149 = .ok (.ireturn, 1) := by decide +kernel
theorem dX12_runScript_0 : decode cX12_runScript 0 = .ok (.aload_n 0, 1) := by decide +kernel
theorem dX12_runScript_1 : decode cX12_runScript 1 = .ok (.invokevirtual 244, 3) := by decide +kernel
theorem dX12_runScript_4 : decode cX12_runScript 4 = .ok (.aload_n 0, 1) := by decide +kernel
theorem dX12_runScript_5 : decode cX12_runScript 5 = .ok (.iconst 0, 1) := by decide +kernel
theorem dX12_runScript_6 : decode cX12_runScript 6 = .ok (.putfield 494, 3) := by decide +kernel
theorem dX12_runScript_9 : decode cX12_runScript 9 = .ok (.aload_n 0, 1) := by decide +kernel
theorem dX12_runScript_10 : decode cX12_runScript 10 = .ok (.iconst 0, 1) := by decide +kernel
theorem dX12_runScript_11 : decode cX12_runScript 11 = .ok (.putfield 491, 3) := by decide +kernel
theorem dX12_runScript_14 : decode cX12_runScript 14 = .ok (.aload_n 0, 1) := by decide +kernel
theorem dX12_runScript_15 : decode cX12_runScript 15 = .ok (.iconst 0, 1) := by decide +kernel
theorem dX12_runScript_16 : decode cX12_runScript 16 = .ok (.putfield 488, 3) := by decide +kernel
theorem dX12_runScript_19 : decode cX12_runScript 19 = .ok (.aload_n 0, 1) := by decide +kernel
theorem dX12_runScript_20 : decode cX12_runScript 20 = .ok (.invokevirtual 130, 3) := by decide +kernel
theorem dX12_runScript_23 : decode cX12_runScript 23 = .ok (.ifCond .eq 40, 3) := by decide +kernel
theorem dX12_runScript_26 : decode cX12_runScript 26 = .ok (.aload_n 0, 1) := by decide +kernel
theorem dX12_runScript_27 : decode cX12_runScript 27 = .ok (.getfield 117, 3) := by decide +kernel
theorem dX12_runScript_30 : decode cX12_runScript 30 = .ok (.ifCond .eq 33, 3) := by decide +kernel
theorem dX12_runScript_63 : decode cX12_runScript 63 = .ok (.aload_n 0, 1) := by decide +kernel
theorem dX12_runScript_64 : decode cX12_runScript 64 = .ok (.invokevirtual 130, 3) := by decide +kernel
theorem dX12_runScript_67 : decode cX12_runScript 67 = .ok (.ifCond .eq 15, 3) := by decide +kernel
theorem dX12_runScript_70 : decode cX12_runScript 70 = .ok (.aload_n 0, 1) := by decide +kernel
theorem dX12_runScript_71 : decode cX12_runScript 71 = .ok (.getfield 488, 3) := by decide +kernel
theorem dX12_runScript_74 : decode cX12_runScript 74 = .ok (.ifCond .le 8, 3) := by decide +kernel
theorem dX12_runScript_82 : decode cX12_runScript 82 = .ok (.aload_n 0, 1) := by decide +kernel
theorem dX12_runScript_83 : decode cX12_runScript 83 = .ok (.invokevirtual 253, 3) := by decide +kernel
theorem dX12_runScript_86 : decode cX12_runScript 86 = .ok (.ifCond .ne 5, 3) := by decide +kernel
theorem dX12_runScript_91 : decode cX12_runScript 91 = .ok (.aload_n 0, 1) := by decide +kernel
theorem dX12_runScript_92 : decode cX12_runScript 92 = .ok (.invokevirtual 247, 3) := by decide +kernel
theorem dX12_runScript_95 : decode cX12_runScript 95 = .ok (.aload_n 0, 1) := by decide +kernel
theorem dX12_runScript_96 : decode cX12_runScript 96 = .ok (.invokevirtual 506, 3) := by decide +kernel
theorem dX12_runScript_99 : decode cX12_runScript 99 = .ok (.istore_n 1, 1) := by decide +kernel
theorem dX12_runScript_100 : decode cX12_runScript 100 = .ok (.aload_n 0, 1) := by decide +kernel
theorem dX12_runScript_101 : decode cX12_runScript 101 = .ok (.invokevirtual 161, 3) := by decide +kernel
theorem dX12_runScript_104 : decode cX12_runScript 104 = .ok (.iload_n 1, 1) := by decide +kernel
theorem dX12_runScript_105 : decode cX12_runScript 105 = .ok (.ireturn, 1) := by decide +kernel
theorem dX12_errorCode_0 : decode cX12_errorCode 0 = .ok (.aload_n 0, 1) := by decide +kernel
theorem dX12_errorCode_1 : decode cX12_errorCode 1 = .ok (.iconst 0, 1) := by decide +kernel
theorem dX12_errorCode_2 : decode cX12_errorCode 2 = .ok (.putfield 75, 3) := by decide +kernel
theorem dX12_errorCode_5 : decode cX12_errorCode 5 = .ok (.aload_n 0, 1) := by decide +kernel
theorem dX12_errorCode_6 : decode cX12_errorCode 6 = .ok (.getfield 151, 3) := by decide +kernel
theorem dX12_errorCode_9 : decode cX12_errorCode 9 = .ok (.ireturn, 1) := by decide +kernel
theorem dX12_errorPosition_0 : decode cX12_errorPosition 0 = .ok (.aload_n 0, 1) := by decide +kernel
theorem dX12_errorPosition_1 : decode cX12_errorPosition 1 = .ok (.iconst 0, 1) := by decide +kernel
theorem dX12_errorPosition_2 : decode cX12_errorPosition 2 = .ok (.putfield 75, 3) := by decide +kernel
theorem dX12_errorPosition_5 : decode cX12_errorPosition 5 = .ok (.aload_n 0, 1) := by decide +kernel
theorem dX12_errorPosition_6 : decode cX12_errorPosition 6 = .ok (.getfield 17, 3) := by decide +kernel
theorem dX12_errorPosition_9 : decode cX12_errorPosition 9 = .ok (.ireturn, 1) := by decide +kernel
theorem dX12_setting_0 : decode cX12_setting 0 = .ok (.aload_n 0, 1) := by decide +kernel
theorem dX12_setting_1 : decode cX12_setting 1 = .ok (.iload_n 1, 1) := by decide +kernel
theorem dX12_setting_2 : decode cX12_setting 2 = .ok (.i2l, 1) := by decide +kernel
theorem dX12_setting_3 : decode cX12_setting 3 = .ok (.lconst 0, 1) := by decide +kernel
theorem dX12_setting_4 : decode cX12_setting 4 = .ok (.ldc2_w 341, 3) := by decide +kernel
theorem dX12_setting_7 : decode cX12_setting 7 = .ok (.invokestatic 93, 3) := by decide +kernel
theorem dX12_setting_10 : decode cX12_setting 10 = .ok (.invokevirtual 85, 3) := by decide +kernel
theorem dX12_setting_13 : decode cX12_setting 13 = .ok (.ifCond .ne 5, 3) := by decide +kernel
theorem dX12_setting_18 : decode cX12_setting 18 = .ok (.iload_n 1, 1) := by decide +kernel
theorem dX12_setting_19 : decode cX12_setting 19 = .ok (.tableswitch 72 5 10 #[37, 43, 48, 54, 59, 67], 37) := by decide +kernel
theorem dX12_setting_91 : decode cX12_setting 91 = .ok (.aload_n 0, 1) := by decide +kernel
theorem dX12_setting_92 : decode cX12_setting 92 = .ok (.getfield 20, 3) := by decide +kernel
theorem dX12_setting_95 : decode cX12_setting 95 = .ok (.iload_n 1, 1) := by decide +kernel
theorem dX12_setting_96 : decode cX12_setting 96 = .ok (.iaload, 1) := by decide +kernel
theorem dX12_setting_97 : decode cX12_setting 97 = .ok (.ireturn, 1) := by decide +kernel
theorem dX12_setting_56 : decode cX12_setting 56 = .ok (.aload_n 0, 1) := by decide +kernel
theorem dX12_setting_57 : decode cX12_setting 57 = .ok (.iconst 1, 1) := by decide +kernel
theorem dX12_setting_58 : decode cX12_setting 58 = .ok (.invokevirtual 343, 3) := by decide +kernel
theorem dX12_setting_61 : decode cX12_setting 61 = .ok (.ireturn, 1) := by decide +kernel
theorem dX12_setting_62 : decode cX12_setting 62 = .ok (.aload_n 0, 1) := by decide +kernel
theorem dX12_setting_63 : decode cX12_setting 63 = .ok (.invokevirtual 346, 3) := by decide +kernel
theorem dX12_setting_66 : decode cX12_setting 66 = .ok (.ireturn, 1) := by decide +kernel
theorem dX12_setting_67 : decode cX12_setting 67 = .ok (.aload_n 0, 1) := by decide +kernel
theorem dX12_setting_68 : decode cX12_setting 68 = .ok (.iconst 2, 1) := by decide +kernel
theorem dX12_setting_69 : decode cX12_setting 69 = .ok (.invokevirtual 343, 3) := by decide +kernel
theorem dX12_setting_72 : decode cX12_setting 72 = .ok (.ireturn, 1) := by decide +kernel
theorem dX12_setting_73 : decode cX12_setting 73 = .ok (.aload_n 0, 1) := by decide +kernel
theorem dX12_setting_74 : decode cX12_setting 74 = .ok (.invokevirtual 349, 3) := by decide +kernel
theorem dX12_setting_77 : decode cX12_setting 77 = .ok (.ireturn, 1) := by decide +kernel
theorem dX12_setting_78 : decode cX12_setting 78 = .ok (.aload_n 0, 1) := by decide +kernel
theorem dX12_setting_79 : decode cX12_setting 79 = .ok (.getfield 20, 3) := by decide +kernel
theorem dX12_setting_82 : decode cX12_setting 82 = .ok (.bipush 9, 2) := by decide +kernel
theorem dX12_setting_84 : decode cX12_setting 84 = .ok (.iaload, 1) := by decide +kernel
theorem dX12_setting_85 : decode cX12_setting 85 = .ok (.ireturn, 1) := by decide +kernel
theorem dX12_setting_86 : decode cX12_setting 86 = .ok (.aload_n 0, 1) := by decide +kernel
theorem dX12_setting_87 : decode cX12_setting 87 = .ok (.getfield 158, 3) := by decide +kernel
theorem dX12_setting_90 : decode cX12_setting 90 = .ok (.ireturn, 1) := by decide +kernel
theorem dX12_setting_16 : decode cX12_setting 16 = .ok (.iconst 0, 1) := by decide +kernel
theorem dX12_setting_17 : decode cX12_setting 17 = .ok (.ireturn, 1) := by decide +kernel
theorem dX12_node_0 : decode cX12_node 0 = .ok (.aload_n 0, 1) := by decide +kernel
theorem dX12_node_1 : decode cX12_node 1 = .ok (.aload_n 0, 1) := by decide +kernel
theorem dX12_node_2 : decode cX12_node 2 = .ok (.iload_n 1, 1) := by decide +kernel
theorem dX12_node_3 : decode cX12_node 3 = .ok (.invokevirtual 355, 3) := by decide +kernel
theorem dX12_node_6 : decode cX12_node 6 = .ok (.iload_n 2, 1) := by decide +kernel
theorem dX12_node_7 : decode cX12_node 7 = .ok (.i2l, 1) := by decide +kernel
theorem dX12_node_8 : decode cX12_node 8 = .ok (.lconst 0, 1) := by decide +kernel
theorem dX12_node_9 : decode cX12_node 9 = .ok (.ldc2_w 341, 3) := by decide +kernel
theorem dX12_node_12 : decode cX12_node 12 = .ok (.invokestatic 93, 3) := by decide +kernel
theorem dX12_node_15 : decode cX12_node 15 = .ok (.invokevirtual 358, 3) := by decide +kernel
theorem dX12_node_18 : decode cX12_node 18 = .ok (.ifCond .ne 5, 3) := by decide +kernel
theorem dX12_node_21 : decode cX12_node 21 = .ok (.iconst 0, 1) := by decide +kernel
theorem dX12_node_22 : decode cX12_node 22 = .ok (.ireturn, 1) := by decide +kernel
theorem dX12_message_0 : decode cX12_message 0 = .ok (.aload_n 0, 1) := by decide +kernel
theorem dX12_message_1 : decode cX12_message 1 = .ok (.aload_n 0, 1) := by decide +kernel
theorem dX12_message_2 : decode cX12_message 2 = .ok (.iload_n 1, 1) := by decide +kernel
theorem dX12_message_3 : decode cX12_message 3 = .ok (.invokevirtual 373, 3) := by decide +kernel
theorem dX12_message_6 : decode cX12_message 6 = .ok (.iload_n 2, 1) := by decide +kernel
theorem dX12_message_7 : decode cX12_message 7 = .ok (.i2l, 1) := by decide +kernel
theorem dX12_message_8 : decode cX12_message 8 = .ok (.lconst 0, 1) := by decide +kernel
theorem dX12_message_9 : decode cX12_message 9 = .ok (.ldc2_w 376, 3) := by decide +kernel
theorem dX12_message_12 : decode cX12_message 12 = .ok (.invokestatic 93, 3) := by decide +kernel
theorem dX12_message_15 : decode cX12_message 15 = .ok (.invokevirtual 358, 3) := by decide +kernel
theorem dX12_message_18 : decode cX12_message 18 = .ok (.ifCond .eq 12, 3) := by decide +kernel
theorem dX12_message_30 : decode cX12_message 30 = .ok (.iconst 0, 1) := by decide +kernel
theorem dX12_message_31 : decode cX12_message 31 = .ok (.ireturn, 1) := by decide +kernel
theorem dX12_letter_0 : decode cX12_letter 0 = .ok (.aload_n 0, 1) := by decide +kernel
theorem dX12_letter_1 : decode cX12_letter 1 = .ok (.aload_n 0, 1) := by decide +kernel
theorem dX12_letter_2 : decode cX12_letter 2 = .ok (.iload_n 1, 1) := by decide +kernel
theorem dX12_letter_3 : decode cX12_letter 3 = .ok (.invokevirtual 355, 3) := by decide +kernel
theorem dX12_letter_6 : decode cX12_letter 6 = .ok (.invokevirtual 85, 3) := by decide +kernel
theorem dX12_letter_9 : decode cX12_letter 9 = .ok (.ifCond .eq 16, 3) := by decide +kernel
theorem dX12_letter_25 : decode cX12_letter 25 = .ok (.iconst 0, 1) := by decide +kernel
theorem dX12_letter_26 : decode cX12_letter 26 = .ok (.ireturn, 1) := by decide +kernel
theorem dX12_inTable_0 : decode cX12_inTable 0 = .ok (.aload_n 0, 1) := by decide +kernel
theorem dX12_inTable_1 : decode cX12_inTable 1 = .ok (.aload_n 0, 1) := by decide +kernel
theorem dX12_inTable_2 : decode cX12_inTable 2 = .ok (.iload_n 1, 1) := by decide +kernel
theorem dX12_inTable_3 : decode cX12_inTable 3 = .ok (.invokevirtual 355, 3) := by decide +kernel
theorem dX12_inTable_6 : decode cX12_inTable 6 = .ok (.aload_n 0, 1) := by decide +kernel
theorem dX12_inTable_7 : decode cX12_inTable 7 = .ok (.iload_n 2, 1) := by decide +kernel
theorem dX12_inTable_8 : decode cX12_inTable 8 = .ok (.invokevirtual 388, 3) := by decide +kernel
theorem dX12_inTable_11 : decode cX12_inTable 11 = .ok (.invokevirtual 358, 3) := by decide +kernel
theorem dX12_inTable_14 : decode cX12_inTable 14 = .ok (.ifCond .eq 16, 3) := by decide +kernel
theorem dX12_inTable_30 : decode cX12_inTable 30 = .ok (.iconst 0, 1) := by decide +kernel
theorem dX12_inTable_31 : decode cX12_inTable 31 = .ok (.ireturn, 1) := by decide +kernel
theorem dX12_duty_0 : decode cX12_duty 0 = .ok (.aload_n 0, 1) := by decide +kernel
theorem dX12_duty_1 : decode cX12_duty 1 = .ok (.aload_n 0, 1) := by decide +kernel
theorem dX12_duty_2 : decode cX12_duty 2 = .ok (.iload_n 1, 1) := by decide +kernel
theorem dX12_duty_3 : decode cX12_duty 3 = .ok (.invokevirtual 355, 3) := by decide +kernel
theorem dX12_duty_6 : decode cX12_duty 6 = .ok (.invokevirtual 85, 3) := by decide +kernel
theorem dX12_duty_9 : decode cX12_duty 9 = .ok (.ifCond .eq 20, 3) := by decide +kernel
theorem dX12_duty_29 : decode cX12_duty 29 = .ok (.fconst 0, 1) := by decide +kernel
theorem dX12_duty_30 : decode cX12_duty 30 = .ok (.freturn, 1) := by decide +kernel
theorem dX12_meetsIn_0 : decode cX12_meetsIn 0 = .ok (.aload_n 0, 1) := by decide +kernel
theorem dX12_meetsIn_1 : decode cX12_meetsIn 1 = .ok (.aload_n 0, 1) := by decide +kernel
theorem dX12_meetsIn_2 : decode cX12_meetsIn 2 = .ok (.iload_n 1, 1) := by decide +kernel
theorem dX12_meetsIn_3 : decode cX12_meetsIn 3 = .ok (.invokevirtual 355, 3) := by decide +kernel
theorem dX12_meetsIn_6 : decode cX12_meetsIn 6 = .ok (.ifCond .eq 15, 3) := by decide +kernel
theorem dX12_meetsIn_21 : decode cX12_meetsIn 21 = .ok (.iconst 0, 1) := by decide +kernel
theorem dX12_meetsIn_22 : decode cX12_meetsIn 22 = .ok (.invokevirtual 85, 3) := by decide +kernel
theorem dX12_meetsIn_25 : decode cX12_meetsIn 25 = .ok (.ifCond .eq 12, 3) := by decide +kernel
theorem dX12_meetsIn_37 : decode cX12_meetsIn 37 = .ok (.iconst 0, 1) := by decide +kernel
theorem dX12_meetsIn_38 : decode cX12_meetsIn 38 = .ok (.ireturn, 1) := by decide +kernel
theorem dX12_hops_0 : decode cX12_hops 0 = .ok (.aload_n 0, 1) := by decide +kernel
theorem dX12_hops_1 : decode cX12_hops 1 = .ok (.aload_n 0, 1) := by decide +kernel
theorem dX12_hops_2 : decode cX12_hops 2 = .ok (.iload_n 1, 1) := by decide +kernel
theorem dX12_hops_3 : decode cX12_hops 3 = .ok (.invokevirtual 355, 3) := by decide +kernel
theorem dX12_hops_6 : decode cX12_hops 6 = .ok (.ifCond .eq 15, 3) := by decide +kernel
theorem dX12_hops_21 : decode cX12_hops 21 = .ok (.iconst 0, 1) := by decide +kernel
theorem dX12_hops_22 : decode cX12_hops 22 = .ok (.invokevirtual 85, 3) := by decide +kernel
theorem dX12_hops_25 : decode cX12_hops 25 = .ok (.ifCond .eq 12, 3) := by decide +kernel
theorem dX12_hops_37 : decode cX12_hops 37 = .ok (.iconst 0, 1) := by decide +kernel
theorem dX12_hops_38 : decode cX12_hops 38 = .ok (.ireturn, 1) := by decide +kernel
theorem dX12_nextNode_0 : decode cX12_nextNode 0 = .ok (.aload_n 0, 1) := by decide +kernel
theorem dX12_nextNode_1 : decode cX12_nextNode 1 = .ok (.aload_n 0, 1) := by decide +kernel
theorem dX12_nextNode_2 : decode cX12_nextNode 2 = .ok (.iload_n 1, 1) := by decide +kernel
theorem dX12_nextNode_3 : decode cX12_nextNode 3 = .ok (.invokevirtual 355, 3) := by decide +kernel
theorem dX12_nextNode_6 : decode cX12_nextNode 6 = .ok (.ifCond .eq 15, 3) := by decide +kernel
theorem dX12_nextNode_21 : decode cX12_nextNode 21 = .ok (.iconst 0, 1) := by decide +kernel
theorem dX12_nextNode_22 : decode cX12_nextNode 22 = .ok (.invokevirtual 85, 3) := by decide +kernel
theorem dX12_nextNode_25 : decode cX12_nextNode 25 = .ok (.ifCond .eq 12, 3) := by decide +kernel
theorem dX12_nextNode_37 : decode cX12_nextNode 37 = .ok (.iconst 0, 1) := by decide +kernel
theorem dX12_nextNode_38 : decode cX12_nextNode 38 = .ok (.ireturn, 1) := by decide +kernel
theorem dX12_arrives_0 : decode cX12_arrives 0 = .ok (.aload_n 0, 1) := by decide +kernel
theorem dX12_arrives_1 : decode cX12_arrives 1 = .ok (.aload_n 0, 1) := by decide +kernel
theorem dX12_arrives_2 : decode cX12_arrives 2 = .ok (.iload_n 1, 1) := by decide +kernel
theorem dX12_arrives_3 : decode cX12_arrives 3 = .ok (.invokevirtual 373, 3) := by decide +kernel
theorem dX12_arrives_6 : decode cX12_arrives 6 = .ok (.invokevirtual 85, 3) := by decide +kernel
theorem dX12_arrives_9 : decode cX12_arrives 9 = .ok (.ifCond .ne 5, 3) := by decide +kernel
theorem dX12_arrives_12 : decode cX12_arrives 12 = .ok (.iconst 0, 1) := by decide +kernel
theorem dX12_arrives_13 : decode cX12_arrives 13 = .ok (.ireturn, 1) := by decide +kernel
theorem dX12_wouldArrive_0 : decode cX12_wouldArrive 0 = .ok (.aload_n 0, 1) := by decide +kernel
theorem dX12_wouldArrive_1 : decode cX12_wouldArrive 1 = .ok (.aload_n 0, 1) := by decide +kernel
theorem dX12_wouldArrive_2 : decode cX12_wouldArrive 2 = .ok (.iload_n 1, 1) := by decide +kernel
theorem dX12_wouldArrive_3 : decode cX12_wouldArrive 3 = .ok (.invokevirtual 355, 3) := by decide +kernel
theorem dX12_wouldArrive_6 : decode cX12_wouldArrive 6 = .ok (.ifCond .eq 15, 3) := by decide +kernel
theorem dX12_wouldArrive_21 : decode cX12_wouldArrive 21 = .ok (.iconst 0, 1) := by decide +kernel
theorem dX12_wouldArrive_22 : decode cX12_wouldArrive 22 = .ok (.iload_n 1, 1) := by decide +kernel
theorem dX12_wouldArrive_23 : decode cX12_wouldArrive 23 = .ok (.iload_n 2, 1) := by decide +kernel
theorem dX12_wouldArrive_24 : decode cX12_wouldArrive 24 = .ok (.if_icmp .eq 7, 3) := by decide +kernel
theorem dX12_wouldArrive_31 : decode cX12_wouldArrive 31 = .ok (.iconst 0, 1) := by decide +kernel
theorem dX12_wouldArrive_32 : decode cX12_wouldArrive 32 = .ok (.invokevirtual 358, 3) := by decide +kernel
theorem dX12_wouldArrive_35 : decode cX12_wouldArrive 35 = .ok (.ifCond .ne 5, 3) := by decide +kernel
theorem dX12_wouldArrive_38 : decode cX12_wouldArrive 38 = .ok (.iconst 0, 1) := by decide +kernel
theorem dX12_wouldArrive_39 : decode cX12_wouldArrive 39 = .ok (.ireturn, 1) := by decide +kernel
theorem dX12_wouldArrive_27 : decode cX12_wouldArrive 27 = .ok (.iconst 1, 1) := by decide +kernel
theorem dX12_wouldArrive_28 : decode cX12_wouldArrive 28 = .ok (.goto 4, 3) := by decide +kernel
theorem dX12_outIn_0 : decode cX12_outIn 0 = .ok (.aload_n 0, 1) := by decide +kernel
theorem dX12_outIn_1 : decode cX12_outIn 1 = .ok (.aload_n 0, 1) := by decide +kernel
theorem dX12_outIn_2 : decode cX12_outIn 2 = .ok (.iload_n 1, 1) := by decide +kernel
theorem dX12_outIn_3 : decode cX12_outIn 3 = .ok (.invokevirtual 355, 3) := by decide +kernel
theorem dX12_outIn_6 : decode cX12_outIn 6 = .ok (.invokevirtual 85, 3) := by decide +kernel
theorem dX12_outIn_9 : decode cX12_outIn 9 = .ok (.ifCond .ne 5, 3) := by decide +kernel
theorem dX12_outIn_12 : decode cX12_outIn 12 = .ok (.iconst 0, 1) := by decide +kernel
theorem dX12_outIn_13 : decode cX12_outIn 13 = .ok (.ireturn, 1) := by decide +kernel
theorem dX12_energyIn_0 : decode cX12_energyIn 0 = .ok (.aload_n 0, 1) := by decide +kernel
theorem dX12_energyIn_1 : decode cX12_energyIn 1 = .ok (.aload_n 0, 1) := by decide +kernel
theorem dX12_energyIn_2 : decode cX12_energyIn 2 = .ok (.iload_n 1, 1) := by decide +kernel
theorem dX12_energyIn_3 : decode cX12_energyIn 3 = .ok (.invokevirtual 355, 3) := by decide +kernel
theorem dX12_energyIn_6 : decode cX12_energyIn 6 = .ok (.iload_n 2, 1) := by decide +kernel
theorem dX12_energyIn_7 : decode cX12_energyIn 7 = .ok (.i2l, 1) := by decide +kernel
theorem dX12_energyIn_8 : decode cX12_energyIn 8 = .ok (.lconst 0, 1) := by decide +kernel
theorem dX12_energyIn_9 : decode cX12_energyIn 9 = .ok (.ldc2_w 425, 3) := by decide +kernel
theorem dX12_energyIn_12 : decode cX12_energyIn 12 = .ok (.invokestatic 93, 3) := by decide +kernel
theorem dX12_energyIn_15 : decode cX12_energyIn 15 = .ok (.invokevirtual 358, 3) := by decide +kernel
theorem dX12_energyIn_18 : decode cX12_energyIn 18 = .ok (.ifCond .ne 5, 3) := by decide +kernel
theorem dX12_energyIn_21 : decode cX12_energyIn 21 = .ok (.iconst 0, 1) := by decide +kernel
theorem dX12_energyIn_22 : decode cX12_energyIn 22 = .ok (.ireturn, 1) := by decide +kernel
theorem dX12_bestShift_0 : decode cX12_bestShift 0 = .ok (.aload_n 0, 1) := by decide +kernel
theorem dX12_bestShift_1 : decode cX12_bestShift 1 = .ok (.aload_n 0, 1) := by decide +kernel
theorem dX12_bestShift_2 : decode cX12_bestShift 2 = .ok (.iload_n 1, 1) := by decide +kernel
theorem dX12_bestShift_3 : decode cX12_bestShift 3 = .ok (.invokevirtual 355, 3) := by decide +kernel
theorem dX12_bestShift_6 : decode cX12_bestShift 6 = .ok (.invokevirtual 85, 3) := by decide +kernel
theorem dX12_bestShift_9 : decode cX12_bestShift 9 = .ok (.ifCond .ne 5, 3) := by decide +kernel
theorem dX12_bestShift_12 : decode cX12_bestShift 12 = .ok (.iconst 0, 1) := by decide +kernel
theorem dX12_bestShift_13 : decode cX12_bestShift 13 = .ok (.ireturn, 1) := by decide +kernel
theorem dX12_bestWatch_0 : decode cX12_bestWatch 0 = .ok (.aload_n 0, 1) := by decide +kernel
theorem dX12_bestWatch_1 : decode cX12_bestWatch 1 = .ok (.aload_n 0, 1) := by decide +kernel
theorem dX12_bestWatch_2 : decode cX12_bestWatch 2 = .ok (.iload_n 1, 1) := by decide +kernel
theorem dX12_bestWatch_3 : decode cX12_bestWatch 3 = .ok (.invokevirtual 355, 3) := by decide +kernel
theorem dX12_bestWatch_6 : decode cX12_bestWatch 6 = .ok (.ifCond .eq 15, 3) := by decide +kernel
theorem dX12_bestWatch_21 : decode cX12_bestWatch 21 = .ok (.iconst 0, 1) := by decide +kernel
theorem dX12_bestWatch_22 : decode cX12_bestWatch 22 = .ok (.iload_n 1, 1) := by decide +kernel
theorem dX12_bestWatch_23 : decode cX12_bestWatch 23 = .ok (.iload_n 2, 1) := by decide +kernel
theorem dX12_bestWatch_24 : decode cX12_bestWatch 24 = .ok (.if_icmp .eq 7, 3) := by decide +kernel
theorem dX12_bestWatch_31 : decode cX12_bestWatch 31 = .ok (.iconst 0, 1) := by decide +kernel
theorem dX12_bestWatch_32 : decode cX12_bestWatch 32 = .ok (.invokevirtual 358, 3) := by decide +kernel
theorem dX12_bestWatch_35 : decode cX12_bestWatch 35 = .ok (.ifCond .ne 5, 3) := by decide +kernel
theorem dX12_bestWatch_38 : decode cX12_bestWatch 38 = .ok (.iconst 0, 1) := by decide +kernel
theorem dX12_bestWatch_39 : decode cX12_bestWatch 39 = .ok (.ireturn, 1) := by decide +kernel
theorem dX12_bestWatch_27 : decode cX12_bestWatch 27 = .ok (.iconst 1, 1) := by decide +kernel
theorem dX12_bestWatch_28 : decode cX12_bestWatch 28 = .ok (.goto 4, 3) := by decide +kernel
theorem dX12_send_0 : decode cX12_send 0 = .ok (.aload_n 0, 1) := by decide +kernel
theorem dX12_send_1 : decode cX12_send 1 = .ok (.iload_n 1, 1) := by decide +kernel
theorem dX12_send_2 : decode cX12_send 2 = .ok (.invokevirtual 355, 3) := by decide +kernel
theorem dX12_send_5 : decode cX12_send 5 = .ok (.ifCond .eq 15, 3) := by decide +kernel
theorem dX12_send_20 : decode cX12_send 20 = .ok (.iconst 0, 1) := by decide +kernel
theorem dX12_send_21 : decode cX12_send 21 = .ok (.istore 5, 2) := by decide +kernel
theorem dX12_send_23 : decode cX12_send 23 = .ok (.aload_n 0, 1) := by decide +kernel
theorem dX12_send_24 : decode cX12_send 24 = .ok (.iload 5, 2) := by decide +kernel
theorem dX12_send_26 : decode cX12_send 26 = .ok (.iload_n 1, 1) := by decide +kernel
theorem dX12_send_27 : decode cX12_send 27 = .ok (.iload_n 2, 1) := by decide +kernel
theorem dX12_send_28 : decode cX12_send 28 = .ok (.if_icmp .eq 14, 3) := by decide +kernel
theorem dX12_send_42 : decode cX12_send 42 = .ok (.iconst 0, 1) := by decide +kernel
theorem dX12_send_43 : decode cX12_send 43 = .ok (.iload 5, 2) := by decide +kernel
theorem dX12_send_45 : decode cX12_send 45 = .ok (.ifCond .eq 16, 3) := by decide +kernel
theorem dX12_send_61 : decode cX12_send 61 = .ok (.iconst 0, 1) := by decide +kernel
theorem dX12_send_62 : decode cX12_send 62 = .ok (.invokevirtual 458, 3) := by decide +kernel
theorem dX12_send_65 : decode cX12_send 65 = .ok (.ifCond .ne 5, 3) := by decide +kernel
theorem dX12_send_68 : decode cX12_send 68 = .ok (.iconst 0, 1) := by decide +kernel
theorem dX12_send_69 : decode cX12_send 69 = .ok (.ireturn, 1) := by decide +kernel
theorem dX12_send_31 : decode cX12_send 31 = .ok (.iload_n 3, 1) := by decide +kernel
theorem dX12_send_32 : decode cX12_send 32 = .ok (.invokestatic 452, 3) := by decide +kernel
theorem dX12_send_35 : decode cX12_send 35 = .ok (.ifCond .eq 7, 3) := by decide +kernel
theorem dX12_send_38 : decode cX12_send 38 = .ok (.iconst 1, 1) := by decide +kernel
theorem dX12_send_39 : decode cX12_send 39 = .ok (.goto 4, 3) := by decide +kernel
theorem dX12_setShift_0 : decode cX12_setShift 0 = .ok (.aload_n 0, 1) := by decide +kernel
theorem dX12_setShift_1 : decode cX12_setShift 1 = .ok (.aload_n 0, 1) := by decide +kernel
theorem dX12_setShift_2 : decode cX12_setShift 2 = .ok (.iload_n 1, 1) := by decide +kernel
theorem dX12_setShift_3 : decode cX12_setShift 3 = .ok (.invokevirtual 355, 3) := by decide +kernel
theorem dX12_setShift_6 : decode cX12_setShift 6 = .ok (.aload_n 0, 1) := by decide +kernel
theorem dX12_setShift_7 : decode cX12_setShift 7 = .ok (.iload_n 2, 1) := by decide +kernel
theorem dX12_setShift_8 : decode cX12_setShift 8 = .ok (.invokevirtual 388, 3) := by decide +kernel
theorem dX12_setShift_11 : decode cX12_setShift 11 = .ok (.invokevirtual 358, 3) := by decide +kernel
theorem dX12_setShift_14 : decode cX12_setShift 14 = .ok (.ifCond .ne 5, 3) := by decide +kernel
theorem dX12_setShift_17 : decode cX12_setShift 17 = .ok (.iconst 0, 1) := by decide +kernel
theorem dX12_setShift_18 : decode cX12_setShift 18 = .ok (.ireturn, 1) := by decide +kernel
theorem dX12_watch_0 : decode cX12_watch 0 = .ok (.aload_n 0, 1) := by decide +kernel
theorem dX12_watch_1 : decode cX12_watch 1 = .ok (.aload_n 0, 1) := by decide +kernel
theorem dX12_watch_2 : decode cX12_watch 2 = .ok (.iload_n 1, 1) := by decide +kernel
theorem dX12_watch_3 : decode cX12_watch 3 = .ok (.invokevirtual 355, 3) := by decide +kernel
theorem dX12_watch_6 : decode cX12_watch 6 = .ok (.aload_n 0, 1) := by decide +kernel
theorem dX12_watch_7 : decode cX12_watch 7 = .ok (.iload_n 2, 1) := by decide +kernel
theorem dX12_watch_8 : decode cX12_watch 8 = .ok (.invokevirtual 388, 3) := by decide +kernel
theorem dX12_watch_11 : decode cX12_watch 11 = .ok (.invokevirtual 358, 3) := by decide +kernel
theorem dX12_watch_14 : decode cX12_watch 14 = .ok (.ifCond .eq 13, 3) := by decide +kernel
theorem dX12_watch_27 : decode cX12_watch 27 = .ok (.iconst 0, 1) := by decide +kernel
theorem dX12_watch_28 : decode cX12_watch 28 = .ok (.ireturn, 1) := by decide +kernel
theorem dX12_setBorn_0 : decode cX12_setBorn 0 = .ok (.aload_n 0, 1) := by decide +kernel
theorem dX12_setBorn_1 : decode cX12_setBorn 1 = .ok (.aload_n 0, 1) := by decide +kernel
theorem dX12_setBorn_2 : decode cX12_setBorn 2 = .ok (.iload_n 1, 1) := by decide +kernel
theorem dX12_setBorn_3 : decode cX12_setBorn 3 = .ok (.invokevirtual 355, 3) := by decide +kernel
theorem dX12_setBorn_6 : decode cX12_setBorn 6 = .ok (.aload_n 0, 1) := by decide +kernel
theorem dX12_setBorn_7 : decode cX12_setBorn 7 = .ok (.iload_n 2, 1) := by decide +kernel
theorem dX12_setBorn_8 : decode cX12_setBorn 8 = .ok (.invokevirtual 388, 3) := by decide +kernel
theorem dX12_setBorn_11 : decode cX12_setBorn 11 = .ok (.invokevirtual 358, 3) := by decide +kernel
theorem dX12_setBorn_14 : decode cX12_setBorn 14 = .ok (.ifCond .ne 5, 3) := by decide +kernel
theorem dX12_setBorn_17 : decode cX12_setBorn 17 = .ok (.iconst 0, 1) := by decide +kernel
theorem dX12_setBorn_18 : decode cX12_setBorn 18 = .ok (.ireturn, 1) := by decide +kernel
theorem dX12_charge_0 : decode cX12_charge 0 = .ok (.aload_n 0, 1) := by decide +kernel
theorem dX12_charge_1 : decode cX12_charge 1 = .ok (.aload_n 0, 1) := by decide +kernel
theorem dX12_charge_2 : decode cX12_charge 2 = .ok (.iload_n 1, 1) := by decide +kernel
theorem dX12_charge_3 : decode cX12_charge 3 = .ok (.invokevirtual 355, 3) := by decide +kernel
theorem dX12_charge_6 : decode cX12_charge 6 = .ok (.iload_n 2, 1) := by decide +kernel
theorem dX12_charge_7 : decode cX12_charge 7 = .ok (.invokestatic 452, 3) := by decide +kernel
theorem dX12_charge_10 : decode cX12_charge 10 = .ok (.invokevirtual 358, 3) := by decide +kernel
theorem dX12_charge_13 : decode cX12_charge 13 = .ok (.ifCond .ne 5, 3) := by decide +kernel
theorem dX12_charge_16 : decode cX12_charge 16 = .ok (.iconst 0, 1) := by decide +kernel
theorem dX12_charge_17 : decode cX12_charge 17 = .ok (.ireturn, 1) := by decide +kernel
theorem dX12_link_0 : decode cX12_link 0 = .ok (.aload_n 0, 1) := by decide +kernel
theorem dX12_link_1 : decode cX12_link 1 = .ok (.iload_n 1, 1) := by decide +kernel
theorem dX12_link_2 : decode cX12_link 2 = .ok (.i2l, 1) := by decide +kernel
theorem dX12_link_3 : decode cX12_link 3 = .ok (.lconst 0, 1) := by decide +kernel
theorem dX12_link_4 : decode cX12_link 4 = .ok (.aload_n 0, 1) := by decide +kernel
theorem dX12_link_5 : decode cX12_link 5 = .ok (.getfield 20, 3) := by decide +kernel
theorem dX12_link_8 : decode cX12_link 8 = .ok (.iconst 1, 1) := by decide +kernel
theorem dX12_link_9 : decode cX12_link 9 = .ok (.iaload, 1) := by decide +kernel
theorem dX12_link_10 : decode cX12_link 10 = .ok (.iconst 1, 1) := by decide +kernel
theorem dX12_link_11 : decode cX12_link 11 = .ok (.isub, 1) := by decide +kernel
theorem dX12_link_12 : decode cX12_link 12 = .ok (.i2l, 1) := by decide +kernel
theorem dX12_link_13 : decode cX12_link 13 = .ok (.invokestatic 93, 3) := by decide +kernel
theorem dX12_link_16 : decode cX12_link 16 = .ok (.iload_n 2, 1) := by decide +kernel
theorem dX12_link_17 : decode cX12_link 17 = .ok (.i2l, 1) := by decide +kernel
theorem dX12_link_18 : decode cX12_link 18 = .ok (.lconst 0, 1) := by decide +kernel
theorem dX12_link_19 : decode cX12_link 19 = .ok (.ldc2_w 371, 3) := by decide +kernel
theorem dX12_link_22 : decode cX12_link 22 = .ok (.invokestatic 93, 3) := by decide +kernel
theorem dX12_link_25 : decode cX12_link 25 = .ok (.invokevirtual 358, 3) := by decide +kernel
theorem dX12_link_28 : decode cX12_link 28 = .ok (.ifCond .eq 12, 3) := by decide +kernel
theorem dX12_link_40 : decode cX12_link 40 = .ok (.iconst 0, 1) := by decide +kernel
theorem dX12_link_41 : decode cX12_link 41 = .ok (.ireturn, 1) := by decide +kernel
theorem dX12_reportByte_0 : decode cX12_reportByte 0 = .ok (.aload_n 0, 1) := by decide +kernel
theorem dX12_reportByte_1 : decode cX12_reportByte 1 = .ok (.aload_n 0, 1) := by decide +kernel
theorem dX12_reportByte_2 : decode cX12_reportByte 2 = .ok (.getfield 524, 3) := by decide +kernel
theorem dX12_reportByte_5 : decode cX12_reportByte 5 = .ok (.ifCond .eq 23, 3) := by decide +kernel
theorem dX12_reportByte_28 : decode cX12_reportByte 28 = .ok (.iconst 0, 1) := by decide +kernel
theorem dX12_reportByte_29 : decode cX12_reportByte 29 = .ok (.invokevirtual 85, 3) := by decide +kernel
theorem dX12_reportByte_32 : decode cX12_reportByte 32 = .ok (.ifCond .eq 12, 3) := by decide +kernel
theorem dX12_reportByte_44 : decode cX12_reportByte 44 = .ok (.iconst 0, 1) := by decide +kernel
theorem dX12_reportByte_45 : decode cX12_reportByte 45 = .ok (.ireturn, 1) := by decide +kernel
theorem dX12_meanEnergy_0 : decode cX12_meanEnergy 0 = .ok (.aload_n 0, 1) := by decide +kernel
theorem dX12_meanEnergy_1 : decode cX12_meanEnergy 1 = .ok (.iconst 0, 1) := by decide +kernel
theorem dX12_meanEnergy_2 : decode cX12_meanEnergy 2 = .ok (.putfield 75, 3) := by decide +kernel
theorem dX12_meanEnergy_5 : decode cX12_meanEnergy 5 = .ok (.iconst 0, 1) := by decide +kernel
theorem dX12_meanEnergy_6 : decode cX12_meanEnergy 6 = .ok (.istore_n 1, 1) := by decide +kernel
theorem dX12_meanEnergy_7 : decode cX12_meanEnergy 7 = .ok (.iconst 0, 1) := by decide +kernel
theorem dX12_meanEnergy_8 : decode cX12_meanEnergy 8 = .ok (.istore_n 2, 1) := by decide +kernel
theorem dX12_meanEnergy_9 : decode cX12_meanEnergy 9 = .ok (.iload_n 2, 1) := by decide +kernel
theorem dX12_meanEnergy_10 : decode cX12_meanEnergy 10 = .ok (.aload_n 0, 1) := by decide +kernel
theorem dX12_meanEnergy_11 : decode cX12_meanEnergy 11 = .ok (.getfield 20, 3) := by decide +kernel
theorem dX12_meanEnergy_14 : decode cX12_meanEnergy 14 = .ok (.iconst 0, 1) := by decide +kernel
theorem dX12_meanEnergy_15 : decode cX12_meanEnergy 15 = .ok (.iaload, 1) := by decide +kernel
theorem dX12_meanEnergy_16 : decode cX12_meanEnergy 16 = .ok (.if_icmp .ge 18, 3) := by decide +kernel
theorem dX12_meanEnergy_34 : decode cX12_meanEnergy 34 = .ok (.aload_n 0, 1) := by decide +kernel
theorem dX12_meanEnergy_35 : decode cX12_meanEnergy 35 = .ok (.getfield 20, 3) := by decide +kernel
theorem dX12_meanEnergy_38 : decode cX12_meanEnergy 38 = .ok (.iconst 0, 1) := by decide +kernel
theorem dX12_meanEnergy_39 : decode cX12_meanEnergy 39 = .ok (.iaload, 1) := by decide +kernel
theorem dX12_meanEnergy_40 : decode cX12_meanEnergy 40 = .ok (.ifCond .ne 7, 3) := by decide +kernel
theorem dX12_meanEnergy_43 : decode cX12_meanEnergy 43 = .ok (.dconst 0, 1) := by decide +kernel
theorem dX12_meanEnergy_44 : decode cX12_meanEnergy 44 = .ok (.goto 13, 3) := by decide +kernel
theorem dX12_meanEnergy_57 : decode cX12_meanEnergy 57 = .ok (.dreturn, 1) := by decide +kernel
theorem dX12_awakeIn_0 : decode cX12_awakeIn 0 = .ok (.aload_n 0, 1) := by decide +kernel
theorem dX12_awakeIn_1 : decode cX12_awakeIn 1 = .ok (.iload_n 1, 1) := by decide +kernel
theorem dX12_awakeIn_2 : decode cX12_awakeIn 2 = .ok (.i2l, 1) := by decide +kernel
theorem dX12_awakeIn_3 : decode cX12_awakeIn 3 = .ok (.lconst 0, 1) := by decide +kernel
theorem dX12_awakeIn_4 : decode cX12_awakeIn 4 = .ok (.ldc2_w 391, 3) := by decide +kernel
theorem dX12_awakeIn_7 : decode cX12_awakeIn 7 = .ok (.invokestatic 93, 3) := by decide +kernel
theorem dX12_awakeIn_10 : decode cX12_awakeIn 10 = .ok (.invokevirtual 85, 3) := by decide +kernel
theorem dX12_awakeIn_13 : decode cX12_awakeIn 13 = .ok (.ifCond .eq 11, 3) := by decide +kernel
theorem dX12_awakeIn_24 : decode cX12_awakeIn 24 = .ok (.iconst 0, 1) := by decide +kernel
theorem dX12_awakeIn_25 : decode cX12_awakeIn 25 = .ok (.ireturn, 1) := by decide +kernel
theorem dX12_awakeIn_16 : decode cX12_awakeIn 16 = .ok (.aload_n 0, 1) := by decide +kernel
theorem dX12_awakeIn_17 : decode cX12_awakeIn 17 = .ok (.iload_n 1, 1) := by decide +kernel
theorem dX12_awakeIn_18 : decode cX12_awakeIn 18 = .ok (.invokevirtual 286, 3) := by decide +kernel
theorem dX12_awakeIn_21 : decode cX12_awakeIn 21 = .ok (.goto 4, 3) := by decide +kernel
theorem dX12_worstLink_0 : decode cX12_worstLink 0 = .ok (.aload_n 0, 1) := by decide +kernel
theorem dX12_worstLink_1 : decode cX12_worstLink 1 = .ok (.iconst 0, 1) := by decide +kernel
theorem dX12_worstLink_2 : decode cX12_worstLink 2 = .ok (.putfield 75, 3) := by decide +kernel
theorem dX12_worstLink_5 : decode cX12_worstLink 5 = .ok (.iconst (-1), 1) := by decide +kernel
theorem dX12_worstLink_6 : decode cX12_worstLink 6 = .ok (.istore_n 1, 1) := by decide +kernel
theorem dX12_worstLink_7 : decode cX12_worstLink 7 = .ok (.iconst (-1), 1) := by decide +kernel
theorem dX12_worstLink_8 : decode cX12_worstLink 8 = .ok (.istore_n 2, 1) := by decide +kernel
theorem dX12_worstLink_9 : decode cX12_worstLink 9 = .ok (.iconst 0, 1) := by decide +kernel
theorem dX12_worstLink_10 : decode cX12_worstLink 10 = .ok (.istore_n 3, 1) := by decide +kernel
theorem dX12_worstLink_11 : decode cX12_worstLink 11 = .ok (.iload_n 3, 1) := by decide +kernel
theorem dX12_worstLink_12 : decode cX12_worstLink 12 = .ok (.aload_n 0, 1) := by decide +kernel
theorem dX12_worstLink_13 : decode cX12_worstLink 13 = .ok (.getfield 20, 3) := by decide +kernel
theorem dX12_worstLink_16 : decode cX12_worstLink 16 = .ok (.iconst 1, 1) := by decide +kernel
theorem dX12_worstLink_17 : decode cX12_worstLink 17 = .ok (.iaload, 1) := by decide +kernel
theorem dX12_worstLink_18 : decode cX12_worstLink 18 = .ok (.if_icmp .ge 41, 3) := by decide +kernel
theorem dX12_worstLink_59 : decode cX12_worstLink 59 = .ok (.iload_n 1, 1) := by decide +kernel
theorem dX12_worstLink_60 : decode cX12_worstLink 60 = .ok (.ireturn, 1) := by decide +kernel
theorem dX12_busiest_0 : decode cX12_busiest 0 = .ok (.aload_n 0, 1) := by decide +kernel
theorem dX12_busiest_1 : decode cX12_busiest 1 = .ok (.iconst 0, 1) := by decide +kernel
theorem dX12_busiest_2 : decode cX12_busiest 2 = .ok (.putfield 75, 3) := by decide +kernel
theorem dX12_busiest_5 : decode cX12_busiest 5 = .ok (.iconst 1, 1) := by decide +kernel
theorem dX12_busiest_6 : decode cX12_busiest 6 = .ok (.istore_n 1, 1) := by decide +kernel
theorem dX12_busiest_7 : decode cX12_busiest 7 = .ok (.iconst 2, 1) := by decide +kernel
theorem dX12_busiest_8 : decode cX12_busiest 8 = .ok (.istore_n 2, 1) := by decide +kernel
theorem dX12_busiest_9 : decode cX12_busiest 9 = .ok (.iload_n 2, 1) := by decide +kernel
theorem dX12_busiest_10 : decode cX12_busiest 10 = .ok (.aload_n 0, 1) := by decide +kernel
theorem dX12_busiest_11 : decode cX12_busiest 11 = .ok (.getfield 20, 3) := by decide +kernel
theorem dX12_busiest_14 : decode cX12_busiest 14 = .ok (.iconst 2, 1) := by decide +kernel
theorem dX12_busiest_15 : decode cX12_busiest 15 = .ok (.iaload, 1) := by decide +kernel
theorem dX12_busiest_16 : decode cX12_busiest 16 = .ok (.if_icmp .gt 30, 3) := by decide +kernel
theorem dX12_busiest_19 : decode cX12_busiest 19 = .ok (.aload_n 0, 1) := by decide +kernel
theorem dX12_busiest_20 : decode cX12_busiest 20 = .ok (.iload_n 2, 1) := by decide +kernel
theorem dX12_busiest_21 : decode cX12_busiest 21 = .ok (.invokevirtual 286, 3) := by decide +kernel
theorem dX12_busiest_24 : decode cX12_busiest 24 = .ok (.invokestatic 399, 3) := by decide +kernel
theorem dX12_busiest_27 : decode cX12_busiest 27 = .ok (.aload_n 0, 1) := by decide +kernel
theorem dX12_busiest_28 : decode cX12_busiest 28 = .ok (.iload_n 1, 1) := by decide +kernel
theorem dX12_busiest_29 : decode cX12_busiest 29 = .ok (.invokevirtual 286, 3) := by decide +kernel
theorem dX12_busiest_32 : decode cX12_busiest 32 = .ok (.invokestatic 399, 3) := by decide +kernel
theorem dX12_busiest_35 : decode cX12_busiest 35 = .ok (.if_icmp .le 5, 3) := by decide +kernel
theorem dX12_busiest_40 : decode cX12_busiest 40 = .ok (.iinc 2 1, 3) := by decide +kernel
theorem dX12_busiest_43 : decode cX12_busiest 43 = .ok (.goto (-34), 3) := by decide +kernel
theorem dX12_busiest_46 : decode cX12_busiest 46 = .ok (.iload_n 1, 1) := by decide +kernel
theorem dX12_busiest_47 : decode cX12_busiest 47 = .ok (.ireturn, 1) := by decide +kernel
theorem dX12_widest_0 : decode cX12_widest 0 = .ok (.aload_n 0, 1) := by decide +kernel
theorem dX12_widest_1 : decode cX12_widest 1 = .ok (.iconst 0, 1) := by decide +kernel
theorem dX12_widest_2 : decode cX12_widest 2 = .ok (.putfield 75, 3) := by decide +kernel
theorem dX12_widest_5 : decode cX12_widest 5 = .ok (.iconst 0, 1) := by decide +kernel
theorem dX12_widest_6 : decode cX12_widest 6 = .ok (.istore_n 1, 1) := by decide +kernel
theorem dX12_widest_7 : decode cX12_widest 7 = .ok (.iconst 0, 1) := by decide +kernel
theorem dX12_widest_8 : decode cX12_widest 8 = .ok (.istore_n 2, 1) := by decide +kernel
theorem dX12_widest_9 : decode cX12_widest 9 = .ok (.iload_n 2, 1) := by decide +kernel
theorem dX12_widest_10 : decode cX12_widest 10 = .ok (.aload_n 0, 1) := by decide +kernel
theorem dX12_widest_11 : decode cX12_widest 11 = .ok (.getfield 20, 3) := by decide +kernel
theorem dX12_widest_14 : decode cX12_widest 14 = .ok (.iconst 0, 1) := by decide +kernel
theorem dX12_widest_15 : decode cX12_widest 15 = .ok (.iaload, 1) := by decide +kernel
theorem dX12_widest_16 : decode cX12_widest 16 = .ok (.if_icmp .ge 38, 3) := by decide +kernel
theorem dX12_widest_54 : decode cX12_widest 54 = .ok (.iload_n 1, 1) := by decide +kernel
theorem dX12_widest_55 : decode cX12_widest 55 = .ok (.ireturn, 1) := by decide +kernel
theorem dX12_takesIn_0 : decode cX12_takesIn 0 = .ok (.aload_n 0, 1) := by decide +kernel
theorem dX12_takesIn_1 : decode cX12_takesIn 1 = .ok (.iconst 0, 1) := by decide +kernel
theorem dX12_takesIn_2 : decode cX12_takesIn 2 = .ok (.putfield 75, 3) := by decide +kernel
theorem dX12_takesIn_5 : decode cX12_takesIn 5 = .ok (.aload_n 0, 1) := by decide +kernel
theorem dX12_takesIn_6 : decode cX12_takesIn 6 = .ok (.invokevirtual 405, 3) := by decide +kernel
theorem dX12_takesIn_9 : decode cX12_takesIn 9 = .ok (.aload_n 0, 1) := by decide +kernel
theorem dX12_takesIn_10 : decode cX12_takesIn 10 = .ok (.getfield 20, 3) := by decide +kernel
theorem dX12_takesIn_13 : decode cX12_takesIn 13 = .ok (.bipush 9, 2) := by decide +kernel
theorem dX12_takesIn_15 : decode cX12_takesIn 15 = .ok (.iaload, 1) := by decide +kernel
theorem dX12_takesIn_16 : decode cX12_takesIn 16 = .ok (.istore_n 1, 1) := by decide +kernel
theorem dX12_takesIn_17 : decode cX12_takesIn 17 = .ok (.iconst 0, 1) := by decide +kernel
theorem dX12_takesIn_18 : decode cX12_takesIn 18 = .ok (.istore_n 2, 1) := by decide +kernel
theorem dX12_takesIn_19 : decode cX12_takesIn 19 = .ok (.iconst 0, 1) := by decide +kernel
theorem dX12_takesIn_20 : decode cX12_takesIn 20 = .ok (.istore_n 3, 1) := by decide +kernel
theorem dX12_takesIn_21 : decode cX12_takesIn 21 = .ok (.iload_n 2, 1) := by decide +kernel
theorem dX12_takesIn_22 : decode cX12_takesIn 22 = .ok (.sipush 200, 3) := by decide +kernel
theorem dX12_takesIn_25 : decode cX12_takesIn 25 = .ok (.if_icmp .ge 27, 3) := by decide +kernel
theorem dX12_takesIn_28 : decode cX12_takesIn 28 = .ok (.aload_n 0, 1) := by decide +kernel
theorem dX12_takesIn_29 : decode cX12_takesIn 29 = .ok (.getfield 20, 3) := by decide +kernel
theorem dX12_takesIn_32 : decode cX12_takesIn 32 = .ok (.bipush 9, 2) := by decide +kernel
theorem dX12_takesIn_34 : decode cX12_takesIn 34 = .ok (.iaload, 1) := by decide +kernel
theorem dX12_takesIn_35 : decode cX12_takesIn 35 = .ok (.iload_n 1, 1) := by decide +kernel
theorem dX12_takesIn_36 : decode cX12_takesIn 36 = .ok (.if_icmp .ne 16, 3) := by decide +kernel
theorem dX12_takesIn_39 : decode cX12_takesIn 39 = .ok (.iload_n 3, 1) := by decide +kernel
theorem dX12_takesIn_40 : decode cX12_takesIn 40 = .ok (.aload_n 0, 1) := by decide +kernel
theorem dX12_takesIn_41 : decode cX12_takesIn 41 = .ok (.invokevirtual 338, 3) := by decide +kernel
theorem dX12_takesIn_44 : decode cX12_takesIn 44 = .ok (.iadd, 1) := by decide +kernel
theorem dX12_takesIn_45 : decode cX12_takesIn 45 = .ok (.istore_n 3, 1) := by decide +kernel
theorem dX12_takesIn_46 : decode cX12_takesIn 46 = .ok (.iinc 2 1, 3) := by decide +kernel
theorem dX12_takesIn_49 : decode cX12_takesIn 49 = .ok (.goto (-28), 3) := by decide +kernel
theorem dX12_takesIn_52 : decode cX12_takesIn 52 = .ok (.aload_n 0, 1) := by decide +kernel
theorem dX12_takesIn_53 : decode cX12_takesIn 53 = .ok (.aload_n 0, 1) := by decide +kernel
theorem dX12_takesIn_54 : decode cX12_takesIn 54 = .ok (.getfield 20, 3) := by decide +kernel
theorem dX12_takesIn_57 : decode cX12_takesIn 57 = .ok (.bipush 9, 2) := by decide +kernel
theorem dX12_takesIn_59 : decode cX12_takesIn 59 = .ok (.iaload, 1) := by decide +kernel
theorem dX12_takesIn_60 : decode cX12_takesIn 60 = .ok (.iload_n 1, 1) := by decide +kernel
theorem dX12_takesIn_61 : decode cX12_takesIn 61 = .ok (.if_icmp .le 7, 3) := by decide +kernel
theorem dX12_takesIn_68 : decode cX12_takesIn 68 = .ok (.iconst (-1), 1) := by decide +kernel
theorem dX12_takesIn_69 : decode cX12_takesIn 69 = .ok (.invokevirtual 411, 3) := by decide +kernel
theorem dX12_takesIn_72 : decode cX12_takesIn 72 = .ok (.ireturn, 1) := by decide +kernel
theorem dX12_tick_0 : decode cX12_tick 0 = .ok (.iload_n 1, 1) := by decide +kernel
theorem dX12_tick_1 : decode cX12_tick 1 = .ok (.invokestatic 446, 3) := by decide +kernel
theorem dX12_tick_4 : decode cX12_tick 4 = .ok (.istore_n 2, 1) := by decide +kernel
theorem dX12_tick_5 : decode cX12_tick 5 = .ok (.aload_n 0, 1) := by decide +kernel
theorem dX12_tick_6 : decode cX12_tick 6 = .ok (.iload_n 2, 1) := by decide +kernel
theorem dX12_tick_7 : decode cX12_tick 7 = .ok (.iload_n 2, 1) := by decide +kernel
theorem dX12_tick_8 : decode cX12_tick 8 = .ok (.ifCond .eq 21, 3) := by decide +kernel
theorem dX12_tick_29 : decode cX12_tick 29 = .ok (.iconst 0, 1) := by decide +kernel
theorem dX12_tick_30 : decode cX12_tick 30 = .ok (.invokevirtual 358, 3) := by decide +kernel
theorem dX12_tick_33 : decode cX12_tick 33 = .ok (.ifCond .ne 5, 3) := by decide +kernel
theorem dX12_tick_36 : decode cX12_tick 36 = .ok (.iconst 0, 1) := by decide +kernel
theorem dX12_tick_37 : decode cX12_tick 37 = .ok (.ireturn, 1) := by decide +kernel
theorem dX12_tick_11 : decode cX12_tick 11 = .ok (.aload_n 0, 1) := by decide +kernel
theorem dX12_tick_12 : decode cX12_tick 12 = .ok (.getfield 20, 3) := by decide +kernel
theorem dX12_tick_15 : decode cX12_tick 15 = .ok (.iconst 3, 1) := by decide +kernel
theorem dX12_tick_16 : decode cX12_tick 16 = .ok (.iaload, 1) := by decide +kernel
theorem dX12_tick_17 : decode cX12_tick 17 = .ok (.iload_n 1, 1) := by decide +kernel
theorem dX12_tick_18 : decode cX12_tick 18 = .ok (.iadd, 1) := by decide +kernel
theorem dX12_tick_19 : decode cX12_tick 19 = .ok (.sipush 9999, 3) := by decide +kernel
theorem dX12_tick_22 : decode cX12_tick 22 = .ok (.if_icmp .gt 7, 3) := by decide +kernel
theorem dX12_tick_25 : decode cX12_tick 25 = .ok (.iconst 1, 1) := by decide +kernel
theorem dX12_tick_26 : decode cX12_tick 26 = .ok (.goto 4, 3) := by decide +kernel
theorem dX12_tick_38 : decode cX12_tick 38 = .ok (.aload_n 0, 1) := by decide +kernel
theorem dX12_tick_39 : decode cX12_tick 39 = .ok (.invokevirtual 247, 3) := by decide +kernel
theorem dX12_tick_42 : decode cX12_tick 42 = .ok (.aload_n 0, 1) := by decide +kernel
theorem dX12_tick_43 : decode cX12_tick 43 = .ok (.aload_n 0, 1) := by decide +kernel
theorem dX12_tick_44 : decode cX12_tick 44 = .ok (.iload_n 1, 1) := by decide +kernel
theorem dX12_tick_45 : decode cX12_tick 45 = .ok (.invokevirtual 427, 3) := by decide +kernel
theorem dX12_tick_48 : decode cX12_tick 48 = .ok (.invokevirtual 449, 3) := by decide +kernel
theorem dX12_tick_51 : decode cX12_tick 51 = .ok (.ireturn, 1) := by decide +kernel
theorem dX12_setMiss_0 : decode cX12_setMiss 0 = .ok (.aload_n 0, 1) := by decide +kernel
theorem dX12_setMiss_1 : decode cX12_setMiss 1 = .ok (.iload_n 1, 1) := by decide +kernel
theorem dX12_setMiss_2 : decode cX12_setMiss 2 = .ok (.i2l, 1) := by decide +kernel
theorem dX12_setMiss_3 : decode cX12_setMiss 3 = .ok (.lconst 1, 1) := by decide +kernel
theorem dX12_setMiss_4 : decode cX12_setMiss 4 = .ok (.ldc2_w 468, 3) := by decide +kernel
theorem dX12_setMiss_7 : decode cX12_setMiss 7 = .ok (.invokestatic 93, 3) := by decide +kernel
theorem dX12_setMiss_10 : decode cX12_setMiss 10 = .ok (.invokevirtual 85, 3) := by decide +kernel
theorem dX12_setMiss_13 : decode cX12_setMiss 13 = .ok (.ifCond .ne 5, 3) := by decide +kernel
theorem dX12_setMiss_16 : decode cX12_setMiss 16 = .ok (.iconst 0, 1) := by decide +kernel
theorem dX12_setMiss_17 : decode cX12_setMiss 17 = .ok (.ireturn, 1) := by decide +kernel
theorem dX12_setMiss_18 : decode cX12_setMiss 18 = .ok (.aload_n 0, 1) := by decide +kernel
theorem dX12_setMiss_19 : decode cX12_setMiss 19 = .ok (.invokevirtual 247, 3) := by decide +kernel
theorem dX12_setMiss_22 : decode cX12_setMiss 22 = .ok (.aload_n 0, 1) := by decide +kernel
theorem dX12_setMiss_23 : decode cX12_setMiss 23 = .ok (.aload_n 0, 1) := by decide +kernel
theorem dX12_setMiss_24 : decode cX12_setMiss 24 = .ok (.bipush 8, 2) := by decide +kernel
theorem dX12_setMiss_26 : decode cX12_setMiss 26 = .ok (.iload_n 1, 1) := by decide +kernel
theorem dX12_setMiss_27 : decode cX12_setMiss 27 = .ok (.invokevirtual 462, 3) := by decide +kernel
theorem dX12_setMiss_30 : decode cX12_setMiss 30 = .ok (.invokevirtual 449, 3) := by decide +kernel
theorem dX12_setMiss_33 : decode cX12_setMiss 33 = .ok (.ireturn, 1) := by decide +kernel
theorem dX12_report_0 : decode cX12_report 0 = .ok (.aload_n 0, 1) := by decide +kernel
theorem dX12_report_1 : decode cX12_report 1 = .ok (.iconst 0, 1) := by decide +kernel
theorem dX12_report_2 : decode cX12_report 2 = .ok (.putfield 75, 3) := by decide +kernel
theorem dX12_report_5 : decode cX12_report 5 = .ok (.aload_n 0, 1) := by decide +kernel
theorem dX12_report_6 : decode cX12_report 6 = .ok (.iconst 0, 1) := by decide +kernel
theorem dX12_report_7 : decode cX12_report 7 = .ok (.putfield 515, 3) := by decide +kernel
theorem dX12_report_10 : decode cX12_report 10 = .ok (.aload_n 0, 1) := by decide +kernel
theorem dX12_report_11 : decode cX12_report 11 = .ok (.iconst 1, 1) := by decide +kernel
theorem dX12_report_12 : decode cX12_report 12 = .ok (.putfield 524, 3) := by decide +kernel
theorem dX12_report_15 : decode cX12_report 15 = .ok (.iconst 0, 1) := by decide +kernel
theorem dX12_report_16 : decode cX12_report 16 = .ok (.istore_n 1, 1) := by decide +kernel
theorem dX12_report_17 : decode cX12_report 17 = .ok (.iload_n 1, 1) := by decide +kernel
theorem dX12_report_18 : decode cX12_report 18 = .ok (.aload_n 0, 1) := by decide +kernel
theorem dX12_report_19 : decode cX12_report 19 = .ok (.getfield 20, 3) := by decide +kernel
theorem dX12_report_22 : decode cX12_report 22 = .ok (.iconst 0, 1) := by decide +kernel
theorem dX12_report_23 : decode cX12_report 23 = .ok (.iaload, 1) := by decide +kernel
theorem dX12_report_24 : decode cX12_report 24 = .ok (.if_icmp .ge 14, 3) := by decide +kernel
theorem dX12_report_38 : decode cX12_report 38 = .ok (.aload_n 0, 1) := by decide +kernel
theorem dX12_report_39 : decode cX12_report 39 = .ok (.getfield 515, 3) := by decide +kernel
theorem dX12_report_42 : decode cX12_report 42 = .ok (.ireturn, 1) := by decide +kernel
theorem dX12_undo_0 : decode cX12_undo 0 = .ok (.aload_n 0, 1) := by decide +kernel
theorem dX12_undo_1 : decode cX12_undo 1 = .ok (.iconst 0, 1) := by decide +kernel
theorem dX12_undo_2 : decode cX12_undo 2 = .ok (.putfield 75, 3) := by decide +kernel
theorem dX12_undo_5 : decode cX12_undo 5 = .ok (.aload_n 0, 1) := by decide +kernel
theorem dX12_undo_6 : decode cX12_undo 6 = .ok (.getfield 158, 3) := by decide +kernel
theorem dX12_undo_9 : decode cX12_undo 9 = .ok (.ifCond .ne 5, 3) := by decide +kernel
theorem dX12_undo_12 : decode cX12_undo 12 = .ok (.iconst (-1), 1) := by decide +kernel
theorem dX12_undo_13 : decode cX12_undo 13 = .ok (.ireturn, 1) := by decide +kernel
theorem dX12_save_0 : decode cX12_save 0 = .ok (.aload_n 0, 1) := by decide +kernel
theorem dX12_save_1 : decode cX12_save 1 = .ok (.iconst 0, 1) := by decide +kernel
theorem dX12_save_2 : decode cX12_save 2 = .ok (.putfield 75, 3) := by decide +kernel
theorem dX12_save_5 : decode cX12_save 5 = .ok (.aload_n 0, 1) := by decide +kernel
theorem dX12_save_6 : decode cX12_save 6 = .ok (.getfield 20, 3) := by decide +kernel
theorem dX12_save_9 : decode cX12_save 9 = .ok (.iconst 0, 1) := by decide +kernel
theorem dX12_save_10 : decode cX12_save 10 = .ok (.aload_n 0, 1) := by decide +kernel
theorem dX12_save_11 : decode cX12_save 11 = .ok (.getfield 23, 3) := by decide +kernel
theorem dX12_save_14 : decode cX12_save 14 = .ok (.iconst 0, 1) := by decide +kernel
theorem dX12_save_15 : decode cX12_save 15 = .ok (.invokestatic 154, 3) := by decide +kernel
theorem dX12_save_18 : decode cX12_save 18 = .ok (.aload_n 0, 1) := by decide +kernel
theorem dX12_save_19 : decode cX12_save 19 = .ok (.getfield 35, 3) := by decide +kernel
theorem dX12_save_22 : decode cX12_save 22 = .ok (.aload_n 0, 1) := by decide +kernel
theorem dX12_save_23 : decode cX12_save 23 = .ok (.getfield 39, 3) := by decide +kernel
theorem dX12_save_26 : decode cX12_save 26 = .ok (.invokestatic 164, 3) := by decide +kernel
theorem dX12_save_29 : decode cX12_save 29 = .ok (.aload_n 0, 1) := by decide +kernel
theorem dX12_save_30 : decode cX12_save 30 = .ok (.iconst 1, 1) := by decide +kernel
theorem dX12_save_31 : decode cX12_save 31 = .ok (.putfield 168, 3) := by decide +kernel
theorem dX12_save_34 : decode cX12_save 34 = .ok (.aload_n 0, 1) := by decide +kernel
theorem dX12_save_35 : decode cX12_save 35 = .ok (.getfield 20, 3) := by decide +kernel
theorem dX12_save_38 : decode cX12_save 38 = .ok (.iconst 3, 1) := by decide +kernel
theorem dX12_save_39 : decode cX12_save 39 = .ok (.iaload, 1) := by decide +kernel
theorem dX12_save_40 : decode cX12_save 40 = .ok (.ireturn, 1) := by decide +kernel
theorem dX12_restore_0 : decode cX12_restore 0 = .ok (.aload_n 0, 1) := by decide +kernel
theorem dX12_restore_1 : decode cX12_restore 1 = .ok (.aload_n 0, 1) := by decide +kernel
theorem dX12_restore_2 : decode cX12_restore 2 = .ok (.getfield 168, 3) := by decide +kernel
theorem dX12_restore_5 : decode cX12_restore 5 = .ok (.invokevirtual 85, 3) := by decide +kernel
theorem dX12_restore_8 : decode cX12_restore 8 = .ok (.ifCond .ne 5, 3) := by decide +kernel
theorem dX12_restore_11 : decode cX12_restore 11 = .ok (.iconst 0, 1) := by decide +kernel
theorem dX12_restore_12 : decode cX12_restore 12 = .ok (.ireturn, 1) := by decide +kernel
