theorem dX11_requireNode_0 : decode cX11_requireNode 0 = .ok (.iload_n 1, 1) := by decide +kernel
theorem dX11_requireNode_1 : decode cX11_requireNode 1 = .ok (.ifCond .lt 14, 3) := by decide +kernel
theorem dX11_requireNode_15 : decode cX11_requireNode 15 = .ok (.new 141, 3) := by decide +kernel
theorem dX11_requireNode_18 : decode cX11_requireNode 18 = .ok (.dup, 1) := by decide +kernel
theorem dX11_requireNode_19 : decode cX11_requireNode 19 = .ok (.ldc_w 338, 3) := by decide +kernel
theorem dX11_requireNode_22 : decode cX11_requireNode 22 = .ok (.invokespecial 145, 3) := by decide +kernel
theorem dX11_requireNode_25 : decode cX11_requireNode 25 = .ok (.athrow, 1) := by decide +kernel
theorem dX11_requireNode_4 : decode cX11_requireNode 4 = .ok (.iload_n 1, 1) := by decide +kernel
theorem dX11_requireNode_5 : decode cX11_requireNode 5 = .ok (.aload_n 0, 1) := by decide +kernel
theorem dX11_requireNode_6 : decode cX11_requireNode 6 = .ok (.getfield 54, 3) := by decide +kernel
theorem dX11_requireNode_9 : decode cX11_requireNode 9 = .ok (.getfield 101, 3) := by decide +kernel
theorem dX11_requireNode_12 : decode cX11_requireNode 12 = .ok (.if_icmp .lt 14, 3) := by decide +kernel
theorem dX11_requireNode_26 : decode cX11_requireNode 26 = .ok (.return_, 1) := by decide +kernel
theorem dX11_requireMessage_0 : decode cX11_requireMessage 0 = .ok (.iload_n 1, 1) := by decide +kernel
theorem dX11_requireMessage_1 : decode cX11_requireMessage 1 = .ok (.ifCond .lt 14, 3) := by decide +kernel
theorem dX11_requireMessage_15 : decode cX11_requireMessage 15 = .ok (.new 141, 3) := by decide +kernel
theorem dX11_requireMessage_18 : decode cX11_requireMessage 18 = .ok (.dup, 1) := by decide +kernel
theorem dX11_requireMessage_19 : decode cX11_requireMessage 19 = .ok (.ldc_w 343, 3) := by decide +kernel
theorem dX11_requireMessage_22 : decode cX11_requireMessage 22 = .ok (.invokespecial 145, 3) := by decide +kernel
theorem dX11_requireMessage_25 : decode cX11_requireMessage 25 = .ok (.athrow, 1) := by decide +kernel
theorem dX11_requireMessage_4 : decode cX11_requireMessage 4 = .ok (.iload_n 1, 1) := by decide +kernel
theorem dX11_requireMessage_5 : decode cX11_requireMessage 5 = .ok (.aload_n 0, 1) := by decide +kernel
theorem dX11_requireMessage_6 : decode cX11_requireMessage 6 = .ok (.getfield 54, 3) := by decide +kernel
theorem dX11_requireMessage_9 : decode cX11_requireMessage 9 = .ok (.getfield 340, 3) := by decide +kernel
theorem dX11_requireMessage_12 : decode cX11_requireMessage 12 = .ok (.if_icmp .lt 14, 3) := by decide +kernel
theorem dX11_requireMessage_26 : decode cX11_requireMessage 26 = .ok (.return_, 1) := by decide +kernel
theorem dX11_requireDay_0 : decode cX11_requireDay 0 = .ok (.aload_n 0, 1) := by decide +kernel
theorem dX11_requireDay_1 : decode cX11_requireDay 1 = .ok (.getfield 54, 3) := by decide +kernel
theorem dX11_requireDay_4 : decode cX11_requireDay 4 = .ok (.iload_n 1, 1) := by decide +kernel
theorem dX11_requireDay_5 : decode cX11_requireDay 5 = .ok (.invokevirtual 345, 3) := by decide +kernel
theorem dX11_requireDay_8 : decode cX11_requireDay 8 = .ok (.ifCond .ne 14, 3) := by decide +kernel
theorem dX11_requireDay_22 : decode cX11_requireDay 22 = .ok (.return_, 1) := by decide +kernel
theorem dX11_requireDay_11 : decode cX11_requireDay 11 = .ok (.new 83, 3) := by decide +kernel
theorem dX11_requireDay_14 : decode cX11_requireDay 14 = .ok (.dup, 1) := by decide +kernel
theorem dX11_requireDay_15 : decode cX11_requireDay 15 = .ok (.ldc_w 348, 3) := by decide +kernel
theorem dX11_requireDay_18 : decode cX11_requireDay 18 = .ok (.invokespecial 87, 3) := by decide +kernel
theorem dX11_requireDay_21 : decode cX11_requireDay 21 = .ok (.athrow, 1) := by decide +kernel
theorem dX11_requireDifferent_0 : decode cX11_requireDifferent 0 = .ok (.iload_n 1, 1) := by decide +kernel
theorem dX11_requireDifferent_1 : decode cX11_requireDifferent 1 = .ok (.iload_n 2, 1) := by decide +kernel
theorem dX11_requireDifferent_2 : decode cX11_requireDifferent 2 = .ok (.if_icmp .ne 14, 3) := by decide +kernel
theorem dX11_requireDifferent_16 : decode cX11_requireDifferent 16 = .ok (.return_, 1) := by decide +kernel
theorem dX11_requireDifferent_5 : decode cX11_requireDifferent 5 = .ok (.new 83, 3) := by decide +kernel
theorem dX11_requireDifferent_8 : decode cX11_requireDifferent 8 = .ok (.dup, 1) := by decide +kernel
theorem dX11_requireDifferent_9 : decode cX11_requireDifferent 9 = .ok (.ldc_w 350, 3) := by decide +kernel
theorem dX11_requireDifferent_12 : decode cX11_requireDifferent 12 = .ok (.invokespecial 87, 3) := by decide +kernel
theorem dX11_requireDifferent_15 : decode cX11_requireDifferent 15 = .ok (.athrow, 1) := by decide +kernel
theorem dX11_feed_0 : decode cX11_feed 0 = .ok (.aload_n 0, 1) := by decide +kernel
theorem dX11_feed_1 : decode cX11_feed 1 = .ok (.getfield 10, 3) := by decide +kernel
theorem dX11_feed_4 : decode cX11_feed 4 = .ok (.invokevirtual 64, 3) := by decide +kernel
theorem dX11_feed_7 : decode cX11_feed 7 = .ok (.ifCond .ne 13, 3) := by decide +kernel
theorem dX11_feed_20 : decode cX11_feed 20 = .ok (.aload_n 0, 1) := by decide +kernel
theorem dX11_feed_21 : decode cX11_feed 21 = .ok (.getfield 10, 3) := by decide +kernel
theorem dX11_feed_24 : decode cX11_feed 24 = .ok (.iload_n 1, 1) := by decide +kernel
theorem dX11_feed_25 : decode cX11_feed 25 = .ok (.invokevirtual 75, 3) := by decide +kernel
theorem dX11_feed_28 : decode cX11_feed 28 = .ok (.aload_n 0, 1) := by decide +kernel
theorem dX11_feed_29 : decode cX11_feed 29 = .ok (.getfield 10, 3) := by decide +kernel
theorem dX11_feed_32 : decode cX11_feed 32 = .ok (.iload_n 2, 1) := by decide +kernel
theorem dX11_feed_33 : decode cX11_feed 33 = .ok (.invokevirtual 75, 3) := by decide +kernel
theorem dX11_feed_36 : decode cX11_feed 36 = .ok (.aload_n 0, 1) := by decide +kernel
theorem dX11_feed_37 : decode cX11_feed 37 = .ok (.getfield 10, 3) := by decide +kernel
theorem dX11_feed_40 : decode cX11_feed 40 = .ok (.iload_n 3, 1) := by decide +kernel
theorem dX11_feed_41 : decode cX11_feed 41 = .ok (.invokevirtual 75, 3) := by decide +kernel
theorem dX11_feed_44 : decode cX11_feed 44 = .ok (.aload_n 0, 1) := by decide +kernel
theorem dX11_feed_45 : decode cX11_feed 45 = .ok (.getfield 10, 3) := by decide +kernel
theorem dX11_feed_48 : decode cX11_feed 48 = .ok (.iload 4, 2) := by decide +kernel
theorem dX11_feed_50 : decode cX11_feed 50 = .ok (.invokevirtual 75, 3) := by decide +kernel
theorem dX11_feed_53 : decode cX11_feed 53 = .ok (.aload_n 0, 1) := by decide +kernel
theorem dX11_feed_54 : decode cX11_feed 54 = .ok (.getfield 10, 3) := by decide +kernel
theorem dX11_feed_57 : decode cX11_feed 57 = .ok (.iload 5, 2) := by decide +kernel
theorem dX11_feed_59 : decode cX11_feed 59 = .ok (.invokevirtual 75, 3) := by decide +kernel
theorem dX11_feed_62 : decode cX11_feed 62 = .ok (.aload_n 0, 1) := by decide +kernel
theorem dX11_feed_63 : decode cX11_feed 63 = .ok (.getfield 10, 3) := by decide +kernel
theorem dX11_feed_66 : decode cX11_feed 66 = .ok (.getfield 79, 3) := by decide +kernel
theorem dX11_feed_69 : decode cX11_feed 69 = .ok (.ireturn, 1) := by decide +kernel
theorem dX11_feed_10 : decode cX11_feed 10 = .ok (.new 68, 3) := by decide +kernel
theorem dX11_feed_13 : decode cX11_feed 13 = .ok (.dup, 1) := by decide +kernel
theorem dX11_feed_14 : decode cX11_feed 14 = .ok (.ldc 70, 2) := by decide +kernel
theorem dX11_feed_16 : decode cX11_feed 16 = .ok (.invokespecial 72, 3) := by decide +kernel
theorem dX11_feed_19 : decode cX11_feed 19 = .ok (.athrow, 1) := by decide +kernel
theorem dX11_truncate_0 : decode cX11_truncate 0 = .ok (.iload_n 1, 1) := by decide +kernel
theorem dX11_truncate_1 : decode cX11_truncate 1 = .ok (.ifCond .lt 14, 3) := by decide +kernel
theorem dX11_truncate_15 : decode cX11_truncate 15 = .ok (.new 83, 3) := by decide +kernel
theorem dX11_truncate_18 : decode cX11_truncate 18 = .ok (.dup, 1) := by decide +kernel
theorem dX11_truncate_19 : decode cX11_truncate 19 = .ok (.ldc 85, 2) := by decide +kernel
theorem dX11_truncate_21 : decode cX11_truncate 21 = .ok (.invokespecial 87, 3) := by decide +kernel
theorem dX11_truncate_24 : decode cX11_truncate 24 = .ok (.athrow, 1) := by decide +kernel
theorem dX11_truncate_4 : decode cX11_truncate 4 = .ok (.iload_n 1, 1) := by decide +kernel
theorem dX11_truncate_5 : decode cX11_truncate 5 = .ok (.aload_n 0, 1) := by decide +kernel
theorem dX11_truncate_6 : decode cX11_truncate 6 = .ok (.getfield 10, 3) := by decide +kernel
theorem dX11_truncate_9 : decode cX11_truncate 9 = .ok (.getfield 79, 3) := by decide +kernel
theorem dX11_truncate_12 : decode cX11_truncate 12 = .ok (.if_icmp .le 13, 3) := by decide +kernel
theorem dX11_truncate_25 : decode cX11_truncate 25 = .ok (.aload_n 0, 1) := by decide +kernel
theorem dX11_truncate_26 : decode cX11_truncate 26 = .ok (.getfield 10, 3) := by decide +kernel
theorem dX11_truncate_29 : decode cX11_truncate 29 = .ok (.iload_n 1, 1) := by decide +kernel
theorem dX11_truncate_30 : decode cX11_truncate 30 = .ok (.putfield 79, 3) := by decide +kernel
theorem dX11_truncate_33 : decode cX11_truncate 33 = .ok (.iload_n 1, 1) := by decide +kernel
theorem dX11_truncate_34 : decode cX11_truncate 34 = .ok (.ireturn, 1) := by decide +kernel
theorem dX11_readText_0 : decode cX11_readText 0 = .ok (.aload_n 0, 1) := by decide +kernel
theorem dX11_readText_1 : decode cX11_readText 1 = .ok (.getfield 19, 3) := by decide +kernel
theorem dX11_readText_4 : decode cX11_readText 4 = .ok (.aload_n 0, 1) := by decide +kernel
theorem dX11_readText_5 : decode cX11_readText 5 = .ok (.getfield 10, 3) := by decide +kernel
theorem dX11_readText_8 : decode cX11_readText 8 = .ok (.aload_n 0, 1) := by decide +kernel
theorem dX11_readText_9 : decode cX11_readText 9 = .ok (.getfield 58, 3) := by decide +kernel
theorem dX11_readText_12 : decode cX11_readText 12 = .ok (.invokevirtual 88, 3) := by decide +kernel
theorem dX11_readText_15 : decode cX11_readText 15 = .ok (.istore_n 1, 1) := by decide +kernel
theorem dX11_readText_16 : decode cX11_readText 16 = .ok (.aload_n 0, 1) := by decide +kernel
theorem dX11_readText_17 : decode cX11_readText 17 = .ok (.getfield 10, 3) := by decide +kernel
theorem dX11_readText_20 : decode cX11_readText 20 = .ok (.iconst 0, 1) := by decide +kernel
theorem dX11_readText_21 : decode cX11_readText 21 = .ok (.putfield 79, 3) := by decide +kernel
theorem dX11_readText_24 : decode cX11_readText 24 = .ok (.iload_n 1, 1) := by decide +kernel
theorem dX11_readText_25 : decode cX11_readText 25 = .ok (.ifCond .ne 13, 3) := by decide +kernel
theorem dX11_readText_38 : decode cX11_readText 38 = .ok (.aload_n 0, 1) := by decide +kernel
theorem dX11_readText_39 : decode cX11_readText 39 = .ok (.getfield 54, 3) := by decide +kernel
theorem dX11_readText_42 : decode cX11_readText 42 = .ok (.aload_n 0, 1) := by decide +kernel
theorem dX11_readText_43 : decode cX11_readText 43 = .ok (.getfield 58, 3) := by decide +kernel
theorem dX11_readText_46 : decode cX11_readText 46 = .ok (.invokevirtual 94, 3) := by decide +kernel
theorem dX11_readText_49 : decode cX11_readText 49 = .ok (.aload_n 0, 1) := by decide +kernel
theorem dX11_readText_50 : decode cX11_readText 50 = .ok (.getfield 40, 3) := by decide +kernel
theorem dX11_readText_53 : decode cX11_readText 53 = .ok (.invokevirtual 98, 3) := by decide +kernel
theorem dX11_readText_56 : decode cX11_readText 56 = .ok (.aload_n 0, 1) := by decide +kernel
theorem dX11_readText_57 : decode cX11_readText 57 = .ok (.getfield 54, 3) := by decide +kernel
theorem dX11_readText_60 : decode cX11_readText 60 = .ok (.getfield 101, 3) := by decide +kernel
theorem dX11_readText_63 : decode cX11_readText 63 = .ok (.ireturn, 1) := by decide +kernel
theorem dX11_readText_28 : decode cX11_readText 28 = .ok (.new 83, 3) := by decide +kernel
theorem dX11_readText_31 : decode cX11_readText 31 = .ok (.dup, 1) := by decide +kernel
theorem dX11_readText_32 : decode cX11_readText 32 = .ok (.ldc 92, 2) := by decide +kernel
theorem dX11_readText_34 : decode cX11_readText 34 = .ok (.invokespecial 87, 3) := by decide +kernel
theorem dX11_readText_37 : decode cX11_readText 37 = .ok (.athrow, 1) := by decide +kernel
theorem dX11_runScript_0 : decode cX11_runScript 0 = .ok (.aload_n 0, 1) := by decide +kernel
theorem dX11_runScript_1 : decode cX11_runScript 1 = .ok (.getfield 26, 3) := by decide +kernel
theorem dX11_runScript_4 : decode cX11_runScript 4 = .ok (.aload_n 0, 1) := by decide +kernel
theorem dX11_runScript_5 : decode cX11_runScript 5 = .ok (.getfield 10, 3) := by decide +kernel
theorem dX11_runScript_8 : decode cX11_runScript 8 = .ok (.aload_n 0, 1) := by decide +kernel
theorem dX11_runScript_9 : decode cX11_runScript 9 = .ok (.getfield 54, 3) := by decide +kernel
theorem dX11_runScript_12 : decode cX11_runScript 12 = .ok (.invokevirtual 104, 3) := by decide +kernel
theorem dX11_runScript_15 : decode cX11_runScript 15 = .ok (.istore_n 1, 1) := by decide +kernel
theorem dX11_runScript_16 : decode cX11_runScript 16 = .ok (.aload_n 0, 1) := by decide +kernel
theorem dX11_runScript_17 : decode cX11_runScript 17 = .ok (.getfield 10, 3) := by decide +kernel
theorem dX11_runScript_20 : decode cX11_runScript 20 = .ok (.iconst 0, 1) := by decide +kernel
theorem dX11_runScript_21 : decode cX11_runScript 21 = .ok (.putfield 79, 3) := by decide +kernel
theorem dX11_runScript_24 : decode cX11_runScript 24 = .ok (.iload_n 1, 1) := by decide +kernel
theorem dX11_runScript_25 : decode cX11_runScript 25 = .ok (.ifCond .ne 13, 3) := by decide +kernel
theorem dX11_runScript_38 : decode cX11_runScript 38 = .ok (.aload_n 0, 1) := by decide +kernel
theorem dX11_runScript_39 : decode cX11_runScript 39 = .ok (.getfield 40, 3) := by decide +kernel
theorem dX11_runScript_42 : decode cX11_runScript 42 = .ok (.aload_n 0, 1) := by decide +kernel
theorem dX11_runScript_43 : decode cX11_runScript 43 = .ok (.getfield 54, 3) := by decide +kernel
theorem dX11_runScript_46 : decode cX11_runScript 46 = .ok (.invokevirtual 107, 3) := by decide +kernel
theorem dX11_runScript_49 : decode cX11_runScript 49 = .ok (.aload_n 0, 1) := by decide +kernel
theorem dX11_runScript_50 : decode cX11_runScript 50 = .ok (.getfield 26, 3) := by decide +kernel
theorem dX11_runScript_53 : decode cX11_runScript 53 = .ok (.aload_n 0, 1) := by decide +kernel
theorem dX11_runScript_54 : decode cX11_runScript 54 = .ok (.getfield 54, 3) := by decide +kernel
theorem dX11_runScript_57 : decode cX11_runScript 57 = .ok (.invokevirtual 110, 3) := by decide +kernel
theorem dX11_runScript_60 : decode cX11_runScript 60 = .ok (.ireturn, 1) := by decide +kernel
theorem dX11_runScript_28 : decode cX11_runScript 28 = .ok (.new 83, 3) := by decide +kernel
theorem dX11_runScript_31 : decode cX11_runScript 31 = .ok (.dup, 1) := by decide +kernel
theorem dX11_runScript_32 : decode cX11_runScript 32 = .ok (.ldc 105, 2) := by decide +kernel
theorem dX11_runScript_34 : decode cX11_runScript 34 = .ok (.invokespecial 87, 3) := by decide +kernel
theorem dX11_runScript_37 : decode cX11_runScript 37 = .ok (.athrow, 1) := by decide +kernel
theorem dX11_errorCode_0 : decode cX11_errorCode 0 = .ok (.aload_n 0, 1) := by decide +kernel
theorem dX11_errorCode_1 : decode cX11_errorCode 1 = .ok (.getfield 10, 3) := by decide +kernel
theorem dX11_errorCode_4 : decode cX11_errorCode 4 = .ok (.getfield 114, 3) := by decide +kernel
theorem dX11_errorCode_7 : decode cX11_errorCode 7 = .ok (.ireturn, 1) := by decide +kernel
theorem dX11_errorPosition_0 : decode cX11_errorPosition 0 = .ok (.aload_n 0, 1) := by decide +kernel
theorem dX11_errorPosition_1 : decode cX11_errorPosition 1 = .ok (.getfield 10, 3) := by decide +kernel
theorem dX11_errorPosition_4 : decode cX11_errorPosition 4 = .ok (.getfield 117, 3) := by decide +kernel
theorem dX11_errorPosition_7 : decode cX11_errorPosition 7 = .ok (.ireturn, 1) := by decide +kernel
theorem dX11_setting_0 : decode cX11_setting 0 = .ok (.iload_n 1, 1) := by decide +kernel
theorem dX11_setting_1 : decode cX11_setting 1 = .ok (.ifCond .lt 9, 3) := by decide +kernel
theorem dX11_setting_10 : decode cX11_setting 10 = .ok (.new 83, 3) := by decide +kernel
theorem dX11_setting_13 : decode cX11_setting 13 = .ok (.dup, 1) := by decide +kernel
theorem dX11_setting_14 : decode cX11_setting 14 = .ok (.ldc 120, 2) := by decide +kernel
theorem dX11_setting_16 : decode cX11_setting 16 = .ok (.invokespecial 87, 3) := by decide +kernel
theorem dX11_setting_19 : decode cX11_setting 19 = .ok (.athrow, 1) := by decide +kernel
theorem dX11_setting_4 : decode cX11_setting 4 = .ok (.iload_n 1, 1) := by decide +kernel
theorem dX11_setting_5 : decode cX11_setting 5 = .ok (.bipush 11, 2) := by decide +kernel
theorem dX11_setting_7 : decode cX11_setting 7 = .ok (.if_icmp .lt 13, 3) := by decide +kernel
theorem dX11_setting_20 : decode cX11_setting 20 = .ok (.iload_n 1, 1) := by decide +kernel
theorem dX11_setting_21 : decode cX11_setting 21 = .ok (.bipush 10, 2) := by decide +kernel
theorem dX11_setting_23 : decode cX11_setting 23 = .ok (.if_icmp .ne 13, 3) := by decide +kernel
theorem dX11_setting_36 : decode cX11_setting 36 = .ok (.aload_n 0, 1) := by decide +kernel
theorem dX11_setting_37 : decode cX11_setting 37 = .ok (.getfield 54, 3) := by decide +kernel
theorem dX11_setting_40 : decode cX11_setting 40 = .ok (.iload_n 1, 1) := by decide +kernel
theorem dX11_setting_41 : decode cX11_setting 41 = .ok (.invokevirtual 125, 3) := by decide +kernel
theorem dX11_setting_44 : decode cX11_setting 44 = .ok (.ireturn, 1) := by decide +kernel
theorem dX11_setting_26 : decode cX11_setting 26 = .ok (.aload_n 0, 1) := by decide +kernel
theorem dX11_setting_27 : decode cX11_setting 27 = .ok (.getfield 40, 3) := by decide +kernel
theorem dX11_setting_30 : decode cX11_setting 30 = .ok (.getfield 122, 3) := by decide +kernel
theorem dX11_setting_33 : decode cX11_setting 33 = .ok (.goto 11, 3) := by decide +kernel
theorem dX11_node_0 : decode cX11_node 0 = .ok (.aload_n 0, 1) := by decide +kernel
theorem dX11_node_1 : decode cX11_node 1 = .ok (.iload_n 1, 1) := by decide +kernel
theorem dX11_node_2 : decode cX11_node 2 = .ok (.invokevirtual 129, 3) := by decide +kernel
theorem dX11_node_5 : decode cX11_node 5 = .ok (.iload_n 2, 1) := by decide +kernel
theorem dX11_node_6 : decode cX11_node 6 = .ok (.ifCond .lt 9, 3) := by decide +kernel
theorem dX11_node_15 : decode cX11_node 15 = .ok (.new 83, 3) := by decide +kernel
theorem dX11_node_18 : decode cX11_node 18 = .ok (.dup, 1) := by decide +kernel
theorem dX11_node_19 : decode cX11_node 19 = .ok (.ldc 132, 2) := by decide +kernel
theorem dX11_node_21 : decode cX11_node 21 = .ok (.invokespecial 87, 3) := by decide +kernel
theorem dX11_node_24 : decode cX11_node 24 = .ok (.athrow, 1) := by decide +kernel
theorem dX11_node_9 : decode cX11_node 9 = .ok (.iload_n 2, 1) := by decide +kernel
theorem dX11_node_10 : decode cX11_node 10 = .ok (.bipush 11, 2) := by decide +kernel
theorem dX11_node_12 : decode cX11_node 12 = .ok (.if_icmp .lt 13, 3) := by decide +kernel
theorem dX11_node_25 : decode cX11_node 25 = .ok (.aload_n 0, 1) := by decide +kernel
theorem dX11_node_26 : decode cX11_node 26 = .ok (.getfield 54, 3) := by decide +kernel
theorem dX11_node_29 : decode cX11_node 29 = .ok (.iload_n 1, 1) := by decide +kernel
theorem dX11_node_30 : decode cX11_node 30 = .ok (.iload_n 2, 1) := by decide +kernel
theorem dX11_node_31 : decode cX11_node 31 = .ok (.invokevirtual 134, 3) := by decide +kernel
theorem dX11_node_34 : decode cX11_node 34 = .ok (.ireturn, 1) := by decide +kernel
theorem dX11_link_0 : decode cX11_link 0 = .ok (.iload_n 1, 1) := by decide +kernel
theorem dX11_link_1 : decode cX11_link 1 = .ok (.ifCond .lt 14, 3) := by decide +kernel
theorem dX11_link_15 : decode cX11_link 15 = .ok (.new 141, 3) := by decide +kernel
theorem dX11_link_18 : decode cX11_link 18 = .ok (.dup, 1) := by decide +kernel
theorem dX11_link_19 : decode cX11_link 19 = .ok (.ldc 143, 2) := by decide +kernel
theorem dX11_link_21 : decode cX11_link 21 = .ok (.invokespecial 145, 3) := by decide +kernel
theorem dX11_link_24 : decode cX11_link 24 = .ok (.athrow, 1) := by decide +kernel
theorem dX11_link_4 : decode cX11_link 4 = .ok (.iload_n 1, 1) := by decide +kernel
theorem dX11_link_5 : decode cX11_link 5 = .ok (.aload_n 0, 1) := by decide +kernel
theorem dX11_link_6 : decode cX11_link 6 = .ok (.getfield 54, 3) := by decide +kernel
theorem dX11_link_9 : decode cX11_link 9 = .ok (.getfield 138, 3) := by decide +kernel
theorem dX11_link_12 : decode cX11_link 12 = .ok (.if_icmp .lt 13, 3) := by decide +kernel
theorem dX11_link_25 : decode cX11_link 25 = .ok (.iload_n 2, 1) := by decide +kernel
theorem dX11_link_26 : decode cX11_link 26 = .ok (.ifCond .lt 8, 3) := by decide +kernel
theorem dX11_link_34 : decode cX11_link 34 = .ok (.new 83, 3) := by decide +kernel
theorem dX11_link_37 : decode cX11_link 37 = .ok (.dup, 1) := by decide +kernel
theorem dX11_link_38 : decode cX11_link 38 = .ok (.ldc 146, 2) := by decide +kernel
theorem dX11_link_40 : decode cX11_link 40 = .ok (.invokespecial 87, 3) := by decide +kernel
theorem dX11_link_43 : decode cX11_link 43 = .ok (.athrow, 1) := by decide +kernel
theorem dX11_link_29 : decode cX11_link 29 = .ok (.iload_n 2, 1) := by decide +kernel
theorem dX11_link_30 : decode cX11_link 30 = .ok (.iconst 5, 1) := by decide +kernel
theorem dX11_link_31 : decode cX11_link 31 = .ok (.if_icmp .lt 13, 3) := by decide +kernel
theorem dX11_link_44 : decode cX11_link 44 = .ok (.aload_n 0, 1) := by decide +kernel
theorem dX11_link_45 : decode cX11_link 45 = .ok (.getfield 54, 3) := by decide +kernel
theorem dX11_link_48 : decode cX11_link 48 = .ok (.iload_n 1, 1) := by decide +kernel
theorem dX11_link_49 : decode cX11_link 49 = .ok (.invokevirtual 148, 3) := by decide +kernel
theorem dX11_link_52 : decode cX11_link 52 = .ok (.iload_n 2, 1) := by decide +kernel
theorem dX11_link_53 : decode cX11_link 53 = .ok (.invokevirtual 152, 3) := by decide +kernel
theorem dX11_link_56 : decode cX11_link 56 = .ok (.ireturn, 1) := by decide +kernel
theorem dX11_message_0 : decode cX11_message 0 = .ok (.aload_n 0, 1) := by decide +kernel
theorem dX11_message_1 : decode cX11_message 1 = .ok (.iload_n 1, 1) := by decide +kernel
theorem dX11_message_2 : decode cX11_message 2 = .ok (.invokevirtual 155, 3) := by decide +kernel
theorem dX11_message_5 : decode cX11_message 5 = .ok (.iload_n 2, 1) := by decide +kernel
theorem dX11_message_6 : decode cX11_message 6 = .ok (.ifCond .lt 9, 3) := by decide +kernel
theorem dX11_message_15 : decode cX11_message 15 = .ok (.new 83, 3) := by decide +kernel
theorem dX11_message_18 : decode cX11_message 18 = .ok (.dup, 1) := by decide +kernel
theorem dX11_message_19 : decode cX11_message 19 = .ok (.ldc 158, 2) := by decide +kernel
theorem dX11_message_21 : decode cX11_message 21 = .ok (.invokespecial 87, 3) := by decide +kernel
theorem dX11_message_24 : decode cX11_message 24 = .ok (.athrow, 1) := by decide +kernel
theorem dX11_message_9 : decode cX11_message 9 = .ok (.iload_n 2, 1) := by decide +kernel
theorem dX11_message_10 : decode cX11_message 10 = .ok (.bipush 8, 2) := by decide +kernel
theorem dX11_message_12 : decode cX11_message 12 = .ok (.if_icmp .lt 13, 3) := by decide +kernel
theorem dX11_message_25 : decode cX11_message 25 = .ok (.aload_n 0, 1) := by decide +kernel
theorem dX11_message_26 : decode cX11_message 26 = .ok (.getfield 54, 3) := by decide +kernel
theorem dX11_message_29 : decode cX11_message 29 = .ok (.iload_n 1, 1) := by decide +kernel
theorem dX11_message_30 : decode cX11_message 30 = .ok (.invokevirtual 160, 3) := by decide +kernel
theorem dX11_message_33 : decode cX11_message 33 = .ok (.iload_n 2, 1) := by decide +kernel
theorem dX11_message_34 : decode cX11_message 34 = .ok (.invokevirtual 164, 3) := by decide +kernel
theorem dX11_message_37 : decode cX11_message 37 = .ok (.ireturn, 1) := by decide +kernel
theorem dX11_letter_0 : decode cX11_letter 0 = .ok (.aload_n 0, 1) := by decide +kernel
theorem dX11_letter_1 : decode cX11_letter 1 = .ok (.iload_n 1, 1) := by decide +kernel
theorem dX11_letter_2 : decode cX11_letter 2 = .ok (.invokevirtual 129, 3) := by decide +kernel
theorem dX11_letter_5 : decode cX11_letter 5 = .ok (.aload_n 0, 1) := by decide +kernel
theorem dX11_letter_6 : decode cX11_letter 6 = .ok (.getfield 54, 3) := by decide +kernel
theorem dX11_letter_9 : decode cX11_letter 9 = .ok (.iload_n 1, 1) := by decide +kernel
theorem dX11_letter_10 : decode cX11_letter 10 = .ok (.invokevirtual 167, 3) := by decide +kernel
theorem dX11_letter_13 : decode cX11_letter 13 = .ok (.getfield 171, 3) := by decide +kernel
theorem dX11_letter_16 : decode cX11_letter 16 = .ok (.iload_n 2, 1) := by decide +kernel
theorem dX11_letter_17 : decode cX11_letter 17 = .ok (.invokestatic 177, 3) := by decide +kernel
theorem dX11_letter_20 : decode cX11_letter 20 = .ok (.ireturn, 1) := by decide +kernel
theorem dX11_inTable_0 : decode cX11_inTable 0 = .ok (.aload_n 0, 1) := by decide +kernel
theorem dX11_inTable_1 : decode cX11_inTable 1 = .ok (.iload_n 1, 1) := by decide +kernel
theorem dX11_inTable_2 : decode cX11_inTable 2 = .ok (.invokevirtual 129, 3) := by decide +kernel
theorem dX11_inTable_5 : decode cX11_inTable 5 = .ok (.aload_n 0, 1) := by decide +kernel
theorem dX11_inTable_6 : decode cX11_inTable 6 = .ok (.iload_n 2, 1) := by decide +kernel
theorem dX11_inTable_7 : decode cX11_inTable 7 = .ok (.invokevirtual 181, 3) := by decide +kernel
theorem dX11_inTable_10 : decode cX11_inTable 10 = .ok (.aload_n 0, 1) := by decide +kernel
theorem dX11_inTable_11 : decode cX11_inTable 11 = .ok (.getfield 54, 3) := by decide +kernel
theorem dX11_inTable_14 : decode cX11_inTable 14 = .ok (.iload_n 1, 1) := by decide +kernel
theorem dX11_inTable_15 : decode cX11_inTable 15 = .ok (.invokevirtual 184, 3) := by decide +kernel
theorem dX11_inTable_18 : decode cX11_inTable 18 = .ok (.iload_n 2, 1) := by decide +kernel
theorem dX11_inTable_19 : decode cX11_inTable 19 = .ok (.invokestatic 188, 3) := by decide +kernel
theorem dX11_inTable_22 : decode cX11_inTable 22 = .ok (.ireturn, 1) := by decide +kernel
theorem dX11_awakeIn_0 : decode cX11_awakeIn 0 = .ok (.iload_n 1, 1) := by decide +kernel
theorem dX11_awakeIn_1 : decode cX11_awakeIn 1 = .ok (.ifCond .lt 9, 3) := by decide +kernel
theorem dX11_awakeIn_10 : decode cX11_awakeIn 10 = .ok (.new 83, 3) := by decide +kernel
theorem dX11_awakeIn_13 : decode cX11_awakeIn 13 = .ok (.dup, 1) := by decide +kernel
theorem dX11_awakeIn_14 : decode cX11_awakeIn 14 = .ok (.ldc 205, 2) := by decide +kernel
theorem dX11_awakeIn_16 : decode cX11_awakeIn 16 = .ok (.invokespecial 87, 3) := by decide +kernel
theorem dX11_awakeIn_19 : decode cX11_awakeIn 19 = .ok (.athrow, 1) := by decide +kernel
theorem dX11_awakeIn_4 : decode cX11_awakeIn 4 = .ok (.iload_n 1, 1) := by decide +kernel
theorem dX11_awakeIn_5 : decode cX11_awakeIn 5 = .ok (.bipush 99, 2) := by decide +kernel
theorem dX11_awakeIn_7 : decode cX11_awakeIn 7 = .ok (.if_icmp .le 13, 3) := by decide +kernel
theorem dX11_awakeIn_20 : decode cX11_awakeIn 20 = .ok (.aload_n 0, 1) := by decide +kernel
theorem dX11_awakeIn_21 : decode cX11_awakeIn 21 = .ok (.getfield 54, 3) := by decide +kernel
theorem dX11_awakeIn_24 : decode cX11_awakeIn 24 = .ok (.iload_n 1, 1) := by decide +kernel
theorem dX11_awakeIn_25 : decode cX11_awakeIn 25 = .ok (.invokevirtual 207, 3) := by decide +kernel
theorem dX11_awakeIn_28 : decode cX11_awakeIn 28 = .ok (.ireturn, 1) := by decide +kernel
theorem dX11_meetsIn_0 : decode cX11_meetsIn 0 = .ok (.aload_n 0, 1) := by decide +kernel
theorem dX11_meetsIn_1 : decode cX11_meetsIn 1 = .ok (.iload_n 1, 1) := by decide +kernel
theorem dX11_meetsIn_2 : decode cX11_meetsIn 2 = .ok (.invokevirtual 129, 3) := by decide +kernel
theorem dX11_meetsIn_5 : decode cX11_meetsIn 5 = .ok (.aload_n 0, 1) := by decide +kernel
theorem dX11_meetsIn_6 : decode cX11_meetsIn 6 = .ok (.iload_n 2, 1) := by decide +kernel
theorem dX11_meetsIn_7 : decode cX11_meetsIn 7 = .ok (.invokevirtual 129, 3) := by decide +kernel
theorem dX11_meetsIn_10 : decode cX11_meetsIn 10 = .ok (.iload_n 1, 1) := by decide +kernel
theorem dX11_meetsIn_11 : decode cX11_meetsIn 11 = .ok (.iload_n 2, 1) := by decide +kernel
theorem dX11_meetsIn_12 : decode cX11_meetsIn 12 = .ok (.if_icmp .ne 7, 3) := by decide +kernel
theorem dX11_meetsIn_19 : decode cX11_meetsIn 19 = .ok (.aload_n 0, 1) := by decide +kernel
theorem dX11_meetsIn_20 : decode cX11_meetsIn 20 = .ok (.getfield 54, 3) := by decide +kernel
theorem dX11_meetsIn_23 : decode cX11_meetsIn 23 = .ok (.iload_n 1, 1) := by decide +kernel
theorem dX11_meetsIn_24 : decode cX11_meetsIn 24 = .ok (.aload_n 0, 1) := by decide +kernel
theorem dX11_meetsIn_25 : decode cX11_meetsIn 25 = .ok (.getfield 54, 3) := by decide +kernel
theorem dX11_meetsIn_28 : decode cX11_meetsIn 28 = .ok (.iload_n 1, 1) := by decide +kernel
theorem dX11_meetsIn_29 : decode cX11_meetsIn 29 = .ok (.invokevirtual 167, 3) := by decide +kernel
theorem dX11_meetsIn_32 : decode cX11_meetsIn 32 = .ok (.getfield 210, 3) := by decide +kernel
theorem dX11_meetsIn_35 : decode cX11_meetsIn 35 = .ok (.iload_n 2, 1) := by decide +kernel
theorem dX11_meetsIn_36 : decode cX11_meetsIn 36 = .ok (.invokevirtual 213, 3) := by decide +kernel
theorem dX11_meetsIn_39 : decode cX11_meetsIn 39 = .ok (.ireturn, 1) := by decide +kernel
theorem dX11_meetsIn_15 : decode cX11_meetsIn 15 = .ok (.iconst (-1), 1) := by decide +kernel
theorem dX11_meetsIn_16 : decode cX11_meetsIn 16 = .ok (.goto 23, 3) := by decide +kernel
theorem dX11_hops_0 : decode cX11_hops 0 = .ok (.aload_n 0, 1) := by decide +kernel
theorem dX11_hops_1 : decode cX11_hops 1 = .ok (.iload_n 1, 1) := by decide +kernel
theorem dX11_hops_2 : decode cX11_hops 2 = .ok (.invokevirtual 129, 3) := by decide +kernel
theorem dX11_hops_5 : decode cX11_hops 5 = .ok (.aload_n 0, 1) := by decide +kernel
theorem dX11_hops_6 : decode cX11_hops 6 = .ok (.iload_n 2, 1) := by decide +kernel
theorem dX11_hops_7 : decode cX11_hops 7 = .ok (.invokevirtual 129, 3) := by decide +kernel
theorem dX11_hops_10 : decode cX11_hops 10 = .ok (.aload_n 0, 1) := by decide +kernel
theorem dX11_hops_11 : decode cX11_hops 11 = .ok (.getfield 54, 3) := by decide +kernel
theorem dX11_hops_14 : decode cX11_hops 14 = .ok (.iload_n 1, 1) := by decide +kernel
theorem dX11_hops_15 : decode cX11_hops 15 = .ok (.iload_n 2, 1) := by decide +kernel
theorem dX11_hops_16 : decode cX11_hops 16 = .ok (.invokevirtual 223, 3) := by decide +kernel
theorem dX11_hops_19 : decode cX11_hops 19 = .ok (.ireturn, 1) := by decide +kernel
theorem dX11_nextNode_0 : decode cX11_nextNode 0 = .ok (.aload_n 0, 1) := by decide +kernel
theorem dX11_nextNode_1 : decode cX11_nextNode 1 = .ok (.iload_n 1, 1) := by decide +kernel
theorem dX11_nextNode_2 : decode cX11_nextNode 2 = .ok (.invokevirtual 129, 3) := by decide +kernel
theorem dX11_nextNode_5 : decode cX11_nextNode 5 = .ok (.aload_n 0, 1) := by decide +kernel
theorem dX11_nextNode_6 : decode cX11_nextNode 6 = .ok (.iload_n 2, 1) := by decide +kernel
theorem dX11_nextNode_7 : decode cX11_nextNode 7 = .ok (.invokevirtual 129, 3) := by decide +kernel
theorem dX11_nextNode_10 : decode cX11_nextNode 10 = .ok (.iload_n 1, 1) := by decide +kernel
theorem dX11_nextNode_11 : decode cX11_nextNode 11 = .ok (.iload_n 2, 1) := by decide +kernel
theorem dX11_nextNode_12 : decode cX11_nextNode 12 = .ok (.if_icmp .eq 14, 3) := by decide +kernel
theorem dX11_nextNode_26 : decode cX11_nextNode 26 = .ok (.iconst (-1), 1) := by decide +kernel
theorem dX11_nextNode_27 : decode cX11_nextNode 27 = .ok (.goto 19, 3) := by decide +kernel
theorem dX11_nextNode_46 : decode cX11_nextNode 46 = .ok (.ireturn, 1) := by decide +kernel
theorem dX11_nextNode_15 : decode cX11_nextNode 15 = .ok (.aload_n 0, 1) := by decide +kernel
theorem dX11_nextNode_16 : decode cX11_nextNode 16 = .ok (.getfield 54, 3) := by decide +kernel
theorem dX11_nextNode_19 : decode cX11_nextNode 19 = .ok (.iload_n 1, 1) := by decide +kernel
theorem dX11_nextNode_20 : decode cX11_nextNode 20 = .ok (.invokevirtual 226, 3) := by decide +kernel
theorem dX11_nextNode_23 : decode cX11_nextNode 23 = .ok (.ifCond .eq 7, 3) := by decide +kernel
theorem dX11_nextNode_30 : decode cX11_nextNode 30 = .ok (.aload_n 0, 1) := by decide +kernel
theorem dX11_nextNode_31 : decode cX11_nextNode 31 = .ok (.getfield 54, 3) := by decide +kernel
theorem dX11_nextNode_34 : decode cX11_nextNode 34 = .ok (.iload_n 1, 1) := by decide +kernel
theorem dX11_nextNode_35 : decode cX11_nextNode 35 = .ok (.iload_n 2, 1) := by decide +kernel
theorem dX11_nextNode_36 : decode cX11_nextNode 36 = .ok (.aload_n 0, 1) := by decide +kernel
theorem dX11_nextNode_37 : decode cX11_nextNode 37 = .ok (.getfield 54, 3) := by decide +kernel
theorem dX11_nextNode_40 : decode cX11_nextNode 40 = .ok (.invokevirtual 230, 3) := by decide +kernel
theorem dX11_nextNode_43 : decode cX11_nextNode 43 = .ok (.invokevirtual 233, 3) := by decide +kernel
theorem dX11_arrives_0 : decode cX11_arrives 0 = .ok (.aload_n 0, 1) := by decide +kernel
theorem dX11_arrives_1 : decode cX11_arrives 1 = .ok (.iload_n 1, 1) := by decide +kernel
theorem dX11_arrives_2 : decode cX11_arrives 2 = .ok (.invokevirtual 155, 3) := by decide +kernel
theorem dX11_arrives_5 : decode cX11_arrives 5 = .ok (.aload_n 0, 1) := by decide +kernel
theorem dX11_arrives_6 : decode cX11_arrives 6 = .ok (.getfield 33, 3) := by decide +kernel
theorem dX11_arrives_9 : decode cX11_arrives 9 = .ok (.aload_n 0, 1) := by decide +kernel
theorem dX11_arrives_10 : decode cX11_arrives 10 = .ok (.getfield 54, 3) := by decide +kernel
theorem dX11_arrives_13 : decode cX11_arrives 13 = .ok (.iload_n 1, 1) := by decide +kernel
theorem dX11_arrives_14 : decode cX11_arrives 14 = .ok (.invokevirtual 239, 3) := by decide +kernel
theorem dX11_arrives_17 : decode cX11_arrives 17 = .ok (.ireturn, 1) := by decide +kernel
theorem dX11_wouldArrive_0 : decode cX11_wouldArrive 0 = .ok (.aload_n 0, 1) := by decide +kernel
theorem dX11_wouldArrive_1 : decode cX11_wouldArrive 1 = .ok (.iload_n 1, 1) := by decide +kernel
theorem dX11_wouldArrive_2 : decode cX11_wouldArrive 2 = .ok (.invokevirtual 129, 3) := by decide +kernel
theorem dX11_wouldArrive_5 : decode cX11_wouldArrive 5 = .ok (.aload_n 0, 1) := by decide +kernel
theorem dX11_wouldArrive_6 : decode cX11_wouldArrive 6 = .ok (.iload_n 2, 1) := by decide +kernel
theorem dX11_wouldArrive_7 : decode cX11_wouldArrive 7 = .ok (.invokevirtual 129, 3) := by decide +kernel
theorem dX11_wouldArrive_10 : decode cX11_wouldArrive 10 = .ok (.aload_n 0, 1) := by decide +kernel
theorem dX11_wouldArrive_11 : decode cX11_wouldArrive 11 = .ok (.iload_n 1, 1) := by decide +kernel
theorem dX11_wouldArrive_12 : decode cX11_wouldArrive 12 = .ok (.iload_n 2, 1) := by decide +kernel
theorem dX11_wouldArrive_13 : decode cX11_wouldArrive 13 = .ok (.invokevirtual 243, 3) := by decide +kernel
theorem dX11_wouldArrive_16 : decode cX11_wouldArrive 16 = .ok (.aload_n 0, 1) := by decide +kernel
theorem dX11_wouldArrive_17 : decode cX11_wouldArrive 17 = .ok (.getfield 33, 3) := by decide +kernel
theorem dX11_wouldArrive_20 : decode cX11_wouldArrive 20 = .ok (.aload_n 0, 1) := by decide +kernel
theorem dX11_wouldArrive_21 : decode cX11_wouldArrive 21 = .ok (.getfield 54, 3) := by decide +kernel
theorem dX11_wouldArrive_24 : decode cX11_wouldArrive 24 = .ok (.iload_n 1, 1) := by decide +kernel
theorem dX11_wouldArrive_25 : decode cX11_wouldArrive 25 = .ok (.iload_n 2, 1) := by decide +kernel
theorem dX11_wouldArrive_26 : decode cX11_wouldArrive 26 = .ok (.iload_n 3, 1) := by decide +kernel
theorem dX11_wouldArrive_27 : decode cX11_wouldArrive 27 = .ok (.invokevirtual 247, 3) := by decide +kernel
theorem dX11_wouldArrive_30 : decode cX11_wouldArrive 30 = .ok (.ireturn, 1) := by decide +kernel
theorem dX11_outIn_0 : decode cX11_outIn 0 = .ok (.aload_n 0, 1) := by decide +kernel
theorem dX11_outIn_1 : decode cX11_outIn 1 = .ok (.iload_n 1, 1) := by decide +kernel
theorem dX11_outIn_2 : decode cX11_outIn 2 = .ok (.invokevirtual 129, 3) := by decide +kernel
theorem dX11_outIn_5 : decode cX11_outIn 5 = .ok (.aload_n 0, 1) := by decide +kernel
theorem dX11_outIn_6 : decode cX11_outIn 6 = .ok (.getfield 33, 3) := by decide +kernel
theorem dX11_outIn_9 : decode cX11_outIn 9 = .ok (.aload_n 0, 1) := by decide +kernel
theorem dX11_outIn_10 : decode cX11_outIn 10 = .ok (.getfield 54, 3) := by decide +kernel
theorem dX11_outIn_13 : decode cX11_outIn 13 = .ok (.iload_n 1, 1) := by decide +kernel
theorem dX11_outIn_14 : decode cX11_outIn 14 = .ok (.invokevirtual 251, 3) := by decide +kernel
theorem dX11_outIn_17 : decode cX11_outIn 17 = .ok (.ireturn, 1) := by decide +kernel
theorem dX11_energyIn_0 : decode cX11_energyIn 0 = .ok (.aload_n 0, 1) := by decide +kernel
theorem dX11_energyIn_1 : decode cX11_energyIn 1 = .ok (.iload_n 1, 1) := by decide +kernel
theorem dX11_energyIn_2 : decode cX11_energyIn 2 = .ok (.invokevirtual 129, 3) := by decide +kernel
theorem dX11_energyIn_5 : decode cX11_energyIn 5 = .ok (.iload_n 2, 1) := by decide +kernel
theorem dX11_energyIn_6 : decode cX11_energyIn 6 = .ok (.ifCond .lt 10, 3) := by decide +kernel
theorem dX11_energyIn_16 : decode cX11_energyIn 16 = .ok (.new 83, 3) := by decide +kernel
theorem dX11_energyIn_19 : decode cX11_energyIn 19 = .ok (.dup, 1) := by decide +kernel
theorem dX11_energyIn_20 : decode cX11_energyIn 20 = .ok (.ldc 205, 2) := by decide +kernel
theorem dX11_energyIn_22 : decode cX11_energyIn 22 = .ok (.invokespecial 87, 3) := by decide +kernel
theorem dX11_energyIn_25 : decode cX11_energyIn 25 = .ok (.athrow, 1) := by decide +kernel
theorem dX11_energyIn_9 : decode cX11_energyIn 9 = .ok (.iload_n 2, 1) := by decide +kernel
theorem dX11_energyIn_10 : decode cX11_energyIn 10 = .ok (.sipush 200, 3) := by decide +kernel
theorem dX11_energyIn_13 : decode cX11_energyIn 13 = .ok (.if_icmp .le 13, 3) := by decide +kernel
theorem dX11_energyIn_26 : decode cX11_energyIn 26 = .ok (.aload_n 0, 1) := by decide +kernel
theorem dX11_energyIn_27 : decode cX11_energyIn 27 = .ok (.getfield 33, 3) := by decide +kernel
theorem dX11_energyIn_30 : decode cX11_energyIn 30 = .ok (.aload_n 0, 1) := by decide +kernel
theorem dX11_energyIn_31 : decode cX11_energyIn 31 = .ok (.getfield 54, 3) := by decide +kernel
theorem dX11_energyIn_34 : decode cX11_energyIn 34 = .ok (.iload_n 1, 1) := by decide +kernel
theorem dX11_energyIn_35 : decode cX11_energyIn 35 = .ok (.iload_n 2, 1) := by decide +kernel
theorem dX11_energyIn_36 : decode cX11_energyIn 36 = .ok (.invokevirtual 254, 3) := by decide +kernel
theorem dX11_energyIn_39 : decode cX11_energyIn 39 = .ok (.ireturn, 1) := by decide +kernel
theorem dX11_bestShift_0 : decode cX11_bestShift 0 = .ok (.aload_n 0, 1) := by decide +kernel
theorem dX11_bestShift_1 : decode cX11_bestShift 1 = .ok (.iload_n 1, 1) := by decide +kernel
theorem dX11_bestShift_2 : decode cX11_bestShift 2 = .ok (.invokevirtual 129, 3) := by decide +kernel
theorem dX11_bestShift_5 : decode cX11_bestShift 5 = .ok (.aload_n 0, 1) := by decide +kernel
theorem dX11_bestShift_6 : decode cX11_bestShift 6 = .ok (.getfield 54, 3) := by decide +kernel
theorem dX11_bestShift_9 : decode cX11_bestShift 9 = .ok (.iload_n 1, 1) := by decide +kernel
theorem dX11_bestShift_10 : decode cX11_bestShift 10 = .ok (.invokevirtual 261, 3) := by decide +kernel
theorem dX11_bestShift_13 : decode cX11_bestShift 13 = .ok (.ireturn, 1) := by decide +kernel
theorem dX11_bestWatch_0 : decode cX11_bestWatch 0 = .ok (.aload_n 0, 1) := by decide +kernel
theorem dX11_bestWatch_1 : decode cX11_bestWatch 1 = .ok (.iload_n 1, 1) := by decide +kernel
theorem dX11_bestWatch_2 : decode cX11_bestWatch 2 = .ok (.invokevirtual 129, 3) := by decide +kernel
theorem dX11_bestWatch_5 : decode cX11_bestWatch 5 = .ok (.aload_n 0, 1) := by decide +kernel
theorem dX11_bestWatch_6 : decode cX11_bestWatch 6 = .ok (.iload_n 2, 1) := by decide +kernel
theorem dX11_bestWatch_7 : decode cX11_bestWatch 7 = .ok (.invokevirtual 129, 3) := by decide +kernel
theorem dX11_bestWatch_10 : decode cX11_bestWatch 10 = .ok (.aload_n 0, 1) := by decide +kernel
theorem dX11_bestWatch_11 : decode cX11_bestWatch 11 = .ok (.iload_n 1, 1) := by decide +kernel
theorem dX11_bestWatch_12 : decode cX11_bestWatch 12 = .ok (.iload_n 2, 1) := by decide +kernel
theorem dX11_bestWatch_13 : decode cX11_bestWatch 13 = .ok (.invokevirtual 243, 3) := by decide +kernel
theorem dX11_bestWatch_16 : decode cX11_bestWatch 16 = .ok (.aload_n 0, 1) := by decide +kernel
theorem dX11_bestWatch_17 : decode cX11_bestWatch 17 = .ok (.getfield 33, 3) := by decide +kernel
theorem dX11_bestWatch_20 : decode cX11_bestWatch 20 = .ok (.aload_n 0, 1) := by decide +kernel
theorem dX11_bestWatch_21 : decode cX11_bestWatch 21 = .ok (.getfield 54, 3) := by decide +kernel
theorem dX11_bestWatch_24 : decode cX11_bestWatch 24 = .ok (.iload_n 1, 1) := by decide +kernel
theorem dX11_bestWatch_25 : decode cX11_bestWatch 25 = .ok (.iload_n 2, 1) := by decide +kernel
theorem dX11_bestWatch_26 : decode cX11_bestWatch 26 = .ok (.invokevirtual 264, 3) := by decide +kernel
theorem dX11_bestWatch_29 : decode cX11_bestWatch 29 = .ok (.ireturn, 1) := by decide +kernel
theorem dX11_tick_0 : decode cX11_tick 0 = .ok (.iload_n 1, 1) := by decide +kernel
theorem dX11_tick_1 : decode cX11_tick 1 = .ok (.invokestatic 267, 3) := by decide +kernel
theorem dX11_tick_4 : decode cX11_tick 4 = .ok (.ifCond .ne 13, 3) := by decide +kernel
theorem dX11_tick_17 : decode cX11_tick 17 = .ok (.aload_n 0, 1) := by decide +kernel
theorem dX11_tick_18 : decode cX11_tick 18 = .ok (.getfield 54, 3) := by decide +kernel
theorem dX11_tick_21 : decode cX11_tick 21 = .ok (.iload_n 1, 1) := by decide +kernel
theorem dX11_tick_22 : decode cX11_tick 22 = .ok (.invokevirtual 270, 3) := by decide +kernel
theorem dX11_tick_25 : decode cX11_tick 25 = .ok (.ifCond .ne 14, 3) := by decide +kernel
theorem dX11_tick_39 : decode cX11_tick 39 = .ok (.aload_n 0, 1) := by decide +kernel
theorem dX11_tick_40 : decode cX11_tick 40 = .ok (.getfield 40, 3) := by decide +kernel
theorem dX11_tick_43 : decode cX11_tick 43 = .ok (.aload_n 0, 1) := by decide +kernel
theorem dX11_tick_44 : decode cX11_tick 44 = .ok (.getfield 54, 3) := by decide +kernel
theorem dX11_tick_47 : decode cX11_tick 47 = .ok (.invokevirtual 107, 3) := by decide +kernel
theorem dX11_tick_50 : decode cX11_tick 50 = .ok (.aload_n 0, 1) := by decide +kernel
theorem dX11_tick_51 : decode cX11_tick 51 = .ok (.getfield 54, 3) := by decide +kernel
theorem dX11_tick_54 : decode cX11_tick 54 = .ok (.iload_n 1, 1) := by decide +kernel
theorem dX11_tick_55 : decode cX11_tick 55 = .ok (.invokevirtual 275, 3) := by decide +kernel
theorem dX11_tick_58 : decode cX11_tick 58 = .ok (.ireturn, 1) := by decide +kernel
theorem dX11_tick_28 : decode cX11_tick 28 = .ok (.new 68, 3) := by decide +kernel
theorem dX11_tick_31 : decode cX11_tick 31 = .ok (.dup, 1) := by decide +kernel
theorem dX11_tick_32 : decode cX11_tick 32 = .ok (.ldc_w 273, 3) := by decide +kernel
theorem dX11_tick_35 : decode cX11_tick 35 = .ok (.invokespecial 72, 3) := by decide +kernel
theorem dX11_tick_38 : decode cX11_tick 38 = .ok (.athrow, 1) := by decide +kernel
theorem dX11_tick_7 : decode cX11_tick 7 = .ok (.new 83, 3) := by decide +kernel
theorem dX11_tick_10 : decode cX11_tick 10 = .ok (.dup, 1) := by decide +kernel
theorem dX11_tick_11 : decode cX11_tick 11 = .ok (.ldc 205, 2) := by decide +kernel
theorem dX11_tick_13 : decode cX11_tick 13 = .ok (.invokespecial 87, 3) := by decide +kernel
theorem dX11_tick_16 : decode cX11_tick 16 = .ok (.athrow, 1) := by decide +kernel
theorem dX11_send_0 : decode cX11_send 0 = .ok (.aload_n 0, 1) := by decide +kernel
theorem dX11_send_1 : decode cX11_send 1 = .ok (.iload_n 1, 1) := by decide +kernel
theorem dX11_send_2 : decode cX11_send 2 = .ok (.invokevirtual 129, 3) := by decide +kernel
theorem dX11_send_5 : decode cX11_send 5 = .ok (.aload_n 0, 1) := by decide +kernel
theorem dX11_send_6 : decode cX11_send 6 = .ok (.iload_n 2, 1) := by decide +kernel
theorem dX11_send_7 : decode cX11_send 7 = .ok (.invokevirtual 129, 3) := by decide +kernel
theorem dX11_send_10 : decode cX11_send 10 = .ok (.iload_n 1, 1) := by decide +kernel
theorem dX11_send_11 : decode cX11_send 11 = .ok (.iload_n 2, 1) := by decide +kernel
theorem dX11_send_12 : decode cX11_send 12 = .ok (.iload_n 3, 1) := by decide +kernel
theorem dX11_send_13 : decode cX11_send 13 = .ok (.invokestatic 278, 3) := by decide +kernel
theorem dX11_send_16 : decode cX11_send 16 = .ok (.ifCond .ne 14, 3) := by decide +kernel
theorem dX11_send_30 : decode cX11_send 30 = .ok (.aload_n 0, 1) := by decide +kernel
theorem dX11_send_31 : decode cX11_send 31 = .ok (.getfield 54, 3) := by decide +kernel
theorem dX11_send_34 : decode cX11_send 34 = .ok (.iload_n 1, 1) := by decide +kernel
theorem dX11_send_35 : decode cX11_send 35 = .ok (.iload_n 2, 1) := by decide +kernel
theorem dX11_send_36 : decode cX11_send 36 = .ok (.invokevirtual 284, 3) := by decide +kernel
theorem dX11_send_39 : decode cX11_send 39 = .ok (.ifCond .ne 14, 3) := by decide +kernel
theorem dX11_send_53 : decode cX11_send 53 = .ok (.aload_n 0, 1) := by decide +kernel
theorem dX11_send_54 : decode cX11_send 54 = .ok (.getfield 40, 3) := by decide +kernel
theorem dX11_send_57 : decode cX11_send 57 = .ok (.aload_n 0, 1) := by decide +kernel
theorem dX11_send_58 : decode cX11_send 58 = .ok (.getfield 54, 3) := by decide +kernel
theorem dX11_send_61 : decode cX11_send 61 = .ok (.invokevirtual 107, 3) := by decide +kernel
theorem dX11_send_64 : decode cX11_send 64 = .ok (.aload_n 0, 1) := by decide +kernel
theorem dX11_send_65 : decode cX11_send 65 = .ok (.getfield 54, 3) := by decide +kernel
theorem dX11_send_68 : decode cX11_send 68 = .ok (.iload_n 1, 1) := by decide +kernel
theorem dX11_send_69 : decode cX11_send 69 = .ok (.iload_n 2, 1) := by decide +kernel
theorem dX11_send_70 : decode cX11_send 70 = .ok (.iload_n 3, 1) := by decide +kernel
theorem dX11_send_71 : decode cX11_send 71 = .ok (.iload 4, 2) := by decide +kernel
theorem dX11_send_73 : decode cX11_send 73 = .ok (.invokevirtual 290, 3) := by decide +kernel
theorem dX11_send_76 : decode cX11_send 76 = .ok (.ireturn, 1) := by decide +kernel
theorem dX11_send_42 : decode cX11_send 42 = .ok (.new 68, 3) := by decide +kernel
theorem dX11_send_45 : decode cX11_send 45 = .ok (.dup, 1) := by decide +kernel
theorem dX11_send_46 : decode cX11_send 46 = .ok (.ldc_w 288, 3) := by decide +kernel
theorem dX11_send_49 : decode cX11_send 49 = .ok (.invokespecial 72, 3) := by decide +kernel
theorem dX11_send_52 : decode cX11_send 52 = .ok (.athrow, 1) := by decide +kernel
theorem dX11_send_19 : decode cX11_send 19 = .ok (.new 83, 3) := by decide +kernel
theorem dX11_send_22 : decode cX11_send 22 = .ok (.dup, 1) := by decide +kernel
theorem dX11_send_23 : decode cX11_send 23 = .ok (.ldc_w 282, 3) := by decide +kernel
theorem dX11_send_26 : decode cX11_send 26 = .ok (.invokespecial 87, 3) := by decide +kernel
theorem dX11_send_29 : decode cX11_send 29 = .ok (.athrow, 1) := by decide +kernel
theorem dX11_setShift_0 : decode cX11_setShift 0 = .ok (.aload_n 0, 1) := by decide +kernel
theorem dX11_setShift_1 : decode cX11_setShift 1 = .ok (.iload_n 1, 1) := by decide +kernel
theorem dX11_setShift_2 : decode cX11_setShift 2 = .ok (.invokevirtual 129, 3) := by decide +kernel
theorem dX11_setShift_5 : decode cX11_setShift 5 = .ok (.aload_n 0, 1) := by decide +kernel
theorem dX11_setShift_6 : decode cX11_setShift 6 = .ok (.iload_n 2, 1) := by decide +kernel
theorem dX11_setShift_7 : decode cX11_setShift 7 = .ok (.invokevirtual 181, 3) := by decide +kernel
theorem dX11_setShift_10 : decode cX11_setShift 10 = .ok (.aload_n 0, 1) := by decide +kernel
theorem dX11_setShift_11 : decode cX11_setShift 11 = .ok (.getfield 40, 3) := by decide +kernel
theorem dX11_setShift_14 : decode cX11_setShift 14 = .ok (.aload_n 0, 1) := by decide +kernel
theorem dX11_setShift_15 : decode cX11_setShift 15 = .ok (.getfield 54, 3) := by decide +kernel
theorem dX11_setShift_18 : decode cX11_setShift 18 = .ok (.invokevirtual 107, 3) := by decide +kernel
theorem dX11_setShift_21 : decode cX11_setShift 21 = .ok (.aload_n 0, 1) := by decide +kernel
theorem dX11_setShift_22 : decode cX11_setShift 22 = .ok (.getfield 54, 3) := by decide +kernel
theorem dX11_setShift_25 : decode cX11_setShift 25 = .ok (.iload_n 1, 1) := by decide +kernel
theorem dX11_setShift_26 : decode cX11_setShift 26 = .ok (.invokevirtual 167, 3) := by decide +kernel
theorem dX11_setShift_29 : decode cX11_setShift 29 = .ok (.getfield 210, 3) := by decide +kernel
theorem dX11_setShift_32 : decode cX11_setShift 32 = .ok (.istore_n 3, 1) := by decide +kernel
theorem dX11_setShift_33 : decode cX11_setShift 33 = .ok (.aload_n 0, 1) := by decide +kernel
theorem dX11_setShift_34 : decode cX11_setShift 34 = .ok (.getfield 54, 3) := by decide +kernel
theorem dX11_setShift_37 : decode cX11_setShift 37 = .ok (.iload_n 1, 1) := by decide +kernel
theorem dX11_setShift_38 : decode cX11_setShift 38 = .ok (.invokevirtual 167, 3) := by decide +kernel
theorem dX11_setShift_41 : decode cX11_setShift 41 = .ok (.iload_n 2, 1) := by decide +kernel
theorem dX11_setShift_42 : decode cX11_setShift 42 = .ok (.putfield 210, 3) := by decide +kernel
theorem dX11_setShift_45 : decode cX11_setShift 45 = .ok (.iload_n 3, 1) := by decide +kernel
theorem dX11_setShift_46 : decode cX11_setShift 46 = .ok (.ireturn, 1) := by decide +kernel
theorem dX11_watch_0 : decode cX11_watch 0 = .ok (.aload_n 0, 1) := by decide +kernel
theorem dX11_watch_1 : decode cX11_watch 1 = .ok (.iload_n 1, 1) := by decide +kernel
theorem dX11_watch_2 : decode cX11_watch 2 = .ok (.invokevirtual 129, 3) := by decide +kernel
theorem dX11_watch_5 : decode cX11_watch 5 = .ok (.aload_n 0, 1) := by decide +kernel
theorem dX11_watch_6 : decode cX11_watch 6 = .ok (.iload_n 2, 1) := by decide +kernel
theorem dX11_watch_7 : decode cX11_watch 7 = .ok (.invokevirtual 181, 3) := by decide +kernel
theorem dX11_watch_10 : decode cX11_watch 10 = .ok (.aload_n 0, 1) := by decide +kernel
theorem dX11_watch_11 : decode cX11_watch 11 = .ok (.getfield 54, 3) := by decide +kernel
theorem dX11_watch_14 : decode cX11_watch 14 = .ok (.iload_n 1, 1) := by decide +kernel
theorem dX11_watch_15 : decode cX11_watch 15 = .ok (.iload_n 2, 1) := by decide +kernel
theorem dX11_watch_16 : decode cX11_watch 16 = .ok (.invokevirtual 294, 3) := by decide +kernel
theorem dX11_watch_19 : decode cX11_watch 19 = .ok (.iload_n 3, 1) := by decide +kernel
theorem dX11_watch_20 : decode cX11_watch 20 = .ok (.if_icmp .ne 5, 3) := by decide +kernel
theorem dX11_watch_25 : decode cX11_watch 25 = .ok (.aload_n 0, 1) := by decide +kernel
theorem dX11_watch_26 : decode cX11_watch 26 = .ok (.getfield 40, 3) := by decide +kernel
theorem dX11_watch_29 : decode cX11_watch 29 = .ok (.aload_n 0, 1) := by decide +kernel
theorem dX11_watch_30 : decode cX11_watch 30 = .ok (.getfield 54, 3) := by decide +kernel
theorem dX11_watch_33 : decode cX11_watch 33 = .ok (.invokevirtual 107, 3) := by decide +kernel
theorem dX11_watch_36 : decode cX11_watch 36 = .ok (.aload_n 0, 1) := by decide +kernel
theorem dX11_watch_37 : decode cX11_watch 37 = .ok (.getfield 54, 3) := by decide +kernel
theorem dX11_watch_40 : decode cX11_watch 40 = .ok (.iload_n 1, 1) := by decide +kernel
theorem dX11_watch_41 : decode cX11_watch 41 = .ok (.iload_n 2, 1) := by decide +kernel
theorem dX11_watch_42 : decode cX11_watch 42 = .ok (.invokevirtual 297, 3) := by decide +kernel
theorem dX11_watch_45 : decode cX11_watch 45 = .ok (.iconst 1, 1) := by decide +kernel
theorem dX11_watch_46 : decode cX11_watch 46 = .ok (.ireturn, 1) := by decide +kernel
theorem dX11_watch_23 : decode cX11_watch 23 = .ok (.iconst 0, 1) := by decide +kernel
theorem dX11_watch_24 : decode cX11_watch 24 = .ok (.ireturn, 1) := by decide +kernel
theorem dX11_setBorn_0 : decode cX11_setBorn 0 = .ok (.aload_n 0, 1) := by decide +kernel
theorem dX11_setBorn_1 : decode cX11_setBorn 1 = .ok (.iload_n 1, 1) := by decide +kernel
theorem dX11_setBorn_2 : decode cX11_setBorn 2 = .ok (.invokevirtual 129, 3) := by decide +kernel
theorem dX11_setBorn_5 : decode cX11_setBorn 5 = .ok (.aload_n 0, 1) := by decide +kernel
theorem dX11_setBorn_6 : decode cX11_setBorn 6 = .ok (.iload_n 2, 1) := by decide +kernel
theorem dX11_setBorn_7 : decode cX11_setBorn 7 = .ok (.invokevirtual 181, 3) := by decide +kernel
theorem dX11_setBorn_10 : decode cX11_setBorn 10 = .ok (.aload_n 0, 1) := by decide +kernel
theorem dX11_setBorn_11 : decode cX11_setBorn 11 = .ok (.getfield 40, 3) := by decide +kernel
theorem dX11_setBorn_14 : decode cX11_setBorn 14 = .ok (.aload_n 0, 1) := by decide +kernel
theorem dX11_setBorn_15 : decode cX11_setBorn 15 = .ok (.getfield 54, 3) := by decide +kernel
theorem dX11_setBorn_18 : decode cX11_setBorn 18 = .ok (.invokevirtual 107, 3) := by decide +kernel
theorem dX11_setBorn_21 : decode cX11_setBorn 21 = .ok (.aload_n 0, 1) := by decide +kernel
theorem dX11_setBorn_22 : decode cX11_setBorn 22 = .ok (.getfield 54, 3) := by decide +kernel
theorem dX11_setBorn_25 : decode cX11_setBorn 25 = .ok (.iload_n 1, 1) := by decide +kernel
theorem dX11_setBorn_26 : decode cX11_setBorn 26 = .ok (.invokevirtual 167, 3) := by decide +kernel
theorem dX11_setBorn_29 : decode cX11_setBorn 29 = .ok (.getfield 300, 3) := by decide +kernel
theorem dX11_setBorn_32 : decode cX11_setBorn 32 = .ok (.istore_n 3, 1) := by decide +kernel
theorem dX11_setBorn_33 : decode cX11_setBorn 33 = .ok (.aload_n 0, 1) := by decide +kernel
theorem dX11_setBorn_34 : decode cX11_setBorn 34 = .ok (.getfield 54, 3) := by decide +kernel
theorem dX11_setBorn_37 : decode cX11_setBorn 37 = .ok (.iload_n 1, 1) := by decide +kernel
theorem dX11_setBorn_38 : decode cX11_setBorn 38 = .ok (.invokevirtual 167, 3) := by decide +kernel
theorem dX11_setBorn_41 : decode cX11_setBorn 41 = .ok (.iload_n 2, 1) := by decide +kernel
theorem dX11_setBorn_42 : decode cX11_setBorn 42 = .ok (.putfield 300, 3) := by decide +kernel
theorem dX11_setBorn_45 : decode cX11_setBorn 45 = .ok (.iload_n 3, 1) := by decide +kernel
theorem dX11_setBorn_46 : decode cX11_setBorn 46 = .ok (.ireturn, 1) := by decide +kernel
theorem dX11_charge_0 : decode cX11_charge 0 = .ok (.aload_n 0, 1) := by decide +kernel
theorem dX11_charge_1 : decode cX11_charge 1 = .ok (.iload_n 1, 1) := by decide +kernel
theorem dX11_charge_2 : decode cX11_charge 2 = .ok (.invokevirtual 129, 3) := by decide +kernel
theorem dX11_charge_5 : decode cX11_charge 5 = .ok (.iload_n 2, 1) := by decide +kernel
theorem dX11_charge_6 : decode cX11_charge 6 = .ok (.invokestatic 303, 3) := by decide +kernel
theorem dX11_charge_9 : decode cX11_charge 9 = .ok (.ifCond .ne 14, 3) := by decide +kernel
theorem dX11_charge_23 : decode cX11_charge 23 = .ok (.aload_n 0, 1) := by decide +kernel
theorem dX11_charge_24 : decode cX11_charge 24 = .ok (.getfield 40, 3) := by decide +kernel
theorem dX11_charge_27 : decode cX11_charge 27 = .ok (.aload_n 0, 1) := by decide +kernel
theorem dX11_charge_28 : decode cX11_charge 28 = .ok (.getfield 54, 3) := by decide +kernel
theorem dX11_charge_31 : decode cX11_charge 31 = .ok (.invokevirtual 107, 3) := by decide +kernel
theorem dX11_charge_34 : decode cX11_charge 34 = .ok (.aload_n 0, 1) := by decide +kernel
theorem dX11_charge_35 : decode cX11_charge 35 = .ok (.getfield 54, 3) := by decide +kernel
theorem dX11_charge_38 : decode cX11_charge 38 = .ok (.iload_n 1, 1) := by decide +kernel
theorem dX11_charge_39 : decode cX11_charge 39 = .ok (.iload_n 2, 1) := by decide +kernel
