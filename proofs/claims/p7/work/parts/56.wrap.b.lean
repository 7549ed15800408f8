theorem dL_feed_0 : decode cL_feed 0 = .ok (.aload 6, 2) := by decide +kernel
theorem dL_feed_2 : decode cL_feed 2 = .ok (.iconst 0, 1) := by decide +kernel
theorem dL_feed_3 : decode cL_feed 3 = .ok (.aload_n 0, 1) := by decide +kernel
theorem dL_feed_4 : decode cL_feed 4 = .ok (.iload_n 1, 1) := by decide +kernel
theorem dL_feed_5 : decode cL_feed 5 = .ok (.iload_n 2, 1) := by decide +kernel
theorem dL_feed_6 : decode cL_feed 6 = .ok (.iload_n 3, 1) := by decide +kernel
theorem dL_feed_7 : decode cL_feed 7 = .ok (.iload 4, 2) := by decide +kernel
theorem dL_feed_9 : decode cL_feed 9 = .ok (.iload 5, 2) := by decide +kernel
theorem dL_feed_11 : decode cL_feed 11 = .ok (.invokevirtual 7, 3) := by decide +kernel
theorem dL_feed_14 : decode cL_feed 14 = .ok (.i2l, 1) := by decide +kernel
theorem dL_feed_15 : decode cL_feed 15 = .ok (.lastore, 1) := by decide +kernel
theorem dL_feed_16 : decode cL_feed 16 = .ok (.goto 7, 3) := by decide +kernel
theorem dL_feed_23 : decode cL_feed 23 = .ok (.iconst 0, 1) := by decide +kernel
theorem dL_feed_24 : decode cL_feed 24 = .ok (.ireturn, 1) := by decide +kernel
theorem dL_feed_19 : decode cL_feed 19 = .ok (.astore 7, 2) := by decide +kernel
theorem dL_feed_21 : decode cL_feed 21 = .ok (.iconst 1, 1) := by decide +kernel
theorem dL_feed_22 : decode cL_feed 22 = .ok (.ireturn, 1) := by decide +kernel
theorem dL_truncate_0 : decode cL_truncate 0 = .ok (.aload_n 2, 1) := by decide +kernel
theorem dL_truncate_1 : decode cL_truncate 1 = .ok (.iconst 0, 1) := by decide +kernel
theorem dL_truncate_2 : decode cL_truncate 2 = .ok (.aload_n 0, 1) := by decide +kernel
theorem dL_truncate_3 : decode cL_truncate 3 = .ok (.iload_n 1, 1) := by decide +kernel
theorem dL_truncate_4 : decode cL_truncate 4 = .ok (.invokevirtual 15, 3) := by decide +kernel
theorem dL_truncate_12 : decode cL_truncate 12 = .ok (.astore_n 3, 1) := by decide +kernel
theorem dL_truncate_13 : decode cL_truncate 13 = .ok (.iconst 1, 1) := by decide +kernel
theorem dL_truncate_14 : decode cL_truncate 14 = .ok (.ireturn, 1) := by decide +kernel
theorem dL_truncate_7 : decode cL_truncate 7 = .ok (.i2l, 1) := by decide +kernel
theorem dL_truncate_8 : decode cL_truncate 8 = .ok (.lastore, 1) := by decide +kernel
theorem dL_truncate_9 : decode cL_truncate 9 = .ok (.goto 6, 3) := by decide +kernel
theorem dL_truncate_15 : decode cL_truncate 15 = .ok (.iconst 0, 1) := by decide +kernel
theorem dL_truncate_16 : decode cL_truncate 16 = .ok (.ireturn, 1) := by decide +kernel
theorem dL_readText_0 : decode cL_readText 0 = .ok (.aload_n 1, 1) := by decide +kernel
theorem dL_readText_1 : decode cL_readText 1 = .ok (.iconst 0, 1) := by decide +kernel
theorem dL_readText_2 : decode cL_readText 2 = .ok (.aload_n 0, 1) := by decide +kernel
theorem dL_readText_3 : decode cL_readText 3 = .ok (.invokevirtual 21, 3) := by decide +kernel
theorem dL_readText_11 : decode cL_readText 11 = .ok (.astore_n 2, 1) := by decide +kernel
theorem dL_readText_12 : decode cL_readText 12 = .ok (.iconst 1, 1) := by decide +kernel
theorem dL_readText_13 : decode cL_readText 13 = .ok (.ireturn, 1) := by decide +kernel
theorem dL_readText_6 : decode cL_readText 6 = .ok (.i2l, 1) := by decide +kernel
theorem dL_readText_7 : decode cL_readText 7 = .ok (.lastore, 1) := by decide +kernel
theorem dL_readText_8 : decode cL_readText 8 = .ok (.goto 6, 3) := by decide +kernel
theorem dL_readText_14 : decode cL_readText 14 = .ok (.iconst 0, 1) := by decide +kernel
theorem dL_readText_15 : decode cL_readText 15 = .ok (.ireturn, 1) := by decide +kernel
theorem dL_runScript_0 : decode cL_runScript 0 = .ok (.aload_n 1, 1) := by decide +kernel
theorem dL_runScript_1 : decode cL_runScript 1 = .ok (.iconst 0, 1) := by decide +kernel
theorem dL_runScript_2 : decode cL_runScript 2 = .ok (.aload_n 0, 1) := by decide +kernel
theorem dL_runScript_3 : decode cL_runScript 3 = .ok (.invokevirtual 25, 3) := by decide +kernel
theorem dL_runScript_11 : decode cL_runScript 11 = .ok (.astore_n 2, 1) := by decide +kernel
theorem dL_runScript_12 : decode cL_runScript 12 = .ok (.iconst 1, 1) := by decide +kernel
theorem dL_runScript_13 : decode cL_runScript 13 = .ok (.ireturn, 1) := by decide +kernel
theorem dL_runScript_6 : decode cL_runScript 6 = .ok (.i2l, 1) := by decide +kernel
theorem dL_runScript_7 : decode cL_runScript 7 = .ok (.lastore, 1) := by decide +kernel
theorem dL_runScript_8 : decode cL_runScript 8 = .ok (.goto 6, 3) := by decide +kernel
theorem dL_runScript_14 : decode cL_runScript 14 = .ok (.iconst 0, 1) := by decide +kernel
theorem dL_runScript_15 : decode cL_runScript 15 = .ok (.ireturn, 1) := by decide +kernel
theorem dL_setting_0 : decode cL_setting 0 = .ok (.aload_n 2, 1) := by decide +kernel
theorem dL_setting_1 : decode cL_setting 1 = .ok (.iconst 0, 1) := by decide +kernel
theorem dL_setting_2 : decode cL_setting 2 = .ok (.aload_n 0, 1) := by decide +kernel
theorem dL_setting_3 : decode cL_setting 3 = .ok (.iload_n 1, 1) := by decide +kernel
theorem dL_setting_4 : decode cL_setting 4 = .ok (.invokevirtual 28, 3) := by decide +kernel
theorem dL_setting_12 : decode cL_setting 12 = .ok (.astore_n 3, 1) := by decide +kernel
theorem dL_setting_13 : decode cL_setting 13 = .ok (.iconst 1, 1) := by decide +kernel
theorem dL_setting_14 : decode cL_setting 14 = .ok (.ireturn, 1) := by decide +kernel
theorem dL_setting_7 : decode cL_setting 7 = .ok (.i2l, 1) := by decide +kernel
theorem dL_setting_8 : decode cL_setting 8 = .ok (.lastore, 1) := by decide +kernel
theorem dL_setting_9 : decode cL_setting 9 = .ok (.goto 6, 3) := by decide +kernel
theorem dL_setting_15 : decode cL_setting 15 = .ok (.iconst 0, 1) := by decide +kernel
theorem dL_setting_16 : decode cL_setting 16 = .ok (.ireturn, 1) := by decide +kernel
theorem dL_node_0 : decode cL_node 0 = .ok (.aload_n 3, 1) := by decide +kernel
theorem dL_node_1 : decode cL_node 1 = .ok (.iconst 0, 1) := by decide +kernel
theorem dL_node_2 : decode cL_node 2 = .ok (.aload_n 0, 1) := by decide +kernel
theorem dL_node_3 : decode cL_node 3 = .ok (.iload_n 1, 1) := by decide +kernel
theorem dL_node_4 : decode cL_node 4 = .ok (.iload_n 2, 1) := by decide +kernel
theorem dL_node_5 : decode cL_node 5 = .ok (.invokevirtual 31, 3) := by decide +kernel
theorem dL_node_13 : decode cL_node 13 = .ok (.astore 4, 2) := by decide +kernel
theorem dL_node_15 : decode cL_node 15 = .ok (.iconst 1, 1) := by decide +kernel
theorem dL_node_16 : decode cL_node 16 = .ok (.ireturn, 1) := by decide +kernel
theorem dL_node_17 : decode cL_node 17 = .ok (.astore 4, 2) := by decide +kernel
theorem dL_node_19 : decode cL_node 19 = .ok (.iconst 2, 1) := by decide +kernel
theorem dL_node_20 : decode cL_node 20 = .ok (.ireturn, 1) := by decide +kernel
theorem dL_node_8 : decode cL_node 8 = .ok (.i2l, 1) := by decide +kernel
theorem dL_node_9 : decode cL_node 9 = .ok (.lastore, 1) := by decide +kernel
theorem dL_node_10 : decode cL_node 10 = .ok (.goto 11, 3) := by decide +kernel
theorem dL_node_21 : decode cL_node 21 = .ok (.iconst 0, 1) := by decide +kernel
theorem dL_node_22 : decode cL_node 22 = .ok (.ireturn, 1) := by decide +kernel
theorem dL_link_0 : decode cL_link 0 = .ok (.aload_n 3, 1) := by decide +kernel
theorem dL_link_1 : decode cL_link 1 = .ok (.iconst 0, 1) := by decide +kernel
theorem dL_link_2 : decode cL_link 2 = .ok (.aload_n 0, 1) := by decide +kernel
theorem dL_link_3 : decode cL_link 3 = .ok (.iload_n 1, 1) := by decide +kernel
theorem dL_link_4 : decode cL_link 4 = .ok (.iload_n 2, 1) := by decide +kernel
theorem dL_link_5 : decode cL_link 5 = .ok (.invokevirtual 37, 3) := by decide +kernel
theorem dL_link_13 : decode cL_link 13 = .ok (.astore 4, 2) := by decide +kernel
theorem dL_link_15 : decode cL_link 15 = .ok (.iconst 1, 1) := by decide +kernel
theorem dL_link_16 : decode cL_link 16 = .ok (.ireturn, 1) := by decide +kernel
theorem dL_link_17 : decode cL_link 17 = .ok (.astore 4, 2) := by decide +kernel
theorem dL_link_19 : decode cL_link 19 = .ok (.iconst 2, 1) := by decide +kernel
theorem dL_link_20 : decode cL_link 20 = .ok (.ireturn, 1) := by decide +kernel
theorem dL_link_8 : decode cL_link 8 = .ok (.i2l, 1) := by decide +kernel
theorem dL_link_9 : decode cL_link 9 = .ok (.lastore, 1) := by decide +kernel
theorem dL_link_10 : decode cL_link 10 = .ok (.goto 11, 3) := by decide +kernel
theorem dL_link_21 : decode cL_link 21 = .ok (.iconst 0, 1) := by decide +kernel
theorem dL_link_22 : decode cL_link 22 = .ok (.ireturn, 1) := by decide +kernel
theorem dL_message_0 : decode cL_message 0 = .ok (.aload_n 3, 1) := by decide +kernel
theorem dL_message_1 : decode cL_message 1 = .ok (.iconst 0, 1) := by decide +kernel
theorem dL_message_2 : decode cL_message 2 = .ok (.aload_n 0, 1) := by decide +kernel
theorem dL_message_3 : decode cL_message 3 = .ok (.iload_n 1, 1) := by decide +kernel
theorem dL_message_4 : decode cL_message 4 = .ok (.iload_n 2, 1) := by decide +kernel
theorem dL_message_5 : decode cL_message 5 = .ok (.invokevirtual 40, 3) := by decide +kernel
theorem dL_message_13 : decode cL_message 13 = .ok (.astore 4, 2) := by decide +kernel
theorem dL_message_15 : decode cL_message 15 = .ok (.iconst 1, 1) := by decide +kernel
theorem dL_message_16 : decode cL_message 16 = .ok (.ireturn, 1) := by decide +kernel
theorem dL_message_17 : decode cL_message 17 = .ok (.astore 4, 2) := by decide +kernel
theorem dL_message_19 : decode cL_message 19 = .ok (.iconst 2, 1) := by decide +kernel
theorem dL_message_20 : decode cL_message 20 = .ok (.ireturn, 1) := by decide +kernel
theorem dL_message_8 : decode cL_message 8 = .ok (.i2l, 1) := by decide +kernel
theorem dL_message_9 : decode cL_message 9 = .ok (.lastore, 1) := by decide +kernel
theorem dL_message_10 : decode cL_message 10 = .ok (.goto 11, 3) := by decide +kernel
theorem dL_message_21 : decode cL_message 21 = .ok (.iconst 0, 1) := by decide +kernel
theorem dL_message_22 : decode cL_message 22 = .ok (.ireturn, 1) := by decide +kernel
theorem dL_letter_0 : decode cL_letter 0 = .ok (.aload_n 3, 1) := by decide +kernel
theorem dL_letter_1 : decode cL_letter 1 = .ok (.iconst 0, 1) := by decide +kernel
theorem dL_letter_2 : decode cL_letter 2 = .ok (.aload_n 0, 1) := by decide +kernel
theorem dL_letter_3 : decode cL_letter 3 = .ok (.iload_n 1, 1) := by decide +kernel
theorem dL_letter_4 : decode cL_letter 4 = .ok (.iload_n 2, 1) := by decide +kernel
theorem dL_letter_5 : decode cL_letter 5 = .ok (.invokevirtual 43, 3) := by decide +kernel
theorem dL_letter_13 : decode cL_letter 13 = .ok (.astore 4, 2) := by decide +kernel
theorem dL_letter_15 : decode cL_letter 15 = .ok (.iconst 1, 1) := by decide +kernel
theorem dL_letter_16 : decode cL_letter 16 = .ok (.ireturn, 1) := by decide +kernel
theorem dL_letter_8 : decode cL_letter 8 = .ok (.i2l, 1) := by decide +kernel
theorem dL_letter_9 : decode cL_letter 9 = .ok (.lastore, 1) := by decide +kernel
theorem dL_letter_10 : decode cL_letter 10 = .ok (.goto 7, 3) := by decide +kernel
theorem dL_letter_17 : decode cL_letter 17 = .ok (.iconst 0, 1) := by decide +kernel
theorem dL_letter_18 : decode cL_letter 18 = .ok (.ireturn, 1) := by decide +kernel
theorem dL_inTable_0 : decode cL_inTable 0 = .ok (.aload_n 3, 1) := by decide +kernel
theorem dL_inTable_1 : decode cL_inTable 1 = .ok (.iconst 0, 1) := by decide +kernel
theorem dL_inTable_2 : decode cL_inTable 2 = .ok (.aload_n 0, 1) := by decide +kernel
theorem dL_inTable_3 : decode cL_inTable 3 = .ok (.iload_n 1, 1) := by decide +kernel
theorem dL_inTable_4 : decode cL_inTable 4 = .ok (.iload_n 2, 1) := by decide +kernel
theorem dL_inTable_5 : decode cL_inTable 5 = .ok (.invokevirtual 46, 3) := by decide +kernel
theorem dL_inTable_20 : decode cL_inTable 20 = .ok (.astore 4, 2) := by decide +kernel
theorem dL_inTable_22 : decode cL_inTable 22 = .ok (.iconst 1, 1) := by decide +kernel
theorem dL_inTable_23 : decode cL_inTable 23 = .ok (.ireturn, 1) := by decide +kernel
theorem dL_inTable_24 : decode cL_inTable 24 = .ok (.astore 4, 2) := by decide +kernel
theorem dL_inTable_26 : decode cL_inTable 26 = .ok (.iconst 2, 1) := by decide +kernel
theorem dL_inTable_27 : decode cL_inTable 27 = .ok (.ireturn, 1) := by decide +kernel
theorem dL_inTable_8 : decode cL_inTable 8 = .ok (.ifCond .eq 7, 3) := by decide +kernel
theorem dL_inTable_15 : decode cL_inTable 15 = .ok (.lconst 0, 1) := by decide +kernel
theorem dL_inTable_16 : decode cL_inTable 16 = .ok (.lastore, 1) := by decide +kernel
theorem dL_inTable_17 : decode cL_inTable 17 = .ok (.goto 11, 3) := by decide +kernel
theorem dL_inTable_28 : decode cL_inTable 28 = .ok (.iconst 0, 1) := by decide +kernel
theorem dL_inTable_29 : decode cL_inTable 29 = .ok (.ireturn, 1) := by decide +kernel
theorem dL_inTable_11 : decode cL_inTable 11 = .ok (.lconst 1, 1) := by decide +kernel
theorem dL_inTable_12 : decode cL_inTable 12 = .ok (.goto 4, 3) := by decide +kernel
theorem dL_awakeIn_0 : decode cL_awakeIn 0 = .ok (.aload_n 2, 1) := by decide +kernel
theorem dL_awakeIn_1 : decode cL_awakeIn 1 = .ok (.iconst 0, 1) := by decide +kernel
theorem dL_awakeIn_2 : decode cL_awakeIn 2 = .ok (.aload_n 0, 1) := by decide +kernel
theorem dL_awakeIn_3 : decode cL_awakeIn 3 = .ok (.iload_n 1, 1) := by decide +kernel
theorem dL_awakeIn_4 : decode cL_awakeIn 4 = .ok (.invokevirtual 54, 3) := by decide +kernel
theorem dL_awakeIn_12 : decode cL_awakeIn 12 = .ok (.astore_n 3, 1) := by decide +kernel
theorem dL_awakeIn_13 : decode cL_awakeIn 13 = .ok (.iconst 1, 1) := by decide +kernel
theorem dL_awakeIn_14 : decode cL_awakeIn 14 = .ok (.ireturn, 1) := by decide +kernel
theorem dL_awakeIn_7 : decode cL_awakeIn 7 = .ok (.i2l, 1) := by decide +kernel
theorem dL_awakeIn_8 : decode cL_awakeIn 8 = .ok (.lastore, 1) := by decide +kernel
theorem dL_awakeIn_9 : decode cL_awakeIn 9 = .ok (.goto 6, 3) := by decide +kernel
theorem dL_awakeIn_15 : decode cL_awakeIn 15 = .ok (.iconst 0, 1) := by decide +kernel
theorem dL_awakeIn_16 : decode cL_awakeIn 16 = .ok (.ireturn, 1) := by decide +kernel
theorem dL_meetsIn_0 : decode cL_meetsIn 0 = .ok (.aload_n 3, 1) := by decide +kernel
theorem dL_meetsIn_1 : decode cL_meetsIn 1 = .ok (.iconst 0, 1) := by decide +kernel
theorem dL_meetsIn_2 : decode cL_meetsIn 2 = .ok (.aload_n 0, 1) := by decide +kernel
theorem dL_meetsIn_3 : decode cL_meetsIn 3 = .ok (.iload_n 1, 1) := by decide +kernel
theorem dL_meetsIn_4 : decode cL_meetsIn 4 = .ok (.iload_n 2, 1) := by decide +kernel
theorem dL_meetsIn_5 : decode cL_meetsIn 5 = .ok (.invokevirtual 57, 3) := by decide +kernel
theorem dL_meetsIn_13 : decode cL_meetsIn 13 = .ok (.astore 4, 2) := by decide +kernel
theorem dL_meetsIn_15 : decode cL_meetsIn 15 = .ok (.iconst 1, 1) := by decide +kernel
theorem dL_meetsIn_16 : decode cL_meetsIn 16 = .ok (.ireturn, 1) := by decide +kernel
theorem dL_meetsIn_8 : decode cL_meetsIn 8 = .ok (.i2l, 1) := by decide +kernel
theorem dL_meetsIn_9 : decode cL_meetsIn 9 = .ok (.lastore, 1) := by decide +kernel
theorem dL_meetsIn_10 : decode cL_meetsIn 10 = .ok (.goto 7, 3) := by decide +kernel
theorem dL_meetsIn_17 : decode cL_meetsIn 17 = .ok (.iconst 0, 1) := by decide +kernel
theorem dL_meetsIn_18 : decode cL_meetsIn 18 = .ok (.ireturn, 1) := by decide +kernel
theorem dL_hops_0 : decode cL_hops 0 = .ok (.aload_n 3, 1) := by decide +kernel
theorem dL_hops_1 : decode cL_hops 1 = .ok (.iconst 0, 1) := by decide +kernel
theorem dL_hops_2 : decode cL_hops 2 = .ok (.aload_n 0, 1) := by decide +kernel
theorem dL_hops_3 : decode cL_hops 3 = .ok (.iload_n 1, 1) := by decide +kernel
theorem dL_hops_4 : decode cL_hops 4 = .ok (.iload_n 2, 1) := by decide +kernel
theorem dL_hops_5 : decode cL_hops 5 = .ok (.invokevirtual 60, 3) := by decide +kernel
theorem dL_hops_13 : decode cL_hops 13 = .ok (.astore 4, 2) := by decide +kernel
theorem dL_hops_15 : decode cL_hops 15 = .ok (.iconst 1, 1) := by decide +kernel
theorem dL_hops_16 : decode cL_hops 16 = .ok (.ireturn, 1) := by decide +kernel
theorem dL_hops_8 : decode cL_hops 8 = .ok (.i2l, 1) := by decide +kernel
theorem dL_hops_9 : decode cL_hops 9 = .ok (.lastore, 1) := by decide +kernel
theorem dL_hops_10 : decode cL_hops 10 = .ok (.goto 7, 3) := by decide +kernel
theorem dL_hops_17 : decode cL_hops 17 = .ok (.iconst 0, 1) := by decide +kernel
theorem dL_hops_18 : decode cL_hops 18 = .ok (.ireturn, 1) := by decide +kernel
theorem dL_nextNode_0 : decode cL_nextNode 0 = .ok (.aload_n 3, 1) := by decide +kernel
theorem dL_nextNode_1 : decode cL_nextNode 1 = .ok (.iconst 0, 1) := by decide +kernel
theorem dL_nextNode_2 : decode cL_nextNode 2 = .ok (.aload_n 0, 1) := by decide +kernel
theorem dL_nextNode_3 : decode cL_nextNode 3 = .ok (.iload_n 1, 1) := by decide +kernel
theorem dL_nextNode_4 : decode cL_nextNode 4 = .ok (.iload_n 2, 1) := by decide +kernel
theorem dL_nextNode_5 : decode cL_nextNode 5 = .ok (.invokevirtual 63, 3) := by decide +kernel
theorem dL_nextNode_13 : decode cL_nextNode 13 = .ok (.astore 4, 2) := by decide +kernel
theorem dL_nextNode_15 : decode cL_nextNode 15 = .ok (.iconst 1, 1) := by decide +kernel
theorem dL_nextNode_16 : decode cL_nextNode 16 = .ok (.ireturn, 1) := by decide +kernel
theorem dL_nextNode_8 : decode cL_nextNode 8 = .ok (.i2l, 1) := by decide +kernel
theorem dL_nextNode_9 : decode cL_nextNode 9 = .ok (.lastore, 1) := by decide +kernel
theorem dL_nextNode_10 : decode cL_nextNode 10 = .ok (.goto 7, 3) := by decide +kernel
theorem dL_nextNode_17 : decode cL_nextNode 17 = .ok (.iconst 0, 1) := by decide +kernel
theorem dL_nextNode_18 : decode cL_nextNode 18 = .ok (.ireturn, 1) := by decide +kernel
theorem dL_arrives_0 : decode cL_arrives 0 = .ok (.aload_n 2, 1) := by decide +kernel
theorem dL_arrives_1 : decode cL_arrives 1 = .ok (.iconst 0, 1) := by decide +kernel
theorem dL_arrives_2 : decode cL_arrives 2 = .ok (.aload_n 0, 1) := by decide +kernel
theorem dL_arrives_3 : decode cL_arrives 3 = .ok (.iload_n 1, 1) := by decide +kernel
theorem dL_arrives_4 : decode cL_arrives 4 = .ok (.invokevirtual 66, 3) := by decide +kernel
theorem dL_arrives_12 : decode cL_arrives 12 = .ok (.astore_n 3, 1) := by decide +kernel
theorem dL_arrives_13 : decode cL_arrives 13 = .ok (.iconst 1, 1) := by decide +kernel
theorem dL_arrives_14 : decode cL_arrives 14 = .ok (.ireturn, 1) := by decide +kernel
theorem dL_arrives_7 : decode cL_arrives 7 = .ok (.i2l, 1) := by decide +kernel
theorem dL_arrives_8 : decode cL_arrives 8 = .ok (.lastore, 1) := by decide +kernel
theorem dL_arrives_9 : decode cL_arrives 9 = .ok (.goto 6, 3) := by decide +kernel
theorem dL_arrives_15 : decode cL_arrives 15 = .ok (.iconst 0, 1) := by decide +kernel
theorem dL_arrives_16 : decode cL_arrives 16 = .ok (.ireturn, 1) := by decide +kernel
theorem dL_wouldArrive_0 : decode cL_wouldArrive 0 = .ok (.aload 4, 2) := by decide +kernel
theorem dL_wouldArrive_2 : decode cL_wouldArrive 2 = .ok (.iconst 0, 1) := by decide +kernel
theorem dL_wouldArrive_3 : decode cL_wouldArrive 3 = .ok (.aload_n 0, 1) := by decide +kernel
theorem dL_wouldArrive_4 : decode cL_wouldArrive 4 = .ok (.iload_n 1, 1) := by decide +kernel
theorem dL_wouldArrive_5 : decode cL_wouldArrive 5 = .ok (.iload_n 2, 1) := by decide +kernel
theorem dL_wouldArrive_6 : decode cL_wouldArrive 6 = .ok (.iload_n 3, 1) := by decide +kernel
theorem dL_wouldArrive_7 : decode cL_wouldArrive 7 = .ok (.invokevirtual 69, 3) := by decide +kernel
theorem dL_wouldArrive_15 : decode cL_wouldArrive 15 = .ok (.astore 5, 2) := by decide +kernel
theorem dL_wouldArrive_17 : decode cL_wouldArrive 17 = .ok (.iconst 1, 1) := by decide +kernel
theorem dL_wouldArrive_18 : decode cL_wouldArrive 18 = .ok (.ireturn, 1) := by decide +kernel
theorem dL_wouldArrive_19 : decode cL_wouldArrive 19 = .ok (.astore 5, 2) := by decide +kernel
theorem dL_wouldArrive_21 : decode cL_wouldArrive 21 = .ok (.iconst 2, 1) := by decide +kernel
theorem dL_wouldArrive_22 : decode cL_wouldArrive 22 = .ok (.ireturn, 1) := by decide +kernel
theorem dL_wouldArrive_10 : decode cL_wouldArrive 10 = .ok (.i2l, 1) := by decide +kernel
theorem dL_wouldArrive_11 : decode cL_wouldArrive 11 = .ok (.lastore, 1) := by decide +kernel
theorem dL_wouldArrive_12 : decode cL_wouldArrive 12 = .ok (.goto 11, 3) := by decide +kernel
theorem dL_wouldArrive_23 : decode cL_wouldArrive 23 = .ok (.iconst 0, 1) := by decide +kernel
theorem dL_wouldArrive_24 : decode cL_wouldArrive 24 = .ok (.ireturn, 1) := by decide +kernel
theorem dL_outIn_0 : decode cL_outIn 0 = .ok (.aload_n 2, 1) := by decide +kernel
theorem dL_outIn_1 : decode cL_outIn 1 = .ok (.iconst 0, 1) := by decide +kernel
theorem dL_outIn_2 : decode cL_outIn 2 = .ok (.aload_n 0, 1) := by decide +kernel
theorem dL_outIn_3 : decode cL_outIn 3 = .ok (.iload_n 1, 1) := by decide +kernel
theorem dL_outIn_4 : decode cL_outIn 4 = .ok (.invokevirtual 73, 3) := by decide +kernel
theorem dL_outIn_12 : decode cL_outIn 12 = .ok (.astore_n 3, 1) := by decide +kernel
theorem dL_outIn_13 : decode cL_outIn 13 = .ok (.iconst 1, 1) := by decide +kernel
theorem dL_outIn_14 : decode cL_outIn 14 = .ok (.ireturn, 1) := by decide +kernel
theorem dL_outIn_7 : decode cL_outIn 7 = .ok (.i2l, 1) := by decide +kernel
theorem dL_outIn_8 : decode cL_outIn 8 = .ok (.lastore, 1) := by decide +kernel
theorem dL_outIn_9 : decode cL_outIn 9 = .ok (.goto 6, 3) := by decide +kernel
theorem dL_outIn_15 : decode cL_outIn 15 = .ok (.iconst 0, 1) := by decide +kernel
theorem dL_outIn_16 : decode cL_outIn 16 = .ok (.ireturn, 1) := by decide +kernel
theorem dL_energyIn_0 : decode cL_energyIn 0 = .ok (.aload_n 3, 1) := by decide +kernel
theorem dL_energyIn_1 : decode cL_energyIn 1 = .ok (.iconst 0, 1) := by decide +kernel
theorem dL_energyIn_2 : decode cL_energyIn 2 = .ok (.aload_n 0, 1) := by decide +kernel
theorem dL_energyIn_3 : decode cL_energyIn 3 = .ok (.iload_n 1, 1) := by decide +kernel
theorem dL_energyIn_4 : decode cL_energyIn 4 = .ok (.iload_n 2, 1) := by decide +kernel
theorem dL_energyIn_5 : decode cL_energyIn 5 = .ok (.invokevirtual 76, 3) := by decide +kernel
theorem dL_energyIn_13 : decode cL_energyIn 13 = .ok (.astore 4, 2) := by decide +kernel
theorem dL_energyIn_15 : decode cL_energyIn 15 = .ok (.iconst 1, 1) := by decide +kernel
theorem dL_energyIn_16 : decode cL_energyIn 16 = .ok (.ireturn, 1) := by decide +kernel
theorem dL_energyIn_17 : decode cL_energyIn 17 = .ok (.astore 4, 2) := by decide +kernel
theorem dL_energyIn_19 : decode cL_energyIn 19 = .ok (.iconst 2, 1) := by decide +kernel
theorem dL_energyIn_20 : decode cL_energyIn 20 = .ok (.ireturn, 1) := by decide +kernel
theorem dL_energyIn_8 : decode cL_energyIn 8 = .ok (.i2l, 1) := by decide +kernel
theorem dL_energyIn_9 : decode cL_energyIn 9 = .ok (.lastore, 1) := by decide +kernel
theorem dL_energyIn_10 : decode cL_energyIn 10 = .ok (.goto 11, 3) := by decide +kernel
theorem dL_energyIn_21 : decode cL_energyIn 21 = .ok (.iconst 0, 1) := by decide +kernel
theorem dL_energyIn_22 : decode cL_energyIn 22 = .ok (.ireturn, 1) := by decide +kernel
theorem dL_bestShift_0 : decode cL_bestShift 0 = .ok (.aload_n 2, 1) := by decide +kernel
theorem dL_bestShift_1 : decode cL_bestShift 1 = .ok (.iconst 0, 1) := by decide +kernel
theorem dL_bestShift_2 : decode cL_bestShift 2 = .ok (.aload_n 0, 1) := by decide +kernel
theorem dL_bestShift_3 : decode cL_bestShift 3 = .ok (.iload_n 1, 1) := by decide +kernel
theorem dL_bestShift_4 : decode cL_bestShift 4 = .ok (.invokevirtual 79, 3) := by decide +kernel
theorem dL_bestShift_12 : decode cL_bestShift 12 = .ok (.astore_n 3, 1) := by decide +kernel
theorem dL_bestShift_13 : decode cL_bestShift 13 = .ok (.iconst 1, 1) := by decide +kernel
theorem dL_bestShift_14 : decode cL_bestShift 14 = .ok (.ireturn, 1) := by decide +kernel
theorem dL_bestShift_7 : decode cL_bestShift 7 = .ok (.i2l, 1) := by decide +kernel
theorem dL_bestShift_8 : decode cL_bestShift 8 = .ok (.lastore, 1) := by decide +kernel
theorem dL_bestShift_9 : decode cL_bestShift 9 = .ok (.goto 6, 3) := by decide +kernel
theorem dL_bestShift_15 : decode cL_bestShift 15 = .ok (.iconst 0, 1) := by decide +kernel
theorem dL_bestShift_16 : decode cL_bestShift 16 = .ok (.ireturn, 1) := by decide +kernel
theorem dL_bestWatch_0 : decode cL_bestWatch 0 = .ok (.aload_n 3, 1) := by decide +kernel
theorem dL_bestWatch_1 : decode cL_bestWatch 1 = .ok (.iconst 0, 1) := by decide +kernel
theorem dL_bestWatch_2 : decode cL_bestWatch 2 = .ok (.aload_n 0, 1) := by decide +kernel
theorem dL_bestWatch_3 : decode cL_bestWatch 3 = .ok (.iload_n 1, 1) := by decide +kernel
theorem dL_bestWatch_4 : decode cL_bestWatch 4 = .ok (.iload_n 2, 1) := by decide +kernel
theorem dL_bestWatch_5 : decode cL_bestWatch 5 = .ok (.invokevirtual 82, 3) := by decide +kernel
theorem dL_bestWatch_13 : decode cL_bestWatch 13 = .ok (.astore 4, 2) := by decide +kernel
theorem dL_bestWatch_15 : decode cL_bestWatch 15 = .ok (.iconst 1, 1) := by decide +kernel
theorem dL_bestWatch_16 : decode cL_bestWatch 16 = .ok (.ireturn, 1) := by decide +kernel
theorem dL_bestWatch_17 : decode cL_bestWatch 17 = .ok (.astore 4, 2) := by decide +kernel
theorem dL_bestWatch_19 : decode cL_bestWatch 19 = .ok (.iconst 2, 1) := by decide +kernel
theorem dL_bestWatch_20 : decode cL_bestWatch 20 = .ok (.ireturn, 1) := by decide +kernel
theorem dL_bestWatch_8 : decode cL_bestWatch 8 = .ok (.i2l, 1) := by decide +kernel
theorem dL_bestWatch_9 : decode cL_bestWatch 9 = .ok (.lastore, 1) := by decide +kernel
theorem dL_bestWatch_10 : decode cL_bestWatch 10 = .ok (.goto 11, 3) := by decide +kernel
theorem dL_bestWatch_21 : decode cL_bestWatch 21 = .ok (.iconst 0, 1) := by decide +kernel
theorem dL_bestWatch_22 : decode cL_bestWatch 22 = .ok (.ireturn, 1) := by decide +kernel
theorem dL_tick_0 : decode cL_tick 0 = .ok (.aload_n 2, 1) := by decide +kernel
theorem dL_tick_1 : decode cL_tick 1 = .ok (.iconst 0, 1) := by decide +kernel
theorem dL_tick_2 : decode cL_tick 2 = .ok (.aload_n 0, 1) := by decide +kernel
theorem dL_tick_3 : decode cL_tick 3 = .ok (.iload_n 1, 1) := by decide +kernel
theorem dL_tick_4 : decode cL_tick 4 = .ok (.invokevirtual 85, 3) := by decide +kernel
theorem dL_tick_12 : decode cL_tick 12 = .ok (.astore_n 3, 1) := by decide +kernel
theorem dL_tick_13 : decode cL_tick 13 = .ok (.iconst 1, 1) := by decide +kernel
theorem dL_tick_14 : decode cL_tick 14 = .ok (.ireturn, 1) := by decide +kernel
theorem dL_tick_15 : decode cL_tick 15 = .ok (.astore_n 3, 1) := by decide +kernel
theorem dL_tick_16 : decode cL_tick 16 = .ok (.iconst 2, 1) := by decide +kernel
theorem dL_tick_17 : decode cL_tick 17 = .ok (.ireturn, 1) := by decide +kernel
theorem dL_tick_7 : decode cL_tick 7 = .ok (.i2l, 1) := by decide +kernel
theorem dL_tick_8 : decode cL_tick 8 = .ok (.lastore, 1) := by decide +kernel
theorem dL_tick_9 : decode cL_tick 9 = .ok (.goto 9, 3) := by decide +kernel
theorem dL_tick_18 : decode cL_tick 18 = .ok (.iconst 0, 1) := by decide +kernel
theorem dL_tick_19 : decode cL_tick 19 = .ok (.ireturn, 1) := by decide +kernel
theorem dL_send_0 : decode cL_send 0 = .ok (.aload 5, 2) := by decide +kernel
theorem dL_send_2 : decode cL_send 2 = .ok (.iconst 0, 1) := by decide +kernel
theorem dL_send_3 : decode cL_send 3 = .ok (.aload_n 0, 1) := by decide +kernel
theorem dL_send_4 : decode cL_send 4 = .ok (.iload_n 1, 1) := by decide +kernel
theorem dL_send_5 : decode cL_send 5 = .ok (.iload_n 2, 1) := by decide +kernel
theorem dL_send_6 : decode cL_send 6 = .ok (.iload_n 3, 1) := by decide +kernel
theorem dL_send_7 : decode cL_send 7 = .ok (.iload 4, 2) := by decide +kernel
theorem dL_send_9 : decode cL_send 9 = .ok (.invokevirtual 88, 3) := by decide +kernel
theorem dL_send_17 : decode cL_send 17 = .ok (.astore 6, 2) := by decide +kernel
theorem dL_send_19 : decode cL_send 19 = .ok (.iconst 1, 1) := by decide +kernel
theorem dL_send_20 : decode cL_send 20 = .ok (.ireturn, 1) := by decide +kernel
theorem dL_send_21 : decode cL_send 21 = .ok (.astore 6, 2) := by decide +kernel
theorem dL_send_23 : decode cL_send 23 = .ok (.iconst 2, 1) := by decide +kernel
theorem dL_send_24 : decode cL_send 24 = .ok (.ireturn, 1) := by decide +kernel
theorem dL_send_25 : decode cL_send 25 = .ok (.astore 6, 2) := by decide +kernel
theorem dL_send_27 : decode cL_send 27 = .ok (.iconst 3, 1) := by decide +kernel
theorem dL_send_28 : decode cL_send 28 = .ok (.ireturn, 1) := by decide +kernel
theorem dL_send_12 : decode cL_send 12 = .ok (.i2l, 1) := by decide +kernel
theorem dL_send_13 : decode cL_send 13 = .ok (.lastore, 1) := by decide +kernel
theorem dL_send_14 : decode cL_send 14 = .ok (.goto 15, 3) := by decide +kernel
theorem dL_send_29 : decode cL_send 29 = .ok (.iconst 0, 1) := by decide +kernel
theorem dL_send_30 : decode cL_send 30 = .ok (.ireturn, 1) := by decide +kernel
theorem dL_setShift_0 : decode cL_setShift 0 = .ok (.aload_n 3, 1) := by decide +kernel
theorem dL_setShift_1 : decode cL_setShift 1 = .ok (.iconst 0, 1) := by decide +kernel
theorem dL_setShift_2 : decode cL_setShift 2 = .ok (.aload_n 0, 1) := by decide +kernel
theorem dL_setShift_3 : decode cL_setShift 3 = .ok (.iload_n 1, 1) := by decide +kernel
theorem dL_setShift_4 : decode cL_setShift 4 = .ok (.iload_n 2, 1) := by decide +kernel
theorem dL_setShift_5 : decode cL_setShift 5 = .ok (.invokevirtual 92, 3) := by decide +kernel
theorem dL_setShift_13 : decode cL_setShift 13 = .ok (.astore 4, 2) := by decide +kernel
theorem dL_setShift_15 : decode cL_setShift 15 = .ok (.iconst 1, 1) := by decide +kernel
theorem dL_setShift_16 : decode cL_setShift 16 = .ok (.ireturn, 1) := by decide +kernel
theorem dL_setShift_17 : decode cL_setShift 17 = .ok (.astore 4, 2) := by decide +kernel
theorem dL_setShift_19 : decode cL_setShift 19 = .ok (.iconst 2, 1) := by decide +kernel
theorem dL_setShift_20 : decode cL_setShift 20 = .ok (.ireturn, 1) := by decide +kernel
theorem dL_setShift_8 : decode cL_setShift 8 = .ok (.i2l, 1) := by decide +kernel
theorem dL_setShift_9 : decode cL_setShift 9 = .ok (.lastore, 1) := by decide +kernel
theorem dL_setShift_10 : decode cL_setShift 10 = .ok (.goto 11, 3) := by decide +kernel
theorem dL_setShift_21 : decode cL_setShift 21 = .ok (.iconst 0, 1) := by decide +kernel
theorem dL_setShift_22 : decode cL_setShift 22 = .ok (.ireturn, 1) := by decide +kernel
theorem dL_watch_0 : decode cL_watch 0 = .ok (.aload 4, 2) := by decide +kernel
theorem dL_watch_2 : decode cL_watch 2 = .ok (.iconst 0, 1) := by decide +kernel
theorem dL_watch_3 : decode cL_watch 3 = .ok (.aload_n 0, 1) := by decide +kernel
theorem dL_watch_4 : decode cL_watch 4 = .ok (.iload_n 1, 1) := by decide +kernel
theorem dL_watch_5 : decode cL_watch 5 = .ok (.iload_n 2, 1) := by decide +kernel
theorem dL_watch_6 : decode cL_watch 6 = .ok (.iload_n 3, 1) := by decide +kernel
theorem dL_watch_7 : decode cL_watch 7 = .ok (.invokevirtual 95, 3) := by decide +kernel
theorem dL_watch_22 : decode cL_watch 22 = .ok (.astore 5, 2) := by decide +kernel
theorem dL_watch_24 : decode cL_watch 24 = .ok (.iconst 1, 1) := by decide +kernel
theorem dL_watch_25 : decode cL_watch 25 = .ok (.ireturn, 1) := by decide +kernel
theorem dL_watch_26 : decode cL_watch 26 = .ok (.astore 5, 2) := by decide +kernel
theorem dL_watch_28 : decode cL_watch 28 = .ok (.iconst 2, 1) := by decide +kernel
theorem dL_watch_29 : decode cL_watch 29 = .ok (.ireturn, 1) := by decide +kernel
theorem dL_watch_10 : decode cL_watch 10 = .ok (.ifCond .eq 7, 3) := by decide +kernel
theorem dL_watch_17 : decode cL_watch 17 = .ok (.lconst 0, 1) := by decide +kernel
theorem dL_watch_18 : decode cL_watch 18 = .ok (.lastore, 1) := by decide +kernel
theorem dL_watch_19 : decode cL_watch 19 = .ok (.goto 11, 3) := by decide +kernel
theorem dL_watch_30 : decode cL_watch 30 = .ok (.iconst 0, 1) := by decide +kernel
theorem dL_watch_31 : decode cL_watch 31 = .ok (.ireturn, 1) := by decide +kernel
theorem dL_watch_13 : decode cL_watch 13 = .ok (.lconst 1, 1) := by decide +kernel
theorem dL_watch_14 : decode cL_watch 14 = .ok (.goto 4, 3) := by decide +kernel
theorem dL_setBorn_0 : decode cL_setBorn 0 = .ok (.aload_n 3, 1) := by decide +kernel
theorem dL_setBorn_1 : decode cL_setBorn 1 = .ok (.iconst 0, 1) := by decide +kernel
theorem dL_setBorn_2 : decode cL_setBorn 2 = .ok (.aload_n 0, 1) := by decide +kernel
theorem dL_setBorn_3 : decode cL_setBorn 3 = .ok (.iload_n 1, 1) := by decide +kernel
theorem dL_setBorn_4 : decode cL_setBorn 4 = .ok (.iload_n 2, 1) := by decide +kernel
theorem dL_setBorn_5 : decode cL_setBorn 5 = .ok (.invokevirtual 99, 3) := by decide +kernel
theorem dL_setBorn_13 : decode cL_setBorn 13 = .ok (.astore 4, 2) := by decide +kernel
theorem dL_setBorn_15 : decode cL_setBorn 15 = .ok (.iconst 1, 1) := by decide +kernel
theorem dL_setBorn_16 : decode cL_setBorn 16 = .ok (.ireturn, 1) := by decide +kernel
theorem dL_setBorn_17 : decode cL_setBorn 17 = .ok (.astore 4, 2) := by decide +kernel
theorem dL_setBorn_19 : decode cL_setBorn 19 = .ok (.iconst 2, 1) := by decide +kernel
theorem dL_setBorn_20 : decode cL_setBorn 20 = .ok (.ireturn, 1) := by decide +kernel
theorem dL_setBorn_8 : decode cL_setBorn 8 = .ok (.i2l, 1) := by decide +kernel
theorem dL_setBorn_9 : decode cL_setBorn 9 = .ok (.lastore, 1) := by decide +kernel
theorem dL_setBorn_10 : decode cL_setBorn 10 = .ok (.goto 11, 3) := by decide +kernel
theorem dL_setBorn_21 : decode cL_setBorn 21 = .ok (.iconst 0, 1) := by decide +kernel
theorem dL_setBorn_22 : decode cL_setBorn 22 = .ok (.ireturn, 1) := by decide +kernel
theorem dL_charge_0 : decode cL_charge 0 = .ok (.aload_n 3, 1) := by decide +kernel
theorem dL_charge_1 : decode cL_charge 1 = .ok (.iconst 0, 1) := by decide +kernel
theorem dL_charge_2 : decode cL_charge 2 = .ok (.aload_n 0, 1) := by decide +kernel
theorem dL_charge_3 : decode cL_charge 3 = .ok (.iload_n 1, 1) := by decide +kernel
theorem dL_charge_4 : decode cL_charge 4 = .ok (.iload_n 2, 1) := by decide +kernel
theorem dL_charge_5 : decode cL_charge 5 = .ok (.invokevirtual 102, 3) := by decide +kernel
theorem dL_charge_13 : decode cL_charge 13 = .ok (.astore 4, 2) := by decide +kernel
theorem dL_charge_15 : decode cL_charge 15 = .ok (.iconst 1, 1) := by decide +kernel
theorem dL_charge_16 : decode cL_charge 16 = .ok (.ireturn, 1) := by decide +kernel
theorem dL_charge_17 : decode cL_charge 17 = .ok (.astore 4, 2) := by decide +kernel
theorem dL_charge_19 : decode cL_charge 19 = .ok (.iconst 2, 1) := by decide +kernel
theorem dL_charge_20 : decode cL_charge 20 = .ok (.ireturn, 1) := by decide +kernel
theorem dL_charge_8 : decode cL_charge 8 = .ok (.i2l, 1) := by decide +kernel
theorem dL_charge_9 : decode cL_charge 9 = .ok (.lastore, 1) := by decide +kernel
theorem dL_charge_10 : decode cL_charge 10 = .ok (.goto 11, 3) := by decide +kernel
theorem dL_charge_21 : decode cL_charge 21 = .ok (.iconst 0, 1) := by decide +kernel
theorem dL_charge_22 : decode cL_charge 22 = .ok (.ireturn, 1) := by decide +kernel
theorem dL_setMiss_0 : decode cL_setMiss 0 = .ok (.aload_n 2, 1) := by decide +kernel
theorem dL_setMiss_1 : decode cL_setMiss 1 = .ok (.iconst 0, 1) := by decide +kernel
theorem dL_setMiss_2 : decode cL_setMiss 2 = .ok (.aload_n 0, 1) := by decide +kernel
theorem dL_setMiss_3 : decode cL_setMiss 3 = .ok (.iload_n 1, 1) := by decide +kernel
theorem dL_setMiss_4 : decode cL_setMiss 4 = .ok (.invokevirtual 105, 3) := by decide +kernel
theorem dL_setMiss_12 : decode cL_setMiss 12 = .ok (.astore_n 3, 1) := by decide +kernel
theorem dL_setMiss_13 : decode cL_setMiss 13 = .ok (.iconst 1, 1) := by decide +kernel
theorem dL_setMiss_14 : decode cL_setMiss 14 = .ok (.ireturn, 1) := by decide +kernel
theorem dL_setMiss_7 : decode cL_setMiss 7 = .ok (.i2l, 1) := by decide +kernel
theorem dL_setMiss_8 : decode cL_setMiss 8 = .ok (.lastore, 1) := by decide +kernel
theorem dL_setMiss_9 : decode cL_setMiss 9 = .ok (.goto 6, 3) := by decide +kernel
theorem dL_setMiss_15 : decode cL_setMiss 15 = .ok (.iconst 0, 1) := by decide +kernel
theorem dL_setMiss_16 : decode cL_setMiss 16 = .ok (.ireturn, 1) := by decide +kernel
theorem dL_reportByte_0 : decode cL_reportByte 0 = .ok (.aload_n 2, 1) := by decide +kernel
theorem dL_reportByte_1 : decode cL_reportByte 1 = .ok (.iconst 0, 1) := by decide +kernel
theorem dL_reportByte_2 : decode cL_reportByte 2 = .ok (.aload_n 0, 1) := by decide +kernel
theorem dL_reportByte_3 : decode cL_reportByte 3 = .ok (.iload_n 1, 1) := by decide +kernel
theorem dL_reportByte_4 : decode cL_reportByte 4 = .ok (.invokevirtual 108, 3) := by decide +kernel
theorem dL_reportByte_12 : decode cL_reportByte 12 = .ok (.astore_n 3, 1) := by decide +kernel
theorem dL_reportByte_13 : decode cL_reportByte 13 = .ok (.iconst 1, 1) := by decide +kernel
theorem dL_reportByte_14 : decode cL_reportByte 14 = .ok (.ireturn, 1) := by decide +kernel
theorem dL_reportByte_7 : decode cL_reportByte 7 = .ok (.i2l, 1) := by decide +kernel
theorem dL_reportByte_8 : decode cL_reportByte 8 = .ok (.lastore, 1) := by decide +kernel
theorem dL_reportByte_9 : decode cL_reportByte 9 = .ok (.goto 6, 3) := by decide +kernel
theorem dL_reportByte_15 : decode cL_reportByte 15 = .ok (.iconst 0, 1) := by decide +kernel
theorem dL_reportByte_16 : decode cL_reportByte 16 = .ok (.ireturn, 1) := by decide +kernel
theorem dL_restore_0 : decode cL_restore 0 = .ok (.aload_n 1, 1) := by decide +kernel
theorem dL_restore_1 : decode cL_restore 1 = .ok (.iconst 0, 1) := by decide +kernel
theorem dL_restore_2 : decode cL_restore 2 = .ok (.aload_n 0, 1) := by decide +kernel
theorem dL_restore_3 : decode cL_restore 3 = .ok (.invokevirtual 111, 3) := by decide +kernel
theorem dL_restore_11 : decode cL_restore 11 = .ok (.astore_n 2, 1) := by decide +kernel
theorem dL_restore_12 : decode cL_restore 12 = .ok (.iconst 1, 1) := by decide +kernel
theorem dL_restore_13 : decode cL_restore 13 = .ok (.ireturn, 1) := by decide +kernel
theorem dL_restore_6 : decode cL_restore 6 = .ok (.i2l, 1) := by decide +kernel
theorem dL_restore_7 : decode cL_restore 7 = .ok (.lastore, 1) := by decide +kernel
theorem dL_restore_8 : decode cL_restore 8 = .ok (.goto 6, 3) := by decide +kernel
theorem dL_restore_14 : decode cL_restore 14 = .ok (.iconst 0, 1) := by decide +kernel
theorem dL_restore_15 : decode cL_restore 15 = .ok (.ireturn, 1) := by decide +kernel
theorem dL_duty_0 : decode cL_duty 0 = .ok (.aload_n 2, 1) := by decide +kernel
theorem dL_duty_1 : decode cL_duty 1 = .ok (.iconst 0, 1) := by decide +kernel
theorem dL_duty_2 : decode cL_duty 2 = .ok (.aload_n 0, 1) := by decide +kernel
theorem dL_duty_3 : decode cL_duty 3 = .ok (.iload_n 1, 1) := by decide +kernel
theorem dL_duty_4 : decode cL_duty 4 = .ok (.invokevirtual 50, 3) := by decide +kernel
theorem dL_duty_12 : decode cL_duty 12 = .ok (.astore_n 3, 1) := by decide +kernel
theorem dL_duty_13 : decode cL_duty 13 = .ok (.iconst 1, 1) := by decide +kernel
theorem dL_duty_14 : decode cL_duty 14 = .ok (.ireturn, 1) := by decide +kernel
theorem dL_duty_7 : decode cL_duty 7 = .ok (.f2d, 1) := by decide +kernel
theorem dL_duty_8 : decode cL_duty 8 = .ok (.dastore, 1) := by decide +kernel
theorem dL_duty_9 : decode cL_duty 9 = .ok (.goto 6, 3) := by decide +kernel
theorem dL_duty_15 : decode cL_duty 15 = .ok (.iconst 0, 1) := by decide +kernel
theorem dL_duty_16 : decode cL_duty 16 = .ok (.ireturn, 1) := by decide +kernel
