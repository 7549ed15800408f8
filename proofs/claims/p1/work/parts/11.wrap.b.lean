theorem dL_feed_0 : decode cL_feed 0 = .ok (.aload 6, 2) := by decide +kernel
theorem dL_feed_2 : decode cL_feed 2 = .ok (.iconst 0, 1) := by decide +kernel
theorem dL_feed_3 : decode cL_feed 3 = .ok (.aload_n 0, 1) := by decide +kernel
theorem dL_feed_4 : decode cL_feed 4 = .ok (.iload_n 1, 1) := by decide +kernel
theorem dL_feed_5 : decode cL_feed 5 = .ok (.iload_n 2, 1) := by decide +kernel
theorem dL_feed_6 : decode cL_feed 6 = .ok (.iload_n 3, 1) := by decide +kernel
theorem dL_feed_7 : decode cL_feed 7 = .ok (.iload 4, 2) := by decide +kernel
theorem dL_feed_9 : decode cL_feed 9 = .ok (.iload 5, 2) := by decide +kernel
theorem dL_feed_11 : decode cL_feed 11 = .ok (.invokevirtual 7, 3) := by decide +kernel
theorem dL_feed_14 : decode cL_feed 14 = .ok (.i2l, 1) := by decide +kernel
theorem dL_feed_15 : decode cL_feed 15 = .ok (.lastore, 1) := by decide +kernel
theorem dL_feed_16 : decode cL_feed 16 = .ok (.goto 7, 3) := by decide +kernel
theorem dL_feed_23 : decode cL_feed 23 = .ok (.iconst 0, 1) := by decide +kernel
theorem dL_feed_24 : decode cL_feed 24 = .ok (.ireturn, 1) := by decide +kernel
theorem dL_truncate_0 : decode cL_truncate 0 = .ok (.aload_n 2, 1) := by decide +kernel
theorem dL_truncate_1 : decode cL_truncate 1 = .ok (.iconst 0, 1) := by decide +kernel
theorem dL_truncate_2 : decode cL_truncate 2 = .ok (.aload_n 0, 1) := by decide +kernel
theorem dL_truncate_3 : decode cL_truncate 3 = .ok (.iload_n 1, 1) := by decide +kernel
theorem dL_truncate_4 : decode cL_truncate 4 = .ok (.invokevirtual 15, 3) := by decide +kernel
theorem dL_truncate_12 : decode cL_truncate 12 = .ok (.astore_n 3, 1) := by decide +kernel
theorem dL_truncate_13 : decode cL_truncate 13 = .ok (.iconst 1, 1) := by decide +kernel
theorem dL_truncate_14 : decode cL_truncate 14 = .ok (.ireturn, 1) := by decide +kernel
theorem dL_truncate_7 : decode cL_truncate 7 = .ok (.i2l, 1) := by decide +kernel
theorem dL_truncate_8 : decode cL_truncate 8 = .ok (.lastore, 1) := by decide +kernel
theorem dL_truncate_9 : decode cL_truncate 9 = .ok (.goto 6, 3) := by decide +kernel
theorem dL_truncate_15 : decode cL_truncate 15 = .ok (.iconst 0, 1) := by decide +kernel
theorem dL_truncate_16 : decode cL_truncate 16 = .ok (.ireturn, 1) := by decide +kernel
theorem dL_readText_0 : decode cL_readText 0 = .ok (.aload_n 1, 1) := by decide +kernel
theorem dL_readText_1 : decode cL_readText 1 = .ok (.iconst 0, 1) := by decide +kernel
theorem dL_readText_2 : decode cL_readText 2 = .ok (.aload_n 0, 1) := by decide +kernel
theorem dL_readText_3 : decode cL_readText 3 = .ok (.invokevirtual 21, 3) := by decide +kernel
theorem dL_readText_6 : decode cL_readText 6 = .ok (.i2l, 1) := by decide +kernel
theorem dL_readText_7 : decode cL_readText 7 = .ok (.lastore, 1) := by decide +kernel
theorem dL_readText_8 : decode cL_readText 8 = .ok (.goto 6, 3) := by decide +kernel
theorem dL_readText_14 : decode cL_readText 14 = .ok (.iconst 0, 1) := by decide +kernel
theorem dL_readText_15 : decode cL_readText 15 = .ok (.ireturn, 1) := by decide +kernel
theorem dL_runScript_0 : decode cL_runScript 0 = .ok (.aload_n 1, 1) := by decide +kernel
theorem dL_runScript_1 : decode cL_runScript 1 = .ok (.iconst 0, 1) := by decide +kernel
theorem dL_runScript_2 : decode cL_runScript 2 = .ok (.aload_n 0, 1) := by decide +kernel
theorem dL_runScript_3 : decode cL_runScript 3 = .ok (.invokevirtual 25, 3) := by decide +kernel
theorem dL_runScript_6 : decode cL_runScript 6 = .ok (.i2l, 1) := by decide +kernel
theorem dL_runScript_7 : decode cL_runScript 7 = .ok (.lastore, 1) := by decide +kernel
theorem dL_runScript_8 : decode cL_runScript 8 = .ok (.goto 6, 3) := by decide +kernel
theorem dL_runScript_14 : decode cL_runScript 14 = .ok (.iconst 0, 1) := by decide +kernel
theorem dL_runScript_15 : decode cL_runScript 15 = .ok (.ireturn, 1) := by decide +kernel
theorem dL_setting_0 : decode cL_setting 0 = .ok (.aload_n 2, 1) := by decide +kernel
theorem dL_setting_1 : decode cL_setting 1 = .ok (.iconst 0, 1) := by decide +kernel
theorem dL_setting_2 : decode cL_setting 2 = .ok (.aload_n 0, 1) := by decide +kernel
theorem dL_setting_3 : decode cL_setting 3 = .ok (.iload_n 1, 1) := by decide +kernel
theorem dL_setting_4 : decode cL_setting 4 = .ok (.invokevirtual 28, 3) := by decide +kernel
theorem dL_setting_12 : decode cL_setting 12 = .ok (.astore_n 3, 1) := by decide +kernel
theorem dL_setting_13 : decode cL_setting 13 = .ok (.iconst 1, 1) := by decide +kernel
theorem dL_setting_14 : decode cL_setting 14 = .ok (.ireturn, 1) := by decide +kernel
theorem dL_setting_7 : decode cL_setting 7 = .ok (.i2l, 1) := by decide +kernel
theorem dL_setting_8 : decode cL_setting 8 = .ok (.lastore, 1) := by decide +kernel
theorem dL_setting_9 : decode cL_setting 9 = .ok (.goto 6, 3) := by decide +kernel
theorem dL_setting_15 : decode cL_setting 15 = .ok (.iconst 0, 1) := by decide +kernel
theorem dL_setting_16 : decode cL_setting 16 = .ok (.ireturn, 1) := by decide +kernel
theorem dL_node_0 : decode cL_node 0 = .ok (.aload_n 3, 1) := by decide +kernel
theorem dL_node_1 : decode cL_node 1 = .ok (.iconst 0, 1) := by decide +kernel
theorem dL_node_2 : decode cL_node 2 = .ok (.aload_n 0, 1) := by decide +kernel
theorem dL_node_3 : decode cL_node 3 = .ok (.iload_n 1, 1) := by decide +kernel
theorem dL_node_4 : decode cL_node 4 = .ok (.iload_n 2, 1) := by decide +kernel
theorem dL_node_5 : decode cL_node 5 = .ok (.invokevirtual 31, 3) := by decide +kernel
theorem dL_node_13 : decode cL_node 13 = .ok (.astore 4, 2) := by decide +kernel
theorem dL_node_15 : decode cL_node 15 = .ok (.iconst 1, 1) := by decide +kernel
theorem dL_node_16 : decode cL_node 16 = .ok (.ireturn, 1) := by decide +kernel
theorem dL_message_0 : decode cL_message 0 = .ok (.aload_n 3, 1) := by decide +kernel
theorem dL_message_1 : decode cL_message 1 = .ok (.iconst 0, 1) := by decide +kernel
theorem dL_message_2 : decode cL_message 2 = .ok (.aload_n 0, 1) := by decide +kernel
theorem dL_message_3 : decode cL_message 3 = .ok (.iload_n 1, 1) := by decide +kernel
theorem dL_message_4 : decode cL_message 4 = .ok (.iload_n 2, 1) := by decide +kernel
theorem dL_message_5 : decode cL_message 5 = .ok (.invokevirtual 40, 3) := by decide +kernel
theorem dL_message_13 : decode cL_message 13 = .ok (.astore 4, 2) := by decide +kernel
theorem dL_message_15 : decode cL_message 15 = .ok (.iconst 1, 1) := by decide +kernel
theorem dL_message_16 : decode cL_message 16 = .ok (.ireturn, 1) := by decide +kernel
theorem dL_letter_0 : decode cL_letter 0 = .ok (.aload_n 3, 1) := by decide +kernel
theorem dL_letter_1 : decode cL_letter 1 = .ok (.iconst 0, 1) := by decide +kernel
theorem dL_letter_2 : decode cL_letter 2 = .ok (.aload_n 0, 1) := by decide +kernel
theorem dL_letter_3 : decode cL_letter 3 = .ok (.iload_n 1, 1) := by decide +kernel
theorem dL_letter_4 : decode cL_letter 4 = .ok (.iload_n 2, 1) := by decide +kernel
theorem dL_letter_5 : decode cL_letter 5 = .ok (.invokevirtual 43, 3) := by decide +kernel
theorem dL_letter_13 : decode cL_letter 13 = .ok (.astore 4, 2) := by decide +kernel
theorem dL_letter_15 : decode cL_letter 15 = .ok (.iconst 1, 1) := by decide +kernel
theorem dL_letter_16 : decode cL_letter 16 = .ok (.ireturn, 1) := by decide +kernel
theorem dL_inTable_0 : decode cL_inTable 0 = .ok (.aload_n 3, 1) := by decide +kernel
theorem dL_inTable_1 : decode cL_inTable 1 = .ok (.iconst 0, 1) := by decide +kernel
theorem dL_inTable_2 : decode cL_inTable 2 = .ok (.aload_n 0, 1) := by decide +kernel
theorem dL_inTable_3 : decode cL_inTable 3 = .ok (.iload_n 1, 1) := by decide +kernel
theorem dL_inTable_4 : decode cL_inTable 4 = .ok (.iload_n 2, 1) := by decide +kernel
theorem dL_inTable_5 : decode cL_inTable 5 = .ok (.invokevirtual 46, 3) := by decide +kernel
theorem dL_inTable_20 : decode cL_inTable 20 = .ok (.astore 4, 2) := by decide +kernel
theorem dL_inTable_22 : decode cL_inTable 22 = .ok (.iconst 1, 1) := by decide +kernel
theorem dL_inTable_23 : decode cL_inTable 23 = .ok (.ireturn, 1) := by decide +kernel
theorem dL_duty_0 : decode cL_duty 0 = .ok (.aload_n 2, 1) := by decide +kernel
theorem dL_duty_1 : decode cL_duty 1 = .ok (.iconst 0, 1) := by decide +kernel
theorem dL_duty_2 : decode cL_duty 2 = .ok (.aload_n 0, 1) := by decide +kernel
theorem dL_duty_3 : decode cL_duty 3 = .ok (.iload_n 1, 1) := by decide +kernel
theorem dL_duty_4 : decode cL_duty 4 = .ok (.invokevirtual 50, 3) := by decide +kernel
theorem dL_duty_12 : decode cL_duty 12 = .ok (.astore_n 3, 1) := by decide +kernel
theorem dL_duty_13 : decode cL_duty 13 = .ok (.iconst 1, 1) := by decide +kernel
theorem dL_duty_14 : decode cL_duty 14 = .ok (.ireturn, 1) := by decide +kernel
theorem dL_meetsIn_0 : decode cL_meetsIn 0 = .ok (.aload_n 3, 1) := by decide +kernel
theorem dL_meetsIn_1 : decode cL_meetsIn 1 = .ok (.iconst 0, 1) := by decide +kernel
theorem dL_meetsIn_2 : decode cL_meetsIn 2 = .ok (.aload_n 0, 1) := by decide +kernel
theorem dL_meetsIn_3 : decode cL_meetsIn 3 = .ok (.iload_n 1, 1) := by decide +kernel
theorem dL_meetsIn_4 : decode cL_meetsIn 4 = .ok (.iload_n 2, 1) := by decide +kernel
theorem dL_meetsIn_5 : decode cL_meetsIn 5 = .ok (.invokevirtual 57, 3) := by decide +kernel
theorem dL_meetsIn_13 : decode cL_meetsIn 13 = .ok (.astore 4, 2) := by decide +kernel
theorem dL_meetsIn_15 : decode cL_meetsIn 15 = .ok (.iconst 1, 1) := by decide +kernel
theorem dL_meetsIn_16 : decode cL_meetsIn 16 = .ok (.ireturn, 1) := by decide +kernel
theorem dL_hops_0 : decode cL_hops 0 = .ok (.aload_n 3, 1) := by decide +kernel
theorem dL_hops_1 : decode cL_hops 1 = .ok (.iconst 0, 1) := by decide +kernel
theorem dL_hops_2 : decode cL_hops 2 = .ok (.aload_n 0, 1) := by decide +kernel
theorem dL_hops_3 : decode cL_hops 3 = .ok (.iload_n 1, 1) := by decide +kernel
theorem dL_hops_4 : decode cL_hops 4 = .ok (.iload_n 2, 1) := by decide +kernel
theorem dL_hops_5 : decode cL_hops 5 = .ok (.invokevirtual 60, 3) := by decide +kernel
theorem dL_hops_13 : decode cL_hops 13 = .ok (.astore 4, 2) := by decide +kernel
theorem dL_hops_15 : decode cL_hops 15 = .ok (.iconst 1, 1) := by decide +kernel
theorem dL_hops_16 : decode cL_hops 16 = .ok (.ireturn, 1) := by decide +kernel
theorem dL_nextNode_0 : decode cL_nextNode 0 = .ok (.aload_n 3, 1) := by decide +kernel
theorem dL_nextNode_1 : decode cL_nextNode 1 = .ok (.iconst 0, 1) := by decide +kernel
theorem dL_nextNode_2 : decode cL_nextNode 2 = .ok (.aload_n 0, 1) := by decide +kernel
theorem dL_nextNode_3 : decode cL_nextNode 3 = .ok (.iload_n 1, 1) := by decide +kernel
theorem dL_nextNode_4 : decode cL_nextNode 4 = .ok (.iload_n 2, 1) := by decide +kernel
theorem dL_nextNode_5 : decode cL_nextNode 5 = .ok (.invokevirtual 63, 3) := by decide +kernel
theorem dL_nextNode_13 : decode cL_nextNode 13 = .ok (.astore 4, 2) := by decide +kernel
theorem dL_nextNode_15 : decode cL_nextNode 15 = .ok (.iconst 1, 1) := by decide +kernel
theorem dL_nextNode_16 : decode cL_nextNode 16 = .ok (.ireturn, 1) := by decide +kernel
theorem dL_arrives_0 : decode cL_arrives 0 = .ok (.aload_n 2, 1) := by decide +kernel
theorem dL_arrives_1 : decode cL_arrives 1 = .ok (.iconst 0, 1) := by decide +kernel
theorem dL_arrives_2 : decode cL_arrives 2 = .ok (.aload_n 0, 1) := by decide +kernel
theorem dL_arrives_3 : decode cL_arrives 3 = .ok (.iload_n 1, 1) := by decide +kernel
theorem dL_arrives_4 : decode cL_arrives 4 = .ok (.invokevirtual 66, 3) := by decide +kernel
theorem dL_arrives_12 : decode cL_arrives 12 = .ok (.astore_n 3, 1) := by decide +kernel
theorem dL_arrives_13 : decode cL_arrives 13 = .ok (.iconst 1, 1) := by decide +kernel
theorem dL_arrives_14 : decode cL_arrives 14 = .ok (.ireturn, 1) := by decide +kernel
theorem dL_wouldArrive_0 : decode cL_wouldArrive 0 = .ok (.aload 4, 2) := by decide +kernel
theorem dL_wouldArrive_2 : decode cL_wouldArrive 2 = .ok (.iconst 0, 1) := by decide +kernel
theorem dL_wouldArrive_3 : decode cL_wouldArrive 3 = .ok (.aload_n 0, 1) := by decide +kernel
theorem dL_wouldArrive_4 : decode cL_wouldArrive 4 = .ok (.iload_n 1, 1) := by decide +kernel
theorem dL_wouldArrive_5 : decode cL_wouldArrive 5 = .ok (.iload_n 2, 1) := by decide +kernel
theorem dL_wouldArrive_6 : decode cL_wouldArrive 6 = .ok (.iload_n 3, 1) := by decide +kernel
theorem dL_wouldArrive_7 : decode cL_wouldArrive 7 = .ok (.invokevirtual 69, 3) := by decide +kernel
theorem dL_wouldArrive_15 : decode cL_wouldArrive 15 = .ok (.astore 5, 2) := by decide +kernel
theorem dL_wouldArrive_17 : decode cL_wouldArrive 17 = .ok (.iconst 1, 1) := by decide +kernel
theorem dL_wouldArrive_18 : decode cL_wouldArrive 18 = .ok (.ireturn, 1) := by decide +kernel
theorem dL_outIn_0 : decode cL_outIn 0 = .ok (.aload_n 2, 1) := by decide +kernel
theorem dL_outIn_1 : decode cL_outIn 1 = .ok (.iconst 0, 1) := by decide +kernel
theorem dL_outIn_2 : decode cL_outIn 2 = .ok (.aload_n 0, 1) := by decide +kernel
theorem dL_outIn_3 : decode cL_outIn 3 = .ok (.iload_n 1, 1) := by decide +kernel
theorem dL_outIn_4 : decode cL_outIn 4 = .ok (.invokevirtual 73, 3) := by decide +kernel
theorem dL_outIn_12 : decode cL_outIn 12 = .ok (.astore_n 3, 1) := by decide +kernel
theorem dL_outIn_13 : decode cL_outIn 13 = .ok (.iconst 1, 1) := by decide +kernel
theorem dL_outIn_14 : decode cL_outIn 14 = .ok (.ireturn, 1) := by decide +kernel
theorem dL_energyIn_0 : decode cL_energyIn 0 = .ok (.aload_n 3, 1) := by decide +kernel
theorem dL_energyIn_1 : decode cL_energyIn 1 = .ok (.iconst 0, 1) := by decide +kernel
theorem dL_energyIn_2 : decode cL_energyIn 2 = .ok (.aload_n 0, 1) := by decide +kernel
theorem dL_energyIn_3 : decode cL_energyIn 3 = .ok (.iload_n 1, 1) := by decide +kernel
theorem dL_energyIn_4 : decode cL_energyIn 4 = .ok (.iload_n 2, 1) := by decide +kernel
theorem dL_energyIn_5 : decode cL_energyIn 5 = .ok (.invokevirtual 76, 3) := by decide +kernel
theorem dL_energyIn_13 : decode cL_energyIn 13 = .ok (.astore 4, 2) := by decide +kernel
theorem dL_energyIn_15 : decode cL_energyIn 15 = .ok (.iconst 1, 1) := by decide +kernel
theorem dL_energyIn_16 : decode cL_energyIn 16 = .ok (.ireturn, 1) := by decide +kernel
theorem dL_bestShift_0 : decode cL_bestShift 0 = .ok (.aload_n 2, 1) := by decide +kernel
theorem dL_bestShift_1 : decode cL_bestShift 1 = .ok (.iconst 0, 1) := by decide +kernel
theorem dL_bestShift_2 : decode cL_bestShift 2 = .ok (.aload_n 0, 1) := by decide +kernel
theorem dL_bestShift_3 : decode cL_bestShift 3 = .ok (.iload_n 1, 1) := by decide +kernel
theorem dL_bestShift_4 : decode cL_bestShift 4 = .ok (.invokevirtual 79, 3) := by decide +kernel
theorem dL_bestShift_12 : decode cL_bestShift 12 = .ok (.astore_n 3, 1) := by decide +kernel
theorem dL_bestShift_13 : decode cL_bestShift 13 = .ok (.iconst 1, 1) := by decide +kernel
theorem dL_bestShift_14 : decode cL_bestShift 14 = .ok (.ireturn, 1) := by decide +kernel
theorem dL_bestWatch_0 : decode cL_bestWatch 0 = .ok (.aload_n 3, 1) := by decide +kernel
theorem dL_bestWatch_1 : decode cL_bestWatch 1 = .ok (.iconst 0, 1) := by decide +kernel
theorem dL_bestWatch_2 : decode cL_bestWatch 2 = .ok (.aload_n 0, 1) := by decide +kernel
theorem dL_bestWatch_3 : decode cL_bestWatch 3 = .ok (.iload_n 1, 1) := by decide +kernel
theorem dL_bestWatch_4 : decode cL_bestWatch 4 = .ok (.iload_n 2, 1) := by decide +kernel
theorem dL_bestWatch_5 : decode cL_bestWatch 5 = .ok (.invokevirtual 82, 3) := by decide +kernel
theorem dL_bestWatch_13 : decode cL_bestWatch 13 = .ok (.astore 4, 2) := by decide +kernel
theorem dL_bestWatch_15 : decode cL_bestWatch 15 = .ok (.iconst 1, 1) := by decide +kernel
theorem dL_bestWatch_16 : decode cL_bestWatch 16 = .ok (.ireturn, 1) := by decide +kernel
theorem dL_send_0 : decode cL_send 0 = .ok (.aload 5, 2) := by decide +kernel
theorem dL_send_2 : decode cL_send 2 = .ok (.iconst 0, 1) := by decide +kernel
theorem dL_send_3 : decode cL_send 3 = .ok (.aload_n 0, 1) := by decide +kernel
theorem dL_send_4 : decode cL_send 4 = .ok (.iload_n 1, 1) := by decide +kernel
theorem dL_send_5 : decode cL_send 5 = .ok (.iload_n 2, 1) := by decide +kernel
theorem dL_send_6 : decode cL_send 6 = .ok (.iload_n 3, 1) := by decide +kernel
theorem dL_send_7 : decode cL_send 7 = .ok (.iload 4, 2) := by decide +kernel
theorem dL_send_9 : decode cL_send 9 = .ok (.invokevirtual 88, 3) := by decide +kernel
theorem dL_send_17 : decode cL_send 17 = .ok (.astore 6, 2) := by decide +kernel
theorem dL_send_19 : decode cL_send 19 = .ok (.iconst 1, 1) := by decide +kernel
theorem dL_send_20 : decode cL_send 20 = .ok (.ireturn, 1) := by decide +kernel
theorem dL_setShift_0 : decode cL_setShift 0 = .ok (.aload_n 3, 1) := by decide +kernel
theorem dL_setShift_1 : decode cL_setShift 1 = .ok (.iconst 0, 1) := by decide +kernel
theorem dL_setShift_2 : decode cL_setShift 2 = .ok (.aload_n 0, 1) := by decide +kernel
theorem dL_setShift_3 : decode cL_setShift 3 = .ok (.iload_n 1, 1) := by decide +kernel
theorem dL_setShift_4 : decode cL_setShift 4 = .ok (.iload_n 2, 1) := by decide +kernel
theorem dL_setShift_5 : decode cL_setShift 5 = .ok (.invokevirtual 92, 3) := by decide +kernel
theorem dL_setShift_13 : decode cL_setShift 13 = .ok (.astore 4, 2) := by decide +kernel
theorem dL_setShift_15 : decode cL_setShift 15 = .ok (.iconst 1, 1) := by decide +kernel
theorem dL_setShift_16 : decode cL_setShift 16 = .ok (.ireturn, 1) := by decide +kernel
theorem dL_watch_0 : decode cL_watch 0 = .ok (.aload 4, 2) := by decide +kernel
theorem dL_watch_2 : decode cL_watch 2 = .ok (.iconst 0, 1) := by decide +kernel
theorem dL_watch_3 : decode cL_watch 3 = .ok (.aload_n 0, 1) := by decide +kernel
theorem dL_watch_4 : decode cL_watch 4 = .ok (.iload_n 1, 1) := by decide +kernel
theorem dL_watch_5 : decode cL_watch 5 = .ok (.iload_n 2, 1) := by decide +kernel
theorem dL_watch_6 : decode cL_watch 6 = .ok (.iload_n 3, 1) := by decide +kernel
theorem dL_watch_7 : decode cL_watch 7 = .ok (.invokevirtual 95, 3) := by decide +kernel
theorem dL_watch_22 : decode cL_watch 22 = .ok (.astore 5, 2) := by decide +kernel
theorem dL_watch_24 : decode cL_watch 24 = .ok (.iconst 1, 1) := by decide +kernel
theorem dL_watch_25 : decode cL_watch 25 = .ok (.ireturn, 1) := by decide +kernel
theorem dL_setBorn_0 : decode cL_setBorn 0 = .ok (.aload_n 3, 1) := by decide +kernel
theorem dL_setBorn_1 : decode cL_setBorn 1 = .ok (.iconst 0, 1) := by decide +kernel
theorem dL_setBorn_2 : decode cL_setBorn 2 = .ok (.aload_n 0, 1) := by decide +kernel
theorem dL_setBorn_3 : decode cL_setBorn 3 = .ok (.iload_n 1, 1) := by decide +kernel
theorem dL_setBorn_4 : decode cL_setBorn 4 = .ok (.iload_n 2, 1) := by decide +kernel
theorem dL_setBorn_5 : decode cL_setBorn 5 = .ok (.invokevirtual 99, 3) := by decide +kernel
theorem dL_setBorn_13 : decode cL_setBorn 13 = .ok (.astore 4, 2) := by decide +kernel
theorem dL_setBorn_15 : decode cL_setBorn 15 = .ok (.iconst 1, 1) := by decide +kernel
theorem dL_setBorn_16 : decode cL_setBorn 16 = .ok (.ireturn, 1) := by decide +kernel
theorem dL_charge_0 : decode cL_charge 0 = .ok (.aload_n 3, 1) := by decide +kernel
theorem dL_charge_1 : decode cL_charge 1 = .ok (.iconst 0, 1) := by decide +kernel
theorem dL_charge_2 : decode cL_charge 2 = .ok (.aload_n 0, 1) := by decide +kernel
theorem dL_charge_3 : decode cL_charge 3 = .ok (.iload_n 1, 1) := by decide +kernel
theorem dL_charge_4 : decode cL_charge 4 = .ok (.iload_n 2, 1) := by decide +kernel
theorem dL_charge_5 : decode cL_charge 5 = .ok (.invokevirtual 102, 3) := by decide +kernel
theorem dL_charge_13 : decode cL_charge 13 = .ok (.astore 4, 2) := by decide +kernel
theorem dL_charge_15 : decode cL_charge 15 = .ok (.iconst 1, 1) := by decide +kernel
theorem dL_charge_16 : decode cL_charge 16 = .ok (.ireturn, 1) := by decide +kernel
theorem dL_link_0 : decode cL_link 0 = .ok (.aload_n 3, 1) := by decide +kernel
theorem dL_link_1 : decode cL_link 1 = .ok (.iconst 0, 1) := by decide +kernel
theorem dL_link_2 : decode cL_link 2 = .ok (.aload_n 0, 1) := by decide +kernel
theorem dL_link_3 : decode cL_link 3 = .ok (.iload_n 1, 1) := by decide +kernel
theorem dL_link_4 : decode cL_link 4 = .ok (.iload_n 2, 1) := by decide +kernel
theorem dL_link_5 : decode cL_link 5 = .ok (.invokevirtual 37, 3) := by decide +kernel
theorem dL_link_13 : decode cL_link 13 = .ok (.astore 4, 2) := by decide +kernel
theorem dL_link_15 : decode cL_link 15 = .ok (.iconst 1, 1) := by decide +kernel
theorem dL_link_16 : decode cL_link 16 = .ok (.ireturn, 1) := by decide +kernel
theorem dL_awakeIn_0 : decode cL_awakeIn 0 = .ok (.aload_n 2, 1) := by decide +kernel
theorem dL_awakeIn_1 : decode cL_awakeIn 1 = .ok (.iconst 0, 1) := by decide +kernel
theorem dL_awakeIn_2 : decode cL_awakeIn 2 = .ok (.aload_n 0, 1) := by decide +kernel
theorem dL_awakeIn_3 : decode cL_awakeIn 3 = .ok (.iload_n 1, 1) := by decide +kernel
theorem dL_awakeIn_4 : decode cL_awakeIn 4 = .ok (.invokevirtual 54, 3) := by decide +kernel
theorem dL_awakeIn_12 : decode cL_awakeIn 12 = .ok (.astore_n 3, 1) := by decide +kernel
theorem dL_awakeIn_13 : decode cL_awakeIn 13 = .ok (.iconst 1, 1) := by decide +kernel
theorem dL_awakeIn_14 : decode cL_awakeIn 14 = .ok (.ireturn, 1) := by decide +kernel
theorem dL_awakeIn_7 : decode cL_awakeIn 7 = .ok (.i2l, 1) := by decide +kernel
theorem dL_awakeIn_8 : decode cL_awakeIn 8 = .ok (.lastore, 1) := by decide +kernel
theorem dL_awakeIn_9 : decode cL_awakeIn 9 = .ok (.goto 6, 3) := by decide +kernel
theorem dL_awakeIn_15 : decode cL_awakeIn 15 = .ok (.iconst 0, 1) := by decide +kernel
theorem dL_awakeIn_16 : decode cL_awakeIn 16 = .ok (.ireturn, 1) := by decide +kernel
theorem dL_tick_0 : decode cL_tick 0 = .ok (.aload_n 2, 1) := by decide +kernel
theorem dL_tick_1 : decode cL_tick 1 = .ok (.iconst 0, 1) := by decide +kernel
theorem dL_tick_2 : decode cL_tick 2 = .ok (.aload_n 0, 1) := by decide +kernel
theorem dL_tick_3 : decode cL_tick 3 = .ok (.iload_n 1, 1) := by decide +kernel
theorem dL_tick_4 : decode cL_tick 4 = .ok (.invokevirtual 85, 3) := by decide +kernel
theorem dL_tick_12 : decode cL_tick 12 = .ok (.astore_n 3, 1) := by decide +kernel
theorem dL_tick_13 : decode cL_tick 13 = .ok (.iconst 1, 1) := by decide +kernel
theorem dL_tick_14 : decode cL_tick 14 = .ok (.ireturn, 1) := by decide +kernel
theorem dL_tick_7 : decode cL_tick 7 = .ok (.i2l, 1) := by decide +kernel
theorem dL_tick_8 : decode cL_tick 8 = .ok (.lastore, 1) := by decide +kernel
theorem dL_tick_9 : decode cL_tick 9 = .ok (.goto 9, 3) := by decide +kernel
theorem dL_tick_18 : decode cL_tick 18 = .ok (.iconst 0, 1) := by decide +kernel
theorem dL_tick_19 : decode cL_tick 19 = .ok (.ireturn, 1) := by decide +kernel
theorem dL_setMiss_0 : decode cL_setMiss 0 = .ok (.aload_n 2, 1) := by decide +kernel
theorem dL_setMiss_1 : decode cL_setMiss 1 = .ok (.iconst 0, 1) := by decide +kernel
theorem dL_setMiss_2 : decode cL_setMiss 2 = .ok (.aload_n 0, 1) := by decide +kernel
theorem dL_setMiss_3 : decode cL_setMiss 3 = .ok (.iload_n 1, 1) := by decide +kernel
theorem dL_setMiss_4 : decode cL_setMiss 4 = .ok (.invokevirtual 105, 3) := by decide +kernel
theorem dL_setMiss_12 : decode cL_setMiss 12 = .ok (.astore_n 3, 1) := by decide +kernel
theorem dL_setMiss_13 : decode cL_setMiss 13 = .ok (.iconst 1, 1) := by decide +kernel
theorem dL_setMiss_14 : decode cL_setMiss 14 = .ok (.ireturn, 1) := by decide +kernel
theorem dL_setMiss_7 : decode cL_setMiss 7 = .ok (.i2l, 1) := by decide +kernel
theorem dL_setMiss_8 : decode cL_setMiss 8 = .ok (.lastore, 1) := by decide +kernel
theorem dL_setMiss_9 : decode cL_setMiss 9 = .ok (.goto 6, 3) := by decide +kernel
theorem dL_setMiss_15 : decode cL_setMiss 15 = .ok (.iconst 0, 1) := by decide +kernel
theorem dL_setMiss_16 : decode cL_setMiss 16 = .ok (.ireturn, 1) := by decide +kernel
theorem dL_reportByte_0 : decode cL_reportByte 0 = .ok (.aload_n 2, 1) := by decide +kernel
theorem dL_reportByte_1 : decode cL_reportByte 1 = .ok (.iconst 0, 1) := by decide +kernel
theorem dL_reportByte_2 : decode cL_reportByte 2 = .ok (.aload_n 0, 1) := by decide +kernel
theorem dL_reportByte_3 : decode cL_reportByte 3 = .ok (.iload_n 1, 1) := by decide +kernel
theorem dL_reportByte_4 : decode cL_reportByte 4 = .ok (.invokevirtual 108, 3) := by decide +kernel
theorem dL_reportByte_12 : decode cL_reportByte 12 = .ok (.astore_n 3, 1) := by decide +kernel
theorem dL_reportByte_13 : decode cL_reportByte 13 = .ok (.iconst 1, 1) := by decide +kernel
theorem dL_reportByte_14 : decode cL_reportByte 14 = .ok (.ireturn, 1) := by decide +kernel
theorem dL_restore_0 : decode cL_restore 0 = .ok (.aload_n 1, 1) := by decide +kernel
theorem dL_restore_1 : decode cL_restore 1 = .ok (.iconst 0, 1) := by decide +kernel
theorem dL_restore_2 : decode cL_restore 2 = .ok (.aload_n 0, 1) := by decide +kernel
theorem dL_restore_3 : decode cL_restore 3 = .ok (.invokevirtual 111, 3) := by decide +kernel
theorem dL_restore_11 : decode cL_restore 11 = .ok (.astore_n 2, 1) := by decide +kernel
theorem dL_restore_12 : decode cL_restore 12 = .ok (.iconst 1, 1) := by decide +kernel
theorem dL_restore_13 : decode cL_restore 13 = .ok (.ireturn, 1) := by decide +kernel
