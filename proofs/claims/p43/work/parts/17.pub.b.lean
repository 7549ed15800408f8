theorem dX11_requireNode_0 : decode cX11_requireNode 0 = .ok (.iload_n 1, 1) := by decide +kernel
theorem dX11_requireNode_1 : decode cX11_requireNode 1 = .ok (.ifCond .lt 14, 3) := by decide +kernel
theorem dX11_requireNode_4 : decode cX11_requireNode 4 = .ok (.iload_n 1, 1) := by decide +kernel
theorem dX11_requireNode_5 : decode cX11_requireNode 5 = .ok (.aload_n 0, 1) := by decide +kernel
theorem dX11_requireNode_6 : decode cX11_requireNode 6 = .ok (.getfield 54, 3) := by decide +kernel
theorem dX11_requireNode_9 : decode cX11_requireNode 9 = .ok (.getfield 101, 3) := by decide +kernel
theorem dX11_requireNode_12 : decode cX11_requireNode 12 = .ok (.if_icmp .lt 14, 3) := by decide +kernel
theorem dX11_requireNode_26 : decode cX11_requireNode 26 = .ok (.return_, 1) := by decide +kernel
theorem dX11_requireMessage_0 : decode cX11_requireMessage 0 = .ok (.iload_n 1, 1) := by decide +kernel
theorem dX11_requireMessage_1 : decode cX11_requireMessage 1 = .ok (.ifCond .lt 14, 3) := by decide +kernel
theorem dX11_requireMessage_4 : decode cX11_requireMessage 4 = .ok (.iload_n 1, 1) := by decide +kernel
theorem dX11_requireMessage_5 : decode cX11_requireMessage 5 = .ok (.aload_n 0, 1) := by decide +kernel
theorem dX11_requireMessage_6 : decode cX11_requireMessage 6 = .ok (.getfield 54, 3) := by decide +kernel
theorem dX11_requireMessage_9 : decode cX11_requireMessage 9 = .ok (.getfield 340, 3) := by decide +kernel
theorem dX11_requireMessage_12 : decode cX11_requireMessage 12 = .ok (.if_icmp .lt 14, 3) := by decide +kernel
theorem dX11_requireMessage_26 : decode cX11_requireMessage 26 = .ok (.return_, 1) := by decide +kernel
theorem dX11_requireDay_0 : decode cX11_requireDay 0 = .ok (.aload_n 0, 1) := by decide +kernel
theorem dX11_requireDay_1 : decode cX11_requireDay 1 = .ok (.getfield 54, 3) := by decide +kernel
theorem dX11_requireDay_4 : decode cX11_requireDay 4 = .ok (.iload_n 1, 1) := by decide +kernel
theorem dX11_requireDay_5 : decode cX11_requireDay 5 = .ok (.invokevirtual 345, 3) := by decide +kernel
theorem dX11_requireDay_8 : decode cX11_requireDay 8 = .ok (.ifCond .ne 14, 3) := by decide +kernel
theorem dX11_requireDay_22 : decode cX11_requireDay 22 = .ok (.return_, 1) := by decide +kernel
theorem dX11_requireDifferent_0 : decode cX11_requireDifferent 0 = .ok (.iload_n 1, 1) := by decide +kernel
theorem dX11_requireDifferent_1 : decode cX11_requireDifferent 1 = .ok (.iload_n 2, 1) := by decide +kernel
theorem dX11_requireDifferent_2 : decode cX11_requireDifferent 2 = .ok (.if_icmp .ne 14, 3) := by decide +kernel
theorem dX11_requireDifferent_16 : decode cX11_requireDifferent 16 = .ok (.return_, 1) := by decide +kernel
theorem dX11_setting_0 : decode cX11_setting 0 = .ok (.iload_n 1, 1) := by decide +kernel
theorem dX11_setting_1 : decode cX11_setting 1 = .ok (.ifCond .lt 9, 3) := by decide +kernel
theorem dX11_setting_4 : decode cX11_setting 4 = .ok (.iload_n 1, 1) := by decide +kernel
theorem dX11_setting_5 : decode cX11_setting 5 = .ok (.bipush 11, 2) := by decide +kernel
theorem dX11_setting_7 : decode cX11_setting 7 = .ok (.if_icmp .lt 13, 3) := by decide +kernel
theorem dX11_setting_20 : decode cX11_setting 20 = .ok (.iload_n 1, 1) := by decide +kernel
theorem dX11_setting_21 : decode cX11_setting 21 = .ok (.bipush 10, 2) := by decide +kernel
theorem dX11_setting_23 : decode cX11_setting 23 = .ok (.if_icmp .ne 13, 3) := by decide +kernel
theorem dX11_setting_36 : decode cX11_setting 36 = .ok (.aload_n 0, 1) := by decide +kernel
theorem dX11_setting_37 : decode cX11_setting 37 = .ok (.getfield 54, 3) := by decide +kernel
theorem dX11_setting_40 : decode cX11_setting 40 = .ok (.iload_n 1, 1) := by decide +kernel
theorem dX11_setting_41 : decode cX11_setting 41 = .ok (.invokevirtual 125, 3) := by decide +kernel
theorem dX11_setting_44 : decode cX11_setting 44 = .ok (.ireturn, 1) := by decide +kernel
theorem dX11_node_0 : decode cX11_node 0 = .ok (.aload_n 0, 1) := by decide +kernel
theorem dX11_node_1 : decode cX11_node 1 = .ok (.iload_n 1, 1) := by decide +kernel
theorem dX11_node_2 : decode cX11_node 2 = .ok (.invokevirtual 129, 3) := by decide +kernel
theorem dX11_node_5 : decode cX11_node 5 = .ok (.iload_n 2, 1) := by decide +kernel
theorem dX11_node_6 : decode cX11_node 6 = .ok (.ifCond .lt 9, 3) := by decide +kernel
theorem dX11_node_9 : decode cX11_node 9 = .ok (.iload_n 2, 1) := by decide +kernel
theorem dX11_node_10 : decode cX11_node 10 = .ok (.bipush 11, 2) := by decide +kernel
theorem dX11_node_12 : decode cX11_node 12 = .ok (.if_icmp .lt 13, 3) := by decide +kernel
theorem dX11_node_25 : decode cX11_node 25 = .ok (.aload_n 0, 1) := by decide +kernel
theorem dX11_node_26 : decode cX11_node 26 = .ok (.getfield 54, 3) := by decide +kernel
theorem dX11_node_29 : decode cX11_node 29 = .ok (.iload_n 1, 1) := by decide +kernel
theorem dX11_node_30 : decode cX11_node 30 = .ok (.iload_n 2, 1) := by decide +kernel
theorem dX11_node_31 : decode cX11_node 31 = .ok (.invokevirtual 134, 3) := by decide +kernel
theorem dX11_node_34 : decode cX11_node 34 = .ok (.ireturn, 1) := by decide +kernel
theorem dX11_link_0 : decode cX11_link 0 = .ok (.iload_n 1, 1) := by decide +kernel
theorem dX11_link_1 : decode cX11_link 1 = .ok (.ifCond .lt 14, 3) := by decide +kernel
theorem dX11_link_4 : decode cX11_link 4 = .ok (.iload_n 1, 1) := by decide +kernel
theorem dX11_link_5 : decode cX11_link 5 = .ok (.aload_n 0, 1) := by decide +kernel
theorem dX11_link_6 : decode cX11_link 6 = .ok (.getfield 54, 3) := by decide +kernel
theorem dX11_link_9 : decode cX11_link 9 = .ok (.getfield 138, 3) := by decide +kernel
theorem dX11_link_12 : decode cX11_link 12 = .ok (.if_icmp .lt 13, 3) := by decide +kernel
theorem dX11_link_25 : decode cX11_link 25 = .ok (.iload_n 2, 1) := by decide +kernel
theorem dX11_link_26 : decode cX11_link 26 = .ok (.ifCond .lt 8, 3) := by decide +kernel
theorem dX11_link_29 : decode cX11_link 29 = .ok (.iload_n 2, 1) := by decide +kernel
theorem dX11_link_30 : decode cX11_link 30 = .ok (.iconst 5, 1) := by decide +kernel
theorem dX11_link_31 : decode cX11_link 31 = .ok (.if_icmp .lt 13, 3) := by decide +kernel
theorem dX11_link_44 : decode cX11_link 44 = .ok (.aload_n 0, 1) := by decide +kernel
theorem dX11_link_45 : decode cX11_link 45 = .ok (.getfield 54, 3) := by decide +kernel
theorem dX11_link_48 : decode cX11_link 48 = .ok (.iload_n 1, 1) := by decide +kernel
theorem dX11_link_49 : decode cX11_link 49 = .ok (.invokevirtual 148, 3) := by decide +kernel
theorem dX11_link_52 : decode cX11_link 52 = .ok (.iload_n 2, 1) := by decide +kernel
theorem dX11_link_53 : decode cX11_link 53 = .ok (.invokevirtual 152, 3) := by decide +kernel
theorem dX11_link_56 : decode cX11_link 56 = .ok (.ireturn, 1) := by decide +kernel
theorem dX11_message_0 : decode cX11_message 0 = .ok (.aload_n 0, 1) := by decide +kernel
theorem dX11_message_1 : decode cX11_message 1 = .ok (.iload_n 1, 1) := by decide +kernel
theorem dX11_message_2 : decode cX11_message 2 = .ok (.invokevirtual 155, 3) := by decide +kernel
theorem dX11_message_5 : decode cX11_message 5 = .ok (.iload_n 2, 1) := by decide +kernel
theorem dX11_message_6 : decode cX11_message 6 = .ok (.ifCond .lt 9, 3) := by decide +kernel
theorem dX11_message_9 : decode cX11_message 9 = .ok (.iload_n 2, 1) := by decide +kernel
theorem dX11_message_10 : decode cX11_message 10 = .ok (.bipush 8, 2) := by decide +kernel
theorem dX11_message_12 : decode cX11_message 12 = .ok (.if_icmp .lt 13, 3) := by decide +kernel
theorem dX11_message_25 : decode cX11_message 25 = .ok (.aload_n 0, 1) := by decide +kernel
theorem dX11_message_26 : decode cX11_message 26 = .ok (.getfield 54, 3) := by decide +kernel
theorem dX11_message_29 : decode cX11_message 29 = .ok (.iload_n 1, 1) := by decide +kernel
theorem dX11_message_30 : decode cX11_message 30 = .ok (.invokevirtual 160, 3) := by decide +kernel
theorem dX11_message_33 : decode cX11_message 33 = .ok (.iload_n 2, 1) := by decide +kernel
theorem dX11_message_34 : decode cX11_message 34 = .ok (.invokevirtual 164, 3) := by decide +kernel
theorem dX11_message_37 : decode cX11_message 37 = .ok (.ireturn, 1) := by decide +kernel
theorem dX11_inTable_0 : decode cX11_inTable 0 = .ok (.aload_n 0, 1) := by decide +kernel
theorem dX11_inTable_1 : decode cX11_inTable 1 = .ok (.iload_n 1, 1) := by decide +kernel
theorem dX11_inTable_2 : decode cX11_inTable 2 = .ok (.invokevirtual 129, 3) := by decide +kernel
theorem dX11_inTable_5 : decode cX11_inTable 5 = .ok (.aload_n 0, 1) := by decide +kernel
theorem dX11_inTable_6 : decode cX11_inTable 6 = .ok (.iload_n 2, 1) := by decide +kernel
theorem dX11_inTable_7 : decode cX11_inTable 7 = .ok (.invokevirtual 181, 3) := by decide +kernel
theorem dX11_inTable_10 : decode cX11_inTable 10 = .ok (.aload_n 0, 1) := by decide +kernel
theorem dX11_inTable_11 : decode cX11_inTable 11 = .ok (.getfield 54, 3) := by decide +kernel
theorem dX11_inTable_14 : decode cX11_inTable 14 = .ok (.iload_n 1, 1) := by decide +kernel
theorem dX11_inTable_15 : decode cX11_inTable 15 = .ok (.invokevirtual 184, 3) := by decide +kernel
theorem dX11_inTable_18 : decode cX11_inTable 18 = .ok (.iload_n 2, 1) := by decide +kernel
theorem dX11_inTable_19 : decode cX11_inTable 19 = .ok (.invokestatic 188, 3) := by decide +kernel
theorem dX11_inTable_22 : decode cX11_inTable 22 = .ok (.ireturn, 1) := by decide +kernel
theorem dX11_awakeIn_0 : decode cX11_awakeIn 0 = .ok (.iload_n 1, 1) := by decide +kernel
theorem dX11_awakeIn_1 : decode cX11_awakeIn 1 = .ok (.ifCond .lt 9, 3) := by decide +kernel
theorem dX11_awakeIn_4 : decode cX11_awakeIn 4 = .ok (.iload_n 1, 1) := by decide +kernel
theorem dX11_awakeIn_5 : decode cX11_awakeIn 5 = .ok (.bipush 99, 2) := by decide +kernel
theorem dX11_awakeIn_7 : decode cX11_awakeIn 7 = .ok (.if_icmp .le 13, 3) := by decide +kernel
theorem dX11_awakeIn_20 : decode cX11_awakeIn 20 = .ok (.aload_n 0, 1) := by decide +kernel
theorem dX11_awakeIn_21 : decode cX11_awakeIn 21 = .ok (.getfield 54, 3) := by decide +kernel
theorem dX11_awakeIn_24 : decode cX11_awakeIn 24 = .ok (.iload_n 1, 1) := by decide +kernel
theorem dX11_awakeIn_25 : decode cX11_awakeIn 25 = .ok (.invokevirtual 207, 3) := by decide +kernel
theorem dX11_awakeIn_28 : decode cX11_awakeIn 28 = .ok (.ireturn, 1) := by decide +kernel
theorem dX11_meetsIn_0 : decode cX11_meetsIn 0 = .ok (.aload_n 0, 1) := by decide +kernel
theorem dX11_meetsIn_1 : decode cX11_meetsIn 1 = .ok (.iload_n 1, 1) := by decide +kernel
theorem dX11_meetsIn_2 : decode cX11_meetsIn 2 = .ok (.invokevirtual 129, 3) := by decide +kernel
theorem dX11_meetsIn_5 : decode cX11_meetsIn 5 = .ok (.aload_n 0, 1) := by decide +kernel
theorem dX11_meetsIn_6 : decode cX11_meetsIn 6 = .ok (.iload_n 2, 1) := by decide +kernel
theorem dX11_meetsIn_7 : decode cX11_meetsIn 7 = .ok (.invokevirtual 129, 3) := by decide +kernel
theorem dX11_meetsIn_10 : decode cX11_meetsIn 10 = .ok (.iload_n 1, 1) := by decide +kernel
theorem dX11_meetsIn_11 : decode cX11_meetsIn 11 = .ok (.iload_n 2, 1) := by decide +kernel
theorem dX11_meetsIn_12 : decode cX11_meetsIn 12 = .ok (.if_icmp .ne 7, 3) := by decide +kernel
theorem dX11_meetsIn_19 : decode cX11_meetsIn 19 = .ok (.aload_n 0, 1) := by decide +kernel
theorem dX11_meetsIn_20 : decode cX11_meetsIn 20 = .ok (.getfield 54, 3) := by decide +kernel
theorem dX11_meetsIn_23 : decode cX11_meetsIn 23 = .ok (.iload_n 1, 1) := by decide +kernel
theorem dX11_meetsIn_24 : decode cX11_meetsIn 24 = .ok (.aload_n 0, 1) := by decide +kernel
theorem dX11_meetsIn_25 : decode cX11_meetsIn 25 = .ok (.getfield 54, 3) := by decide +kernel
theorem dX11_meetsIn_28 : decode cX11_meetsIn 28 = .ok (.iload_n 1, 1) := by decide +kernel
theorem dX11_meetsIn_29 : decode cX11_meetsIn 29 = .ok (.invokevirtual 167, 3) := by decide +kernel
theorem dX11_meetsIn_32 : decode cX11_meetsIn 32 = .ok (.getfield 210, 3) := by decide +kernel
theorem dX11_meetsIn_35 : decode cX11_meetsIn 35 = .ok (.iload_n 2, 1) := by decide +kernel
theorem dX11_meetsIn_36 : decode cX11_meetsIn 36 = .ok (.invokevirtual 213, 3) := by decide +kernel
theorem dX11_meetsIn_39 : decode cX11_meetsIn 39 = .ok (.ireturn, 1) := by decide +kernel
theorem dX11_arrives_0 : decode cX11_arrives 0 = .ok (.aload_n 0, 1) := by decide +kernel
theorem dX11_arrives_1 : decode cX11_arrives 1 = .ok (.iload_n 1, 1) := by decide +kernel
theorem dX11_arrives_2 : decode cX11_arrives 2 = .ok (.invokevirtual 155, 3) := by decide +kernel
theorem dX11_arrives_5 : decode cX11_arrives 5 = .ok (.aload_n 0, 1) := by decide +kernel
theorem dX11_arrives_6 : decode cX11_arrives 6 = .ok (.getfield 33, 3) := by decide +kernel
theorem dX11_arrives_9 : decode cX11_arrives 9 = .ok (.aload_n 0, 1) := by decide +kernel
theorem dX11_arrives_10 : decode cX11_arrives 10 = .ok (.getfield 54, 3) := by decide +kernel
theorem dX11_arrives_13 : decode cX11_arrives 13 = .ok (.iload_n 1, 1) := by decide +kernel
theorem dX11_arrives_14 : decode cX11_arrives 14 = .ok (.invokevirtual 239, 3) := by decide +kernel
theorem dX11_arrives_17 : decode cX11_arrives 17 = .ok (.ireturn, 1) := by decide +kernel
theorem dX11_wouldArrive_0 : decode cX11_wouldArrive 0 = .ok (.aload_n 0, 1) := by decide +kernel
theorem dX11_wouldArrive_1 : decode cX11_wouldArrive 1 = .ok (.iload_n 1, 1) := by decide +kernel
theorem dX11_wouldArrive_2 : decode cX11_wouldArrive 2 = .ok (.invokevirtual 129, 3) := by decide +kernel
theorem dX11_wouldArrive_5 : decode cX11_wouldArrive 5 = .ok (.aload_n 0, 1) := by decide +kernel
theorem dX11_wouldArrive_6 : decode cX11_wouldArrive 6 = .ok (.iload_n 2, 1) := by decide +kernel
theorem dX11_wouldArrive_7 : decode cX11_wouldArrive 7 = .ok (.invokevirtual 129, 3) := by decide +kernel
theorem dX11_wouldArrive_10 : decode cX11_wouldArrive 10 = .ok (.aload_n 0, 1) := by decide +kernel
theorem dX11_wouldArrive_11 : decode cX11_wouldArrive 11 = .ok (.iload_n 1, 1) := by decide +kernel
theorem dX11_wouldArrive_12 : decode cX11_wouldArrive 12 = .ok (.iload_n 2, 1) := by decide +kernel
theorem dX11_wouldArrive_13 : decode cX11_wouldArrive 13 = .ok (.invokevirtual 243, 3) := by decide +kernel
theorem dX11_wouldArrive_16 : decode cX11_wouldArrive 16 = .ok (.aload_n 0, 1) := by decide +kernel
theorem dX11_wouldArrive_17 : decode cX11_wouldArrive 17 = .ok (.getfield 33, 3) := by decide +kernel
theorem dX11_wouldArrive_20 : decode cX11_wouldArrive 20 = .ok (.aload_n 0, 1) := by decide +kernel
theorem dX11_wouldArrive_21 : decode cX11_wouldArrive 21 = .ok (.getfield 54, 3) := by decide +kernel
theorem dX11_wouldArrive_24 : decode cX11_wouldArrive 24 = .ok (.iload_n 1, 1) := by decide +kernel
theorem dX11_wouldArrive_25 : decode cX11_wouldArrive 25 = .ok (.iload_n 2, 1) := by decide +kernel
theorem dX11_wouldArrive_26 : decode cX11_wouldArrive 26 = .ok (.iload_n 3, 1) := by decide +kernel
theorem dX11_wouldArrive_27 : decode cX11_wouldArrive 27 = .ok (.invokevirtual 247, 3) := by decide +kernel
theorem dX11_wouldArrive_30 : decode cX11_wouldArrive 30 = .ok (.ireturn, 1) := by decide +kernel
theorem dX11_energyIn_0 : decode cX11_energyIn 0 = .ok (.aload_n 0, 1) := by decide +kernel
theorem dX11_energyIn_1 : decode cX11_energyIn 1 = .ok (.iload_n 1, 1) := by decide +kernel
theorem dX11_energyIn_2 : decode cX11_energyIn 2 = .ok (.invokevirtual 129, 3) := by decide +kernel
theorem dX11_energyIn_5 : decode cX11_energyIn 5 = .ok (.iload_n 2, 1) := by decide +kernel
theorem dX11_energyIn_6 : decode cX11_energyIn 6 = .ok (.ifCond .lt 10, 3) := by decide +kernel
theorem dX11_energyIn_9 : decode cX11_energyIn 9 = .ok (.iload_n 2, 1) := by decide +kernel
theorem dX11_energyIn_10 : decode cX11_energyIn 10 = .ok (.sipush 200, 3) := by decide +kernel
theorem dX11_energyIn_13 : decode cX11_energyIn 13 = .ok (.if_icmp .le 13, 3) := by decide +kernel
theorem dX11_energyIn_26 : decode cX11_energyIn 26 = .ok (.aload_n 0, 1) := by decide +kernel
theorem dX11_energyIn_27 : decode cX11_energyIn 27 = .ok (.getfield 33, 3) := by decide +kernel
theorem dX11_energyIn_30 : decode cX11_energyIn 30 = .ok (.aload_n 0, 1) := by decide +kernel
theorem dX11_energyIn_31 : decode cX11_energyIn 31 = .ok (.getfield 54, 3) := by decide +kernel
theorem dX11_energyIn_34 : decode cX11_energyIn 34 = .ok (.iload_n 1, 1) := by decide +kernel
theorem dX11_energyIn_35 : decode cX11_energyIn 35 = .ok (.iload_n 2, 1) := by decide +kernel
theorem dX11_energyIn_36 : decode cX11_energyIn 36 = .ok (.invokevirtual 254, 3) := by decide +kernel
theorem dX11_energyIn_39 : decode cX11_energyIn 39 = .ok (.ireturn, 1) := by decide +kernel
theorem dX11_outIn_0 : decode cX11_outIn 0 = .ok (.aload_n 0, 1) := by decide +kernel
theorem dX11_outIn_1 : decode cX11_outIn 1 = .ok (.iload_n 1, 1) := by decide +kernel
theorem dX11_outIn_2 : decode cX11_outIn 2 = .ok (.invokevirtual 129, 3) := by decide +kernel
theorem dX11_outIn_5 : decode cX11_outIn 5 = .ok (.aload_n 0, 1) := by decide +kernel
theorem dX11_outIn_6 : decode cX11_outIn 6 = .ok (.getfield 33, 3) := by decide +kernel
theorem dX11_outIn_9 : decode cX11_outIn 9 = .ok (.aload_n 0, 1) := by decide +kernel
theorem dX11_outIn_10 : decode cX11_outIn 10 = .ok (.getfield 54, 3) := by decide +kernel
theorem dX11_outIn_13 : decode cX11_outIn 13 = .ok (.iload_n 1, 1) := by decide +kernel
theorem dX11_outIn_14 : decode cX11_outIn 14 = .ok (.invokevirtual 251, 3) := by decide +kernel
theorem dX11_outIn_17 : decode cX11_outIn 17 = .ok (.ireturn, 1) := by decide +kernel
theorem dX11_tick_0 : decode cX11_tick 0 = .ok (.iload_n 1, 1) := by decide +kernel
theorem dX11_tick_1 : decode cX11_tick 1 = .ok (.invokestatic 267, 3) := by decide +kernel
theorem dX11_tick_4 : decode cX11_tick 4 = .ok (.ifCond .ne 13, 3) := by decide +kernel
theorem dX11_tick_17 : decode cX11_tick 17 = .ok (.aload_n 0, 1) := by decide +kernel
theorem dX11_tick_18 : decode cX11_tick 18 = .ok (.getfield 54, 3) := by decide +kernel
theorem dX11_tick_21 : decode cX11_tick 21 = .ok (.iload_n 1, 1) := by decide +kernel
theorem dX11_tick_22 : decode cX11_tick 22 = .ok (.invokevirtual 270, 3) := by decide +kernel
theorem dX11_tick_25 : decode cX11_tick 25 = .ok (.ifCond .ne 14, 3) := by decide +kernel
theorem dX11_tick_39 : decode cX11_tick 39 = .ok (.aload_n 0, 1) := by decide +kernel
theorem dX11_tick_40 : decode cX11_tick 40 = .ok (.getfield 40, 3) := by decide +kernel
theorem dX11_tick_43 : decode cX11_tick 43 = .ok (.aload_n 0, 1) := by decide +kernel
theorem dX11_tick_44 : decode cX11_tick 44 = .ok (.getfield 54, 3) := by decide +kernel
theorem dX11_tick_47 : decode cX11_tick 47 = .ok (.invokevirtual 107, 3) := by decide +kernel
theorem dX11_tick_50 : decode cX11_tick 50 = .ok (.aload_n 0, 1) := by decide +kernel
theorem dX11_tick_51 : decode cX11_tick 51 = .ok (.getfield 54, 3) := by decide +kernel
theorem dX11_tick_54 : decode cX11_tick 54 = .ok (.iload_n 1, 1) := by decide +kernel
theorem dX11_tick_55 : decode cX11_tick 55 = .ok (.invokevirtual 275, 3) := by decide +kernel
theorem dX11_tick_58 : decode cX11_tick 58 = .ok (.ireturn, 1) := by decide +kernel
theorem dX11_send_0 : decode cX11_send 0 = .ok (.aload_n 0, 1) := by decide +kernel
theorem dX11_send_1 : decode cX11_send 1 = .ok (.iload_n 1, 1) := by decide +kernel
theorem dX11_send_2 : decode cX11_send 2 = .ok (.invokevirtual 129, 3) := by decide +kernel
theorem dX11_send_5 : decode cX11_send 5 = .ok (.aload_n 0, 1) := by decide +kernel
theorem dX11_send_6 : decode cX11_send 6 = .ok (.iload_n 2, 1) := by decide +kernel
theorem dX11_send_7 : decode cX11_send 7 = .ok (.invokevirtual 129, 3) := by decide +kernel
theorem dX11_send_10 : decode cX11_send 10 = .ok (.iload_n 1, 1) := by decide +kernel
theorem dX11_send_11 : decode cX11_send 11 = .ok (.iload_n 2, 1) := by decide +kernel
theorem dX11_send_12 : decode cX11_send 12 = .ok (.iload_n 3, 1) := by decide +kernel
theorem dX11_send_13 : decode cX11_send 13 = .ok (.invokestatic 278, 3) := by decide +kernel
theorem dX11_send_16 : decode cX11_send 16 = .ok (.ifCond .ne 14, 3) := by decide +kernel
theorem dX11_send_30 : decode cX11_send 30 = .ok (.aload_n 0, 1) := by decide +kernel
theorem dX11_send_31 : decode cX11_send 31 = .ok (.getfield 54, 3) := by decide +kernel
theorem dX11_send_34 : decode cX11_send 34 = .ok (.iload_n 1, 1) := by decide +kernel
theorem dX11_send_35 : decode cX11_send 35 = .ok (.iload_n 2, 1) := by decide +kernel
theorem dX11_send_36 : decode cX11_send 36 = .ok (.invokevirtual 284, 3) := by decide +kernel
theorem dX11_send_39 : decode cX11_send 39 = .ok (.ifCond .ne 14, 3) := by decide +kernel
theorem dX11_send_53 : decode cX11_send 53 = .ok (.aload_n 0, 1) := by decide +kernel
theorem dX11_send_54 : decode cX11_send 54 = .ok (.getfield 40, 3) := by decide +kernel
theorem dX11_send_57 : decode cX11_send 57 = .ok (.aload_n 0, 1) := by decide +kernel
theorem dX11_send_58 : decode cX11_send 58 = .ok (.getfield 54, 3) := by decide +kernel
theorem dX11_send_61 : decode cX11_send 61 = .ok (.invokevirtual 107, 3) := by decide +kernel
theorem dX11_send_64 : decode cX11_send 64 = .ok (.aload_n 0, 1) := by decide +kernel
theorem dX11_send_65 : decode cX11_send 65 = .ok (.getfield 54, 3) := by decide +kernel
theorem dX11_send_68 : decode cX11_send 68 = .ok (.iload_n 1, 1) := by decide +kernel
theorem dX11_send_69 : decode cX11_send 69 = .ok (.iload_n 2, 1) := by decide +kernel
theorem dX11_send_70 : decode cX11_send 70 = .ok (.iload_n 3, 1) := by decide +kernel
theorem dX11_send_71 : decode cX11_send 71 = .ok (.iload 4, 2) := by decide +kernel
theorem dX11_send_73 : decode cX11_send 73 = .ok (.invokevirtual 290, 3) := by decide +kernel
theorem dX11_send_76 : decode cX11_send 76 = .ok (.ireturn, 1) := by decide +kernel
theorem dX11_charge_0 : decode cX11_charge 0 = .ok (.aload_n 0, 1) := by decide +kernel
theorem dX11_charge_1 : decode cX11_charge 1 = .ok (.iload_n 1, 1) := by decide +kernel
theorem dX11_charge_2 : decode cX11_charge 2 = .ok (.invokevirtual 129, 3) := by decide +kernel
theorem dX11_charge_5 : decode cX11_charge 5 = .ok (.iload_n 2, 1) := by decide +kernel
theorem dX11_charge_6 : decode cX11_charge 6 = .ok (.invokestatic 303, 3) := by decide +kernel
theorem dX11_charge_9 : decode cX11_charge 9 = .ok (.ifCond .ne 14, 3) := by decide +kernel
theorem dX11_charge_23 : decode cX11_charge 23 = .ok (.aload_n 0, 1) := by decide +kernel
theorem dX11_charge_24 : decode cX11_charge 24 = .ok (.getfield 40, 3) := by decide +kernel
theorem dX11_charge_27 : decode cX11_charge 27 = .ok (.aload_n 0, 1) := by decide +kernel
theorem dX11_charge_28 : decode cX11_charge 28 = .ok (.getfield 54, 3) := by decide +kernel
theorem dX11_charge_31 : decode cX11_charge 31 = .ok (.invokevirtual 107, 3) := by decide +kernel
theorem dX11_charge_34 : decode cX11_charge 34 = .ok (.aload_n 0, 1) := by decide +kernel
theorem dX11_charge_35 : decode cX11_charge 35 = .ok (.getfield 54, 3) := by decide +kernel
theorem dX11_charge_38 : decode cX11_charge 38 = .ok (.iload_n 1, 1) := by decide +kernel
theorem dX11_charge_39 : decode cX11_charge 39 = .ok (.iload_n 2, 1) := by decide +kernel
theorem dX11_charge_40 : decode cX11_charge 40 = .ok (.invokevirtual 308, 3) := by decide +kernel
theorem dX11_charge_43 : decode cX11_charge 43 = .ok (.ireturn, 1) := by decide +kernel
theorem dX11_undo_0 : decode cX11_undo 0 = .ok (.aload_n 0, 1) := by decide +kernel
theorem dX11_undo_1 : decode cX11_undo 1 = .ok (.getfield 40, 3) := by decide +kernel
theorem dX11_undo_4 : decode cX11_undo 4 = .ok (.aload_n 0, 1) := by decide +kernel
theorem dX11_undo_5 : decode cX11_undo 5 = .ok (.getfield 54, 3) := by decide +kernel
theorem dX11_undo_8 : decode cX11_undo 8 = .ok (.invokevirtual 325, 3) := by decide +kernel
theorem dX11_undo_11 : decode cX11_undo 11 = .ok (.ifCond .eq 13, 3) := by decide +kernel
theorem dX11_undo_14 : decode cX11_undo 14 = .ok (.aload_n 0, 1) := by decide +kernel
theorem dX11_undo_15 : decode cX11_undo 15 = .ok (.getfield 40, 3) := by decide +kernel
theorem dX11_undo_18 : decode cX11_undo 18 = .ok (.getfield 122, 3) := by decide +kernel
theorem dX11_undo_21 : decode cX11_undo 21 = .ok (.goto 4, 3) := by decide +kernel
theorem dX11_undo_25 : decode cX11_undo 25 = .ok (.ireturn, 1) := by decide +kernel
