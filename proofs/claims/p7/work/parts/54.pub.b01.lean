theorem dX11_charge_40 : decode cX11_charge 40 = .ok (.invokevirtual 308, 3) := by decide +kernel
theorem dX11_charge_43 : decode cX11_charge 43 = .ok (.ireturn, 1) := by decide +kernel
theorem dX11_charge_12 : decode cX11_charge 12 = .ok (.new 83, 3) := by decide +kernel
theorem dX11_charge_15 : decode cX11_charge 15 = .ok (.dup, 1) := by decide +kernel
theorem dX11_charge_16 : decode cX11_charge 16 = .ok (.ldc_w 306, 3) := by decide +kernel
theorem dX11_charge_19 : decode cX11_charge 19 = .ok (.invokespecial 87, 3) := by decide +kernel
theorem dX11_charge_22 : decode cX11_charge 22 = .ok (.athrow, 1) := by decide +kernel
theorem dX11_setMiss_0 : decode cX11_setMiss 0 = .ok (.iload_n 1, 1) := by decide +kernel
theorem dX11_setMiss_1 : decode cX11_setMiss 1 = .ok (.iconst 1, 1) := by decide +kernel
theorem dX11_setMiss_2 : decode cX11_setMiss 2 = .ok (.if_icmp .lt 9, 3) := by decide +kernel
theorem dX11_setMiss_11 : decode cX11_setMiss 11 = .ok (.new 83, 3) := by decide +kernel
theorem dX11_setMiss_14 : decode cX11_setMiss 14 = .ok (.dup, 1) := by decide +kernel
theorem dX11_setMiss_15 : decode cX11_setMiss 15 = .ok (.ldc_w 311, 3) := by decide +kernel
theorem dX11_setMiss_18 : decode cX11_setMiss 18 = .ok (.invokespecial 87, 3) := by decide +kernel
theorem dX11_setMiss_21 : decode cX11_setMiss 21 = .ok (.athrow, 1) := by decide +kernel
theorem dX11_setMiss_5 : decode cX11_setMiss 5 = .ok (.iload_n 1, 1) := by decide +kernel
theorem dX11_setMiss_6 : decode cX11_setMiss 6 = .ok (.bipush 9, 2) := by decide +kernel
theorem dX11_setMiss_8 : decode cX11_setMiss 8 = .ok (.if_icmp .le 14, 3) := by decide +kernel
theorem dX11_setMiss_22 : decode cX11_setMiss 22 = .ok (.aload_n 0, 1) := by decide +kernel
theorem dX11_setMiss_23 : decode cX11_setMiss 23 = .ok (.getfield 40, 3) := by decide +kernel
theorem dX11_setMiss_26 : decode cX11_setMiss 26 = .ok (.aload_n 0, 1) := by decide +kernel
theorem dX11_setMiss_27 : decode cX11_setMiss 27 = .ok (.getfield 54, 3) := by decide +kernel
theorem dX11_setMiss_30 : decode cX11_setMiss 30 = .ok (.invokevirtual 107, 3) := by decide +kernel
theorem dX11_setMiss_33 : decode cX11_setMiss 33 = .ok (.aload_n 0, 1) := by decide +kernel
theorem dX11_setMiss_34 : decode cX11_setMiss 34 = .ok (.getfield 54, 3) := by decide +kernel
theorem dX11_setMiss_37 : decode cX11_setMiss 37 = .ok (.getfield 313, 3) := by decide +kernel
theorem dX11_setMiss_40 : decode cX11_setMiss 40 = .ok (.istore_n 2, 1) := by decide +kernel
theorem dX11_setMiss_41 : decode cX11_setMiss 41 = .ok (.aload_n 0, 1) := by decide +kernel
theorem dX11_setMiss_42 : decode cX11_setMiss 42 = .ok (.getfield 54, 3) := by decide +kernel
theorem dX11_setMiss_45 : decode cX11_setMiss 45 = .ok (.iload_n 1, 1) := by decide +kernel
theorem dX11_setMiss_46 : decode cX11_setMiss 46 = .ok (.putfield 313, 3) := by decide +kernel
theorem dX11_setMiss_49 : decode cX11_setMiss 49 = .ok (.iload_n 2, 1) := by decide +kernel
theorem dX11_setMiss_50 : decode cX11_setMiss 50 = .ok (.ireturn, 1) := by decide +kernel
theorem dX11_reportByte_0 : decode cX11_reportByte 0 = .ok (.iload_n 1, 1) := by decide +kernel
theorem dX11_reportByte_1 : decode cX11_reportByte 1 = .ok (.ifCond .lt 14, 3) := by decide +kernel
theorem dX11_reportByte_15 : decode cX11_reportByte 15 = .ok (.new 141, 3) := by decide +kernel
theorem dX11_reportByte_18 : decode cX11_reportByte 18 = .ok (.dup, 1) := by decide +kernel
theorem dX11_reportByte_19 : decode cX11_reportByte 19 = .ok (.ldc_w 320, 3) := by decide +kernel
theorem dX11_reportByte_22 : decode cX11_reportByte 22 = .ok (.invokespecial 145, 3) := by decide +kernel
theorem dX11_reportByte_25 : decode cX11_reportByte 25 = .ok (.athrow, 1) := by decide +kernel
theorem dX11_reportByte_4 : decode cX11_reportByte 4 = .ok (.iload_n 1, 1) := by decide +kernel
theorem dX11_reportByte_5 : decode cX11_reportByte 5 = .ok (.aload_n 0, 1) := by decide +kernel
theorem dX11_reportByte_6 : decode cX11_reportByte 6 = .ok (.getfield 47, 3) := by decide +kernel
theorem dX11_reportByte_9 : decode cX11_reportByte 9 = .ok (.getfield 319, 3) := by decide +kernel
theorem dX11_reportByte_12 : decode cX11_reportByte 12 = .ok (.if_icmp .lt 14, 3) := by decide +kernel
theorem dX11_reportByte_26 : decode cX11_reportByte 26 = .ok (.aload_n 0, 1) := by decide +kernel
theorem dX11_reportByte_27 : decode cX11_reportByte 27 = .ok (.getfield 47, 3) := by decide +kernel
theorem dX11_reportByte_30 : decode cX11_reportByte 30 = .ok (.iload_n 1, 1) := by decide +kernel
theorem dX11_reportByte_31 : decode cX11_reportByte 31 = .ok (.invokevirtual 322, 3) := by decide +kernel
theorem dX11_reportByte_34 : decode cX11_reportByte 34 = .ok (.ireturn, 1) := by decide +kernel
theorem dX11_restore_0 : decode cX11_restore 0 = .ok (.aload_n 0, 1) := by decide +kernel
theorem dX11_restore_1 : decode cX11_restore 1 = .ok (.getfield 329, 3) := by decide +kernel
theorem dX11_restore_4 : decode cX11_restore 4 = .ok (.ifCond .ne 14, 3) := by decide +kernel
theorem dX11_restore_18 : decode cX11_restore 18 = .ok (.aload_n 0, 1) := by decide +kernel
theorem dX11_restore_19 : decode cX11_restore 19 = .ok (.getfield 54, 3) := by decide +kernel
theorem dX11_restore_22 : decode cX11_restore 22 = .ok (.aload_n 0, 1) := by decide +kernel
theorem dX11_restore_23 : decode cX11_restore 23 = .ok (.getfield 61, 3) := by decide +kernel
theorem dX11_restore_26 : decode cX11_restore 26 = .ok (.invokevirtual 94, 3) := by decide +kernel
theorem dX11_restore_29 : decode cX11_restore 29 = .ok (.aload_n 0, 1) := by decide +kernel
theorem dX11_restore_30 : decode cX11_restore 30 = .ok (.getfield 40, 3) := by decide +kernel
theorem dX11_restore_33 : decode cX11_restore 33 = .ok (.invokevirtual 98, 3) := by decide +kernel
theorem dX11_restore_36 : decode cX11_restore 36 = .ok (.aload_n 0, 1) := by decide +kernel
theorem dX11_restore_37 : decode cX11_restore 37 = .ok (.getfield 54, 3) := by decide +kernel
theorem dX11_restore_40 : decode cX11_restore 40 = .ok (.getfield 333, 3) := by decide +kernel
theorem dX11_restore_43 : decode cX11_restore 43 = .ok (.ireturn, 1) := by decide +kernel
theorem dX11_restore_7 : decode cX11_restore 7 = .ok (.new 68, 3) := by decide +kernel
theorem dX11_restore_10 : decode cX11_restore 10 = .ok (.dup, 1) := by decide +kernel
theorem dX11_restore_11 : decode cX11_restore 11 = .ok (.ldc_w 336, 3) := by decide +kernel
theorem dX11_restore_14 : decode cX11_restore 14 = .ok (.invokespecial 72, 3) := by decide +kernel
theorem dX11_restore_17 : decode cX11_restore 17 = .ok (.athrow, 1) := by decide +kernel
theorem dX11_duty_0 : decode cX11_duty 0 = .ok (.aload_n 0, 1) := by decide +kernel
theorem dX11_duty_1 : decode cX11_duty 1 = .ok (.iload_n 1, 1) := by decide +kernel
theorem dX11_duty_2 : decode cX11_duty 2 = .ok (.invokevirtual 129, 3) := by decide +kernel
theorem dX11_duty_5 : decode cX11_duty 5 = .ok (.aload_n 0, 1) := by decide +kernel
theorem dX11_duty_6 : decode cX11_duty 6 = .ok (.getfield 54, 3) := by decide +kernel
theorem dX11_duty_9 : decode cX11_duty 9 = .ok (.getfield 192, 3) := by decide +kernel
theorem dX11_duty_12 : decode cX11_duty 12 = .ok (.ifCond .le 27, 3) := by decide +kernel
theorem dX11_duty_15 : decode cX11_duty 15 = .ok (.aload_n 0, 1) := by decide +kernel
theorem dX11_duty_16 : decode cX11_duty 16 = .ok (.getfield 54, 3) := by decide +kernel
theorem dX11_duty_19 : decode cX11_duty 19 = .ok (.iload_n 1, 1) := by decide +kernel
theorem dX11_duty_20 : decode cX11_duty 20 = .ok (.invokevirtual 184, 3) := by decide +kernel
theorem dX11_duty_23 : decode cX11_duty 23 = .ok (.invokestatic 195, 3) := by decide +kernel
theorem dX11_duty_26 : decode cX11_duty 26 = .ok (.i2f, 1) := by decide +kernel
theorem dX11_duty_27 : decode cX11_duty 27 = .ok (.aload_n 0, 1) := by decide +kernel
theorem dX11_duty_28 : decode cX11_duty 28 = .ok (.getfield 54, 3) := by decide +kernel
theorem dX11_duty_31 : decode cX11_duty 31 = .ok (.getfield 192, 3) := by decide +kernel
theorem dX11_duty_34 : decode cX11_duty 34 = .ok (.i2f, 1) := by decide +kernel
theorem dX11_duty_35 : decode cX11_duty 35 = .ok (.fdiv, 1) := by decide +kernel
theorem dX11_duty_36 : decode cX11_duty 36 = .ok (.goto 4, 3) := by decide +kernel
theorem dX11_duty_40 : decode cX11_duty 40 = .ok (.freturn, 1) := by decide +kernel
theorem dX11_meanEnergy_0 : decode cX11_meanEnergy 0 = .ok (.aload_n 0, 1) := by decide +kernel
theorem dX11_meanEnergy_1 : decode cX11_meanEnergy 1 = .ok (.getfield 54, 3) := by decide +kernel
theorem dX11_meanEnergy_4 : decode cX11_meanEnergy 4 = .ok (.getfield 101, 3) := by decide +kernel
theorem dX11_meanEnergy_7 : decode cX11_meanEnergy 7 = .ok (.ifCond .le 23, 3) := by decide +kernel
theorem dX11_meanEnergy_30 : decode cX11_meanEnergy 30 = .ok (.dconst 0, 1) := by decide +kernel
theorem dX11_meanEnergy_31 : decode cX11_meanEnergy 31 = .ok (.dreturn, 1) := by decide +kernel
theorem dX11_meanEnergy_10 : decode cX11_meanEnergy 10 = .ok (.aload_n 0, 1) := by decide +kernel
theorem dX11_meanEnergy_11 : decode cX11_meanEnergy 11 = .ok (.getfield 54, 3) := by decide +kernel
theorem dX11_meanEnergy_14 : decode cX11_meanEnergy 14 = .ok (.invokevirtual 201, 3) := by decide +kernel
theorem dX11_meanEnergy_17 : decode cX11_meanEnergy 17 = .ok (.i2d, 1) := by decide +kernel
theorem dX11_meanEnergy_18 : decode cX11_meanEnergy 18 = .ok (.aload_n 0, 1) := by decide +kernel
theorem dX11_meanEnergy_19 : decode cX11_meanEnergy 19 = .ok (.getfield 54, 3) := by decide +kernel
theorem dX11_meanEnergy_22 : decode cX11_meanEnergy 22 = .ok (.getfield 101, 3) := by decide +kernel
theorem dX11_meanEnergy_25 : decode cX11_meanEnergy 25 = .ok (.i2d, 1) := by decide +kernel
theorem dX11_meanEnergy_26 : decode cX11_meanEnergy 26 = .ok (.ddiv, 1) := by decide +kernel
theorem dX11_meanEnergy_27 : decode cX11_meanEnergy 27 = .ok (.goto 4, 3) := by decide +kernel
theorem dX11_worstLink_0 : decode cX11_worstLink 0 = .ok (.aload_n 0, 1) := by decide +kernel
theorem dX11_worstLink_1 : decode cX11_worstLink 1 = .ok (.getfield 54, 3) := by decide +kernel
theorem dX11_worstLink_4 : decode cX11_worstLink 4 = .ok (.invokevirtual 217, 3) := by decide +kernel
theorem dX11_worstLink_7 : decode cX11_worstLink 7 = .ok (.ireturn, 1) := by decide +kernel
theorem dX11_busiest_0 : decode cX11_busiest 0 = .ok (.aload_n 0, 1) := by decide +kernel
theorem dX11_busiest_1 : decode cX11_busiest 1 = .ok (.getfield 54, 3) := by decide +kernel
theorem dX11_busiest_4 : decode cX11_busiest 4 = .ok (.invokevirtual 220, 3) := by decide +kernel
theorem dX11_busiest_7 : decode cX11_busiest 7 = .ok (.ireturn, 1) := by decide +kernel
theorem dX11_widest_0 : decode cX11_widest 0 = .ok (.aload_n 0, 1) := by decide +kernel
theorem dX11_widest_1 : decode cX11_widest 1 = .ok (.getfield 54, 3) := by decide +kernel
theorem dX11_widest_4 : decode cX11_widest 4 = .ok (.invokevirtual 236, 3) := by decide +kernel
theorem dX11_widest_7 : decode cX11_widest 7 = .ok (.ireturn, 1) := by decide +kernel
theorem dX11_takesIn_0 : decode cX11_takesIn 0 = .ok (.aload_n 0, 1) := by decide +kernel
theorem dX11_takesIn_1 : decode cX11_takesIn 1 = .ok (.getfield 33, 3) := by decide +kernel
theorem dX11_takesIn_4 : decode cX11_takesIn 4 = .ok (.aload_n 0, 1) := by decide +kernel
theorem dX11_takesIn_5 : decode cX11_takesIn 5 = .ok (.getfield 54, 3) := by decide +kernel
theorem dX11_takesIn_8 : decode cX11_takesIn 8 = .ok (.invokevirtual 258, 3) := by decide +kernel
theorem dX11_takesIn_11 : decode cX11_takesIn 11 = .ok (.ireturn, 1) := by decide +kernel
theorem dX11_report_0 : decode cX11_report 0 = .ok (.aload_n 0, 1) := by decide +kernel
theorem dX11_report_1 : decode cX11_report 1 = .ok (.getfield 47, 3) := by decide +kernel
theorem dX11_report_4 : decode cX11_report 4 = .ok (.aload_n 0, 1) := by decide +kernel
theorem dX11_report_5 : decode cX11_report 5 = .ok (.getfield 54, 3) := by decide +kernel
theorem dX11_report_8 : decode cX11_report 8 = .ok (.invokevirtual 316, 3) := by decide +kernel
theorem dX11_report_11 : decode cX11_report 11 = .ok (.ireturn, 1) := by decide +kernel
theorem dX11_undo_0 : decode cX11_undo 0 = .ok (.aload_n 0, 1) := by decide +kernel
theorem dX11_undo_1 : decode cX11_undo 1 = .ok (.getfield 40, 3) := by decide +kernel
theorem dX11_undo_4 : decode cX11_undo 4 = .ok (.aload_n 0, 1) := by decide +kernel
theorem dX11_undo_5 : decode cX11_undo 5 = .ok (.getfield 54, 3) := by decide +kernel
theorem dX11_undo_8 : decode cX11_undo 8 = .ok (.invokevirtual 325, 3) := by decide +kernel
theorem dX11_undo_11 : decode cX11_undo 11 = .ok (.ifCond .eq 13, 3) := by decide +kernel
theorem dX11_undo_24 : decode cX11_undo 24 = .ok (.iconst (-1), 1) := by decide +kernel
theorem dX11_undo_25 : decode cX11_undo 25 = .ok (.ireturn, 1) := by decide +kernel
theorem dX11_undo_14 : decode cX11_undo 14 = .ok (.aload_n 0, 1) := by decide +kernel
theorem dX11_undo_15 : decode cX11_undo 15 = .ok (.getfield 40, 3) := by decide +kernel
theorem dX11_undo_18 : decode cX11_undo 18 = .ok (.getfield 122, 3) := by decide +kernel
theorem dX11_undo_21 : decode cX11_undo 21 = .ok (.goto 4, 3) := by decide +kernel
theorem dX11_save_0 : decode cX11_save 0 = .ok (.aload_n 0, 1) := by decide +kernel
theorem dX11_save_1 : decode cX11_save 1 = .ok (.getfield 61, 3) := by decide +kernel
theorem dX11_save_4 : decode cX11_save 4 = .ok (.aload_n 0, 1) := by decide +kernel
theorem dX11_save_5 : decode cX11_save 5 = .ok (.getfield 54, 3) := by decide +kernel
theorem dX11_save_8 : decode cX11_save 8 = .ok (.invokevirtual 94, 3) := by decide +kernel
theorem dX11_save_11 : decode cX11_save 11 = .ok (.aload_n 0, 1) := by decide +kernel
theorem dX11_save_12 : decode cX11_save 12 = .ok (.iconst 1, 1) := by decide +kernel
theorem dX11_save_13 : decode cX11_save 13 = .ok (.putfield 329, 3) := by decide +kernel
theorem dX11_save_16 : decode cX11_save 16 = .ok (.aload_n 0, 1) := by decide +kernel
theorem dX11_save_17 : decode cX11_save 17 = .ok (.getfield 54, 3) := by decide +kernel
theorem dX11_save_20 : decode cX11_save 20 = .ok (.getfield 333, 3) := by decide +kernel
theorem dX11_save_23 : decode cX11_save 23 = .ok (.ireturn, 1) := by decide +kernel
