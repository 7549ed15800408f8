theorem dX10_addMessage_0 : decode cX10_addMessage 0 = .ok (.aload_n 0, 1) := by decide +kernel
theorem dX10_addMessage_1 : decode cX10_addMessage 1 = .ok (.getfield 42, 3) := by decide +kernel
theorem dX10_addMessage_4 : decode cX10_addMessage 4 = .ok (.aload_n 0, 1) := by decide +kernel
theorem dX10_addMessage_5 : decode cX10_addMessage 5 = .ok (.getfield 25, 3) := by decide +kernel
theorem dX10_addMessage_8 : decode cX10_addMessage 8 = .ok (.arraylength, 1) := by decide +kernel
theorem dX10_addMessage_9 : decode cX10_addMessage 9 = .ok (.if_icmp .lt 5, 3) := by decide +kernel
theorem dX10_addMessage_14 : decode cX10_addMessage 14 = .ok (.aload_n 0, 1) := by decide +kernel
theorem dX10_addMessage_15 : decode cX10_addMessage 15 = .ok (.aload_n 0, 1) := by decide +kernel
theorem dX10_addMessage_16 : decode cX10_addMessage 16 = .ok (.getfield 42, 3) := by decide +kernel
theorem dX10_addMessage_19 : decode cX10_addMessage 19 = .ok (.invokevirtual 81, 3) := by decide +kernel
theorem dX10_addMessage_22 : decode cX10_addMessage 22 = .ok (.astore 5, 2) := by decide +kernel
theorem dX10_addMessage_24 : decode cX10_addMessage 24 = .ok (.aload 5, 2) := by decide +kernel
theorem dX10_addMessage_26 : decode cX10_addMessage 26 = .ok (.iload_n 1, 1) := by decide +kernel
theorem dX10_addMessage_27 : decode cX10_addMessage 27 = .ok (.putfield 131, 3) := by decide +kernel
theorem dX10_addMessage_30 : decode cX10_addMessage 30 = .ok (.aload 5, 2) := by decide +kernel
theorem dX10_addMessage_32 : decode cX10_addMessage 32 = .ok (.iload_n 2, 1) := by decide +kernel
theorem dX10_addMessage_33 : decode cX10_addMessage 33 = .ok (.putfield 134, 3) := by decide +kernel
theorem dX10_addMessage_36 : decode cX10_addMessage 36 = .ok (.aload 5, 2) := by decide +kernel
theorem dX10_addMessage_38 : decode cX10_addMessage 38 = .ok (.iload_n 1, 1) := by decide +kernel
theorem dX10_addMessage_39 : decode cX10_addMessage 39 = .ok (.putfield 137, 3) := by decide +kernel
theorem dX10_addMessage_42 : decode cX10_addMessage 42 = .ok (.aload 5, 2) := by decide +kernel
theorem dX10_addMessage_44 : decode cX10_addMessage 44 = .ok (.iconst 0, 1) := by decide +kernel
theorem dX10_addMessage_45 : decode cX10_addMessage 45 = .ok (.putfield 140, 3) := by decide +kernel
theorem dX10_addMessage_48 : decode cX10_addMessage 48 = .ok (.aload 5, 2) := by decide +kernel
theorem dX10_addMessage_50 : decode cX10_addMessage 50 = .ok (.aload_n 0, 1) := by decide +kernel
theorem dX10_addMessage_51 : decode cX10_addMessage 51 = .ok (.getfield 60, 3) := by decide +kernel
theorem dX10_addMessage_54 : decode cX10_addMessage 54 = .ok (.iload_n 3, 1) := by decide +kernel
theorem dX10_addMessage_55 : decode cX10_addMessage 55 = .ok (.iadd, 1) := by decide +kernel
theorem dX10_addMessage_56 : decode cX10_addMessage 56 = .ok (.putfield 143, 3) := by decide +kernel
theorem dX10_addMessage_59 : decode cX10_addMessage 59 = .ok (.aload 5, 2) := by decide +kernel
theorem dX10_addMessage_61 : decode cX10_addMessage 61 = .ok (.iconst (-1), 1) := by decide +kernel
theorem dX10_addMessage_62 : decode cX10_addMessage 62 = .ok (.putfield 146, 3) := by decide +kernel
theorem dX10_addMessage_65 : decode cX10_addMessage 65 = .ok (.aload 5, 2) := by decide +kernel
theorem dX10_addMessage_67 : decode cX10_addMessage 67 = .ok (.iconst 0, 1) := by decide +kernel
theorem dX10_addMessage_68 : decode cX10_addMessage 68 = .ok (.putfield 149, 3) := by decide +kernel
theorem dX10_addMessage_71 : decode cX10_addMessage 71 = .ok (.aload 5, 2) := by decide +kernel
theorem dX10_addMessage_73 : decode cX10_addMessage 73 = .ok (.iload 4, 2) := by decide +kernel
theorem dX10_addMessage_75 : decode cX10_addMessage 75 = .ok (.putfield 152, 3) := by decide +kernel
theorem dX10_addMessage_78 : decode cX10_addMessage 78 = .ok (.aload_n 0, 1) := by decide +kernel
theorem dX10_addMessage_79 : decode cX10_addMessage 79 = .ok (.dup, 1) := by decide +kernel
theorem dX10_addMessage_80 : decode cX10_addMessage 80 = .ok (.getfield 42, 3) := by decide +kernel
theorem dX10_addMessage_83 : decode cX10_addMessage 83 = .ok (.iconst 1, 1) := by decide +kernel
theorem dX10_addMessage_84 : decode cX10_addMessage 84 = .ok (.iadd, 1) := by decide +kernel
theorem dX10_addMessage_85 : decode cX10_addMessage 85 = .ok (.putfield 42, 3) := by decide +kernel
theorem dX10_addMessage_88 : decode cX10_addMessage 88 = .ok (.aload_n 0, 1) := by decide +kernel
theorem dX10_addMessage_89 : decode cX10_addMessage 89 = .ok (.getfield 42, 3) := by decide +kernel
theorem dX10_addMessage_92 : decode cX10_addMessage 92 = .ok (.iconst 1, 1) := by decide +kernel
theorem dX10_addMessage_93 : decode cX10_addMessage 93 = .ok (.isub, 1) := by decide +kernel
theorem dX10_addMessage_94 : decode cX10_addMessage 94 = .ok (.ireturn, 1) := by decide +kernel
theorem dX10_addEnergy_0 : decode cX10_addEnergy 0 = .ok (.aload_n 0, 1) := by decide +kernel
theorem dX10_addEnergy_1 : decode cX10_addEnergy 1 = .ok (.iload_n 1, 1) := by decide +kernel
theorem dX10_addEnergy_2 : decode cX10_addEnergy 2 = .ok (.invokevirtual 66, 3) := by decide +kernel
theorem dX10_addEnergy_5 : decode cX10_addEnergy 5 = .ok (.astore_n 3, 1) := by decide +kernel
theorem dX10_addEnergy_6 : decode cX10_addEnergy 6 = .ok (.aload_n 3, 1) := by decide +kernel
theorem dX10_addEnergy_7 : decode cX10_addEnergy 7 = .ok (.sipush 9999, 3) := by decide +kernel
theorem dX10_addEnergy_10 : decode cX10_addEnergy 10 = .ok (.aload_n 3, 1) := by decide +kernel
theorem dX10_addEnergy_11 : decode cX10_addEnergy 11 = .ok (.getfield 101, 3) := by decide +kernel
theorem dX10_addEnergy_14 : decode cX10_addEnergy 14 = .ok (.iload_n 2, 1) := by decide +kernel
theorem dX10_addEnergy_15 : decode cX10_addEnergy 15 = .ok (.iadd, 1) := by decide +kernel
theorem dX10_addEnergy_16 : decode cX10_addEnergy 16 = .ok (.invokestatic 164, 3) := by decide +kernel
theorem dX10_addEnergy_19 : decode cX10_addEnergy 19 = .ok (.putfield 101, 3) := by decide +kernel
theorem dX10_addEnergy_22 : decode cX10_addEnergy 22 = .ok (.aload_n 3, 1) := by decide +kernel
theorem dX10_addEnergy_23 : decode cX10_addEnergy 23 = .ok (.getfield 101, 3) := by decide +kernel
theorem dX10_addEnergy_26 : decode cX10_addEnergy 26 = .ok (.ireturn, 1) := by decide +kernel
theorem dX10_canSend_0 : decode cX10_canSend 0 = .ok (.aload_n 0, 1) := by decide +kernel
theorem dX10_canSend_1 : decode cX10_canSend 1 = .ok (.iload_n 1, 1) := by decide +kernel
theorem dX10_canSend_2 : decode cX10_canSend 2 = .ok (.invokevirtual 160, 3) := by decide +kernel
theorem dX10_canSend_5 : decode cX10_canSend 5 = .ok (.ifCond .ne 24, 3) := by decide +kernel
theorem dX10_canSend_29 : decode cX10_canSend 29 = .ok (.iconst 0, 1) := by decide +kernel
theorem dX10_canSend_30 : decode cX10_canSend 30 = .ok (.ireturn, 1) := by decide +kernel
theorem dX10_canSend_8 : decode cX10_canSend 8 = .ok (.aload_n 0, 1) := by decide +kernel
theorem dX10_canSend_9 : decode cX10_canSend 9 = .ok (.iload_n 2, 1) := by decide +kernel
theorem dX10_canSend_10 : decode cX10_canSend 10 = .ok (.invokevirtual 160, 3) := by decide +kernel
theorem dX10_canSend_13 : decode cX10_canSend 13 = .ok (.ifCond .ne 16, 3) := by decide +kernel
theorem dX10_canSend_16 : decode cX10_canSend 16 = .ok (.aload_n 0, 1) := by decide +kernel
theorem dX10_canSend_17 : decode cX10_canSend 17 = .ok (.getfield 42, 3) := by decide +kernel
theorem dX10_canSend_20 : decode cX10_canSend 20 = .ok (.bipush 60, 2) := by decide +kernel
theorem dX10_canSend_22 : decode cX10_canSend 22 = .ok (.if_icmp .ge 7, 3) := by decide +kernel
theorem dX10_canSend_25 : decode cX10_canSend 25 = .ok (.iconst 1, 1) := by decide +kernel
theorem dX10_canSend_26 : decode cX10_canSend 26 = .ok (.goto 4, 3) := by decide +kernel
theorem dX10_isTickCount_0 : decode cX10_isTickCount 0 = .ok (.iload_n 0, 1) := by decide +kernel
theorem dX10_isTickCount_1 : decode cX10_isTickCount 1 = .ok (.iconst 1, 1) := by decide +kernel
theorem dX10_isTickCount_2 : decode cX10_isTickCount 2 = .ok (.if_icmp .lt 13, 3) := by decide +kernel
theorem dX10_isTickCount_5 : decode cX10_isTickCount 5 = .ok (.iload_n 0, 1) := by decide +kernel
theorem dX10_isTickCount_6 : decode cX10_isTickCount 6 = .ok (.bipush 99, 2) := by decide +kernel
theorem dX10_isTickCount_8 : decode cX10_isTickCount 8 = .ok (.if_icmp .gt 7, 3) := by decide +kernel
theorem dX10_isTickCount_11 : decode cX10_isTickCount 11 = .ok (.iconst 1, 1) := by decide +kernel
theorem dX10_isTickCount_12 : decode cX10_isTickCount 12 = .ok (.goto 4, 3) := by decide +kernel
theorem dX10_isTickCount_16 : decode cX10_isTickCount 16 = .ok (.ireturn, 1) := by decide +kernel
theorem dX10_isCharge_0 : decode cX10_isCharge 0 = .ok (.iload_n 0, 1) := by decide +kernel
theorem dX10_isCharge_1 : decode cX10_isCharge 1 = .ok (.iconst 1, 1) := by decide +kernel
theorem dX10_isCharge_2 : decode cX10_isCharge 2 = .ok (.if_icmp .lt 14, 3) := by decide +kernel
theorem dX10_isCharge_5 : decode cX10_isCharge 5 = .ok (.iload_n 0, 1) := by decide +kernel
theorem dX10_isCharge_6 : decode cX10_isCharge 6 = .ok (.sipush 999, 3) := by decide +kernel
theorem dX10_isCharge_9 : decode cX10_isCharge 9 = .ok (.if_icmp .gt 7, 3) := by decide +kernel
theorem dX10_isCharge_12 : decode cX10_isCharge 12 = .ok (.iconst 1, 1) := by decide +kernel
theorem dX10_isCharge_13 : decode cX10_isCharge 13 = .ok (.goto 4, 3) := by decide +kernel
theorem dX10_isCharge_17 : decode cX10_isCharge 17 = .ok (.ireturn, 1) := by decide +kernel
theorem dX10_isSending_0 : decode cX10_isSending 0 = .ok (.iload_n 0, 1) := by decide +kernel
theorem dX10_isSending_1 : decode cX10_isSending 1 = .ok (.iload_n 1, 1) := by decide +kernel
theorem dX10_isSending_2 : decode cX10_isSending 2 = .ok (.if_icmp .eq 19, 3) := by decide +kernel
theorem dX10_isSending_21 : decode cX10_isSending 21 = .ok (.iconst 0, 1) := by decide +kernel
theorem dX10_isSending_22 : decode cX10_isSending 22 = .ok (.ireturn, 1) := by decide +kernel
theorem dX10_isSending_5 : decode cX10_isSending 5 = .ok (.iload_n 2, 1) := by decide +kernel
theorem dX10_isSending_6 : decode cX10_isSending 6 = .ok (.iconst 1, 1) := by decide +kernel
theorem dX10_isSending_7 : decode cX10_isSending 7 = .ok (.if_icmp .lt 14, 3) := by decide +kernel
theorem dX10_isSending_10 : decode cX10_isSending 10 = .ok (.iload_n 2, 1) := by decide +kernel
theorem dX10_isSending_11 : decode cX10_isSending 11 = .ok (.sipush 999, 3) := by decide +kernel
theorem dX10_isSending_14 : decode cX10_isSending 14 = .ok (.if_icmp .gt 7, 3) := by decide +kernel
theorem dX10_isSending_17 : decode cX10_isSending 17 = .ok (.iconst 1, 1) := by decide +kernel
theorem dX10_isSending_18 : decode cX10_isSending 18 = .ok (.goto 4, 3) := by decide +kernel
theorem dX10_hasTimeFor_0 : decode cX10_hasTimeFor 0 = .ok (.aload_n 0, 1) := by decide +kernel
theorem dX10_hasTimeFor_1 : decode cX10_hasTimeFor 1 = .ok (.getfield 60, 3) := by decide +kernel
theorem dX10_hasTimeFor_4 : decode cX10_hasTimeFor 4 = .ok (.iload_n 1, 1) := by decide +kernel
theorem dX10_hasTimeFor_5 : decode cX10_hasTimeFor 5 = .ok (.iadd, 1) := by decide +kernel
theorem dX10_hasTimeFor_6 : decode cX10_hasTimeFor 6 = .ok (.sipush 9999, 3) := by decide +kernel
theorem dX10_hasTimeFor_9 : decode cX10_hasTimeFor 9 = .ok (.if_icmp .gt 7, 3) := by decide +kernel
theorem dX10_hasTimeFor_12 : decode cX10_hasTimeFor 12 = .ok (.iconst 1, 1) := by decide +kernel
theorem dX10_hasTimeFor_13 : decode cX10_hasTimeFor 13 = .ok (.goto 4, 3) := by decide +kernel
theorem dX10_hasTimeFor_17 : decode cX10_hasTimeFor 17 = .ok (.ireturn, 1) := by decide +kernel
theorem dX10_isDay_0 : decode cX10_isDay 0 = .ok (.iload_n 1, 1) := by decide +kernel
theorem dX10_isDay_1 : decode cX10_isDay 1 = .ok (.ifCond .lt 15, 3) := by decide +kernel
theorem dX10_isDay_4 : decode cX10_isDay 4 = .ok (.iload_n 1, 1) := by decide +kernel
theorem dX10_isDay_5 : decode cX10_isDay 5 = .ok (.aload_n 0, 1) := by decide +kernel
theorem dX10_isDay_6 : decode cX10_isDay 6 = .ok (.getfield 45, 3) := by decide +kernel
theorem dX10_isDay_9 : decode cX10_isDay 9 = .ok (.if_icmp .ge 7, 3) := by decide +kernel
theorem dX10_isDay_12 : decode cX10_isDay 12 = .ok (.iconst 1, 1) := by decide +kernel
theorem dX10_isDay_13 : decode cX10_isDay 13 = .ok (.goto 4, 3) := by decide +kernel
theorem dX10_isDay_17 : decode cX10_isDay 17 = .ok (.ireturn, 1) := by decide +kernel
theorem dX1_trialArrival_0 : decode cX1_trialArrival 0 = .ok (.aload_n 0, 1) := by decide +kernel
theorem dX1_trialArrival_1 : decode cX1_trialArrival 1 = .ok (.getfield 12, 3) := by decide +kernel
theorem dX1_trialArrival_4 : decode cX1_trialArrival 4 = .ok (.iload_n 1, 1) := by decide +kernel
theorem dX1_trialArrival_5 : decode cX1_trialArrival 5 = .ok (.invokevirtual 38, 3) := by decide +kernel
theorem dX1_trialArrival_8 : decode cX1_trialArrival 8 = .ok (.astore_n 3, 1) := by decide +kernel
theorem dX1_trialArrival_9 : decode cX1_trialArrival 9 = .ok (.iconst 0, 1) := by decide +kernel
theorem dX1_trialArrival_10 : decode cX1_trialArrival 10 = .ok (.istore 4, 2) := by decide +kernel
theorem dX1_trialArrival_12 : decode cX1_trialArrival 12 = .ok (.iload 4, 2) := by decide +kernel
theorem dX1_trialArrival_14 : decode cX1_trialArrival 14 = .ok (.iload_n 2, 1) := by decide +kernel
theorem dX1_trialArrival_15 : decode cX1_trialArrival 15 = .ok (.if_icmp .gt 37, 3) := by decide +kernel
theorem dX1_trialArrival_52 : decode cX1_trialArrival 52 = .ok (.iconst (-1), 1) := by decide +kernel
theorem dX1_trialArrival_53 : decode cX1_trialArrival 53 = .ok (.ireturn, 1) := by decide +kernel
theorem dX1_trialArrival_18 : decode cX1_trialArrival 18 = .ok (.aload_n 3, 1) := by decide +kernel
theorem dX1_trialArrival_19 : decode cX1_trialArrival 19 = .ok (.getfield 42, 3) := by decide +kernel
theorem dX1_trialArrival_22 : decode cX1_trialArrival 22 = .ok (.iconst 2, 1) := by decide +kernel
theorem dX1_trialArrival_23 : decode cX1_trialArrival 23 = .ok (.if_icmp .eq 29, 3) := by decide +kernel
theorem dX1_trialArrival_26 : decode cX1_trialArrival 26 = .ok (.aload_n 3, 1) := by decide +kernel
theorem dX1_trialArrival_27 : decode cX1_trialArrival 27 = .ok (.getfield 42, 3) := by decide +kernel
theorem dX1_trialArrival_30 : decode cX1_trialArrival 30 = .ok (.iconst 1, 1) := by decide +kernel
theorem dX1_trialArrival_31 : decode cX1_trialArrival 31 = .ok (.if_icmp .ne 6, 3) := by decide +kernel
theorem dX1_trialArrival_37 : decode cX1_trialArrival 37 = .ok (.aload_n 0, 1) := by decide +kernel
theorem dX1_trialArrival_38 : decode cX1_trialArrival 38 = .ok (.getfield 12, 3) := by decide +kernel
theorem dX1_trialArrival_41 : decode cX1_trialArrival 41 = .ok (.iconst 1, 1) := by decide +kernel
theorem dX1_trialArrival_42 : decode cX1_trialArrival 42 = .ok (.invokevirtual 48, 3) := by decide +kernel
theorem dX1_trialArrival_45 : decode cX1_trialArrival 45 = .ok (.pop, 1) := by decide +kernel
theorem dX1_trialArrival_46 : decode cX1_trialArrival 46 = .ok (.iinc 4 1, 3) := by decide +kernel
theorem dX1_trialArrival_49 : decode cX1_trialArrival 49 = .ok (.goto (-37), 3) := by decide +kernel
theorem dX1_trialArrival_34 : decode cX1_trialArrival 34 = .ok (.iload 4, 2) := by decide +kernel
theorem dX1_trialArrival_36 : decode cX1_trialArrival 36 = .ok (.ireturn, 1) := by decide +kernel
theorem dX1_ticksToArrival_0 : decode cX1_ticksToArrival 0 = .ok (.aload_n 0, 1) := by decide +kernel
theorem dX1_ticksToArrival_1 : decode cX1_ticksToArrival 1 = .ok (.getfield 12, 3) := by decide +kernel
theorem dX1_ticksToArrival_4 : decode cX1_ticksToArrival 4 = .ok (.aload_n 1, 1) := by decide +kernel
theorem dX1_ticksToArrival_5 : decode cX1_ticksToArrival 5 = .ok (.invokevirtual 18, 3) := by decide +kernel
theorem dX1_ticksToArrival_8 : decode cX1_ticksToArrival 8 = .ok (.aload_n 0, 1) := by decide +kernel
theorem dX1_ticksToArrival_9 : decode cX1_ticksToArrival 9 = .ok (.iload_n 2, 1) := by decide +kernel
theorem dX1_ticksToArrival_10 : decode cX1_ticksToArrival 10 = .ok (.sipush 200, 3) := by decide +kernel
theorem dX1_ticksToArrival_13 : decode cX1_ticksToArrival 13 = .ok (.invokevirtual 22, 3) := by decide +kernel
theorem dX1_ticksToArrival_16 : decode cX1_ticksToArrival 16 = .ok (.ireturn, 1) := by decide +kernel
theorem dX1_sendInThought_0 : decode cX1_sendInThought 0 = .ok (.aload_n 0, 1) := by decide +kernel
theorem dX1_sendInThought_1 : decode cX1_sendInThought 1 = .ok (.getfield 12, 3) := by decide +kernel
theorem dX1_sendInThought_4 : decode cX1_sendInThought 4 = .ok (.aload_n 1, 1) := by decide +kernel
theorem dX1_sendInThought_5 : decode cX1_sendInThought 5 = .ok (.invokevirtual 18, 3) := by decide +kernel
theorem dX1_sendInThought_8 : decode cX1_sendInThought 8 = .ok (.aload_n 0, 1) := by decide +kernel
theorem dX1_sendInThought_9 : decode cX1_sendInThought 9 = .ok (.getfield 12, 3) := by decide +kernel
theorem dX1_sendInThought_12 : decode cX1_sendInThought 12 = .ok (.iload_n 2, 1) := by decide +kernel
theorem dX1_sendInThought_13 : decode cX1_sendInThought 13 = .ok (.iload_n 3, 1) := by decide +kernel
theorem dX1_sendInThought_14 : decode cX1_sendInThought 14 = .ok (.iconst 1, 1) := by decide +kernel
theorem dX1_sendInThought_15 : decode cX1_sendInThought 15 = .ok (.iload 4, 2) := by decide +kernel
theorem dX1_sendInThought_17 : decode cX1_sendInThought 17 = .ok (.invokevirtual 34, 3) := by decide +kernel
theorem dX1_sendInThought_20 : decode cX1_sendInThought 20 = .ok (.ireturn, 1) := by decide +kernel
theorem dX1_ticksIfSent_0 : decode cX1_ticksIfSent 0 = .ok (.aload_n 1, 1) := by decide +kernel
theorem dX1_ticksIfSent_1 : decode cX1_ticksIfSent 1 = .ok (.iload_n 2, 1) := by decide +kernel
theorem dX1_ticksIfSent_2 : decode cX1_ticksIfSent 2 = .ok (.invokevirtual 26, 3) := by decide +kernel
theorem dX1_ticksIfSent_5 : decode cX1_ticksIfSent 5 = .ok (.ifCond .ne 11, 3) := by decide +kernel
theorem dX1_ticksIfSent_16 : decode cX1_ticksIfSent 16 = .ok (.iconst (-1), 1) := by decide +kernel
theorem dX1_ticksIfSent_17 : decode cX1_ticksIfSent 17 = .ok (.ireturn, 1) := by decide +kernel
theorem dX1_ticksIfSent_8 : decode cX1_ticksIfSent 8 = .ok (.aload_n 1, 1) := by decide +kernel
theorem dX1_ticksIfSent_9 : decode cX1_ticksIfSent 9 = .ok (.iload_n 3, 1) := by decide +kernel
theorem dX1_ticksIfSent_10 : decode cX1_ticksIfSent 10 = .ok (.invokevirtual 26, 3) := by decide +kernel
theorem dX1_ticksIfSent_13 : decode cX1_ticksIfSent 13 = .ok (.ifCond .eq 5, 3) := by decide +kernel
theorem dX1_ticksIfSent_18 : decode cX1_ticksIfSent 18 = .ok (.aload_n 0, 1) := by decide +kernel
theorem dX1_ticksIfSent_19 : decode cX1_ticksIfSent 19 = .ok (.aload_n 0, 1) := by decide +kernel
theorem dX1_ticksIfSent_20 : decode cX1_ticksIfSent 20 = .ok (.aload_n 1, 1) := by decide +kernel
theorem dX1_ticksIfSent_21 : decode cX1_ticksIfSent 21 = .ok (.iload_n 2, 1) := by decide +kernel
theorem dX1_ticksIfSent_22 : decode cX1_ticksIfSent 22 = .ok (.iload_n 3, 1) := by decide +kernel
theorem dX1_ticksIfSent_23 : decode cX1_ticksIfSent 23 = .ok (.iload 4, 2) := by decide +kernel
theorem dX1_ticksIfSent_25 : decode cX1_ticksIfSent 25 = .ok (.invokevirtual 30, 3) := by decide +kernel
theorem dX1_ticksIfSent_28 : decode cX1_ticksIfSent 28 = .ok (.sipush 200, 3) := by decide +kernel
theorem dX1_ticksIfSent_31 : decode cX1_ticksIfSent 31 = .ok (.invokevirtual 22, 3) := by decide +kernel
theorem dX1_ticksIfSent_34 : decode cX1_ticksIfSent 34 = .ok (.ireturn, 1) := by decide +kernel
theorem dX1_energyAfter_0 : decode cX1_energyAfter 0 = .ok (.aload_n 0, 1) := by decide +kernel
theorem dX1_energyAfter_1 : decode cX1_energyAfter 1 = .ok (.getfield 12, 3) := by decide +kernel
theorem dX1_energyAfter_4 : decode cX1_energyAfter 4 = .ok (.aload_n 1, 1) := by decide +kernel
theorem dX1_energyAfter_5 : decode cX1_energyAfter 5 = .ok (.invokevirtual 18, 3) := by decide +kernel
theorem dX1_energyAfter_8 : decode cX1_energyAfter 8 = .ok (.aload_n 0, 1) := by decide +kernel
theorem dX1_energyAfter_9 : decode cX1_energyAfter 9 = .ok (.getfield 12, 3) := by decide +kernel
theorem dX1_energyAfter_12 : decode cX1_energyAfter 12 = .ok (.iload_n 3, 1) := by decide +kernel
theorem dX1_energyAfter_13 : decode cX1_energyAfter 13 = .ok (.invokevirtual 48, 3) := by decide +kernel
theorem dX1_energyAfter_16 : decode cX1_energyAfter 16 = .ok (.pop, 1) := by decide +kernel
theorem dX1_energyAfter_17 : decode cX1_energyAfter 17 = .ok (.aload_n 0, 1) := by decide +kernel
theorem dX1_energyAfter_18 : decode cX1_energyAfter 18 = .ok (.getfield 12, 3) := by decide +kernel
theorem dX1_energyAfter_21 : decode cX1_energyAfter 21 = .ok (.iload_n 2, 1) := by decide +kernel
theorem dX1_energyAfter_22 : decode cX1_energyAfter 22 = .ok (.invokevirtual 52, 3) := by decide +kernel
theorem dX1_energyAfter_25 : decode cX1_energyAfter 25 = .ok (.getfield 56, 3) := by decide +kernel
theorem dX1_energyAfter_28 : decode cX1_energyAfter 28 = .ok (.ireturn, 1) := by decide +kernel
theorem dX1_ticksToOut_0 : decode cX1_ticksToOut 0 = .ok (.aload_n 0, 1) := by decide +kernel
theorem dX1_ticksToOut_1 : decode cX1_ticksToOut 1 = .ok (.getfield 12, 3) := by decide +kernel
theorem dX1_ticksToOut_4 : decode cX1_ticksToOut 4 = .ok (.aload_n 1, 1) := by decide +kernel
theorem dX1_ticksToOut_5 : decode cX1_ticksToOut 5 = .ok (.invokevirtual 18, 3) := by decide +kernel
theorem dX1_ticksToOut_8 : decode cX1_ticksToOut 8 = .ok (.iconst 0, 1) := by decide +kernel
theorem dX1_ticksToOut_9 : decode cX1_ticksToOut 9 = .ok (.istore_n 3, 1) := by decide +kernel
theorem dX1_ticksToOut_10 : decode cX1_ticksToOut 10 = .ok (.iload_n 3, 1) := by decide +kernel
theorem dX1_ticksToOut_11 : decode cX1_ticksToOut 11 = .ok (.sipush 200, 3) := by decide +kernel
theorem dX1_ticksToOut_14 : decode cX1_ticksToOut 14 = .ok (.if_icmp .gt 31, 3) := by decide +kernel
theorem dX1_ticksToOut_45 : decode cX1_ticksToOut 45 = .ok (.iconst (-1), 1) := by decide +kernel
theorem dX1_ticksToOut_46 : decode cX1_ticksToOut 46 = .ok (.ireturn, 1) := by decide +kernel
theorem dX1_ticksToOut_17 : decode cX1_ticksToOut 17 = .ok (.aload_n 0, 1) := by decide +kernel
theorem dX1_ticksToOut_18 : decode cX1_ticksToOut 18 = .ok (.getfield 12, 3) := by decide +kernel
theorem dX1_ticksToOut_21 : decode cX1_ticksToOut 21 = .ok (.iload_n 2, 1) := by decide +kernel
theorem dX1_ticksToOut_22 : decode cX1_ticksToOut 22 = .ok (.invokevirtual 26, 3) := by decide +kernel
theorem dX1_ticksToOut_25 : decode cX1_ticksToOut 25 = .ok (.ifCond .eq 5, 3) := by decide +kernel
theorem dX1_ticksToOut_28 : decode cX1_ticksToOut 28 = .ok (.iload_n 3, 1) := by decide +kernel
theorem dX1_ticksToOut_29 : decode cX1_ticksToOut 29 = .ok (.ireturn, 1) := by decide +kernel
theorem dX1_ticksToOut_30 : decode cX1_ticksToOut 30 = .ok (.aload_n 0, 1) := by decide +kernel
theorem dX1_ticksToOut_31 : decode cX1_ticksToOut 31 = .ok (.getfield 12, 3) := by decide +kernel
theorem dX1_ticksToOut_34 : decode cX1_ticksToOut 34 = .ok (.iconst 1, 1) := by decide +kernel
theorem dX1_ticksToOut_35 : decode cX1_ticksToOut 35 = .ok (.invokevirtual 48, 3) := by decide +kernel
theorem dX1_ticksToOut_38 : decode cX1_ticksToOut 38 = .ok (.pop, 1) := by decide +kernel
theorem dX1_ticksToOut_39 : decode cX1_ticksToOut 39 = .ok (.iinc 3 1, 3) := by decide +kernel
theorem dX1_ticksToOut_42 : decode cX1_ticksToOut 42 = .ok (.goto (-32), 3) := by decide +kernel
theorem dX2_keep_0 : decode cX2_keep 0 = .ok (.aload_n 0, 1) := by decide +kernel
theorem dX2_keep_1 : decode cX2_keep 1 = .ok (.getfield 20, 3) := by decide +kernel
theorem dX2_keep_4 : decode cX2_keep 4 = .ok (.ifCond .lt 15, 3) := by decide +kernel
theorem dX2_keep_7 : decode cX2_keep 7 = .ok (.aload_n 0, 1) := by decide +kernel
theorem dX2_keep_8 : decode cX2_keep 8 = .ok (.getfield 20, 3) := by decide +kernel
theorem dX2_keep_11 : decode cX2_keep 11 = .ok (.aload_n 0, 1) := by decide +kernel
theorem dX2_keep_12 : decode cX2_keep 12 = .ok (.getfield 11, 3) := by decide +kernel
theorem dX2_keep_15 : decode cX2_keep 15 = .ok (.arraylength, 1) := by decide +kernel
theorem dX2_keep_16 : decode cX2_keep 16 = .ok (.if_icmp .lt 8, 3) := by decide +kernel
theorem dX2_keep_24 : decode cX2_keep 24 = .ok (.aload_n 0, 1) := by decide +kernel
theorem dX2_keep_25 : decode cX2_keep 25 = .ok (.getfield 11, 3) := by decide +kernel
theorem dX2_keep_28 : decode cX2_keep 28 = .ok (.aload_n 0, 1) := by decide +kernel
theorem dX2_keep_29 : decode cX2_keep 29 = .ok (.getfield 20, 3) := by decide +kernel
theorem dX2_keep_32 : decode cX2_keep 32 = .ok (.aaload, 1) := by decide +kernel
theorem dX2_keep_33 : decode cX2_keep 33 = .ok (.aload_n 1, 1) := by decide +kernel
theorem dX2_keep_34 : decode cX2_keep 34 = .ok (.invokevirtual 23, 3) := by decide +kernel
theorem dX2_keep_37 : decode cX2_keep 37 = .ok (.aload_n 0, 1) := by decide +kernel
theorem dX2_keep_38 : decode cX2_keep 38 = .ok (.dup, 1) := by decide +kernel
theorem dX2_keep_39 : decode cX2_keep 39 = .ok (.getfield 20, 3) := by decide +kernel
theorem dX2_keep_42 : decode cX2_keep 42 = .ok (.iconst 1, 1) := by decide +kernel
theorem dX2_keep_43 : decode cX2_keep 43 = .ok (.iadd, 1) := by decide +kernel
theorem dX2_keep_44 : decode cX2_keep 44 = .ok (.putfield 20, 3) := by decide +kernel
theorem dX2_keep_47 : decode cX2_keep 47 = .ok (.aload_n 0, 1) := by decide +kernel
theorem dX2_keep_48 : decode cX2_keep 48 = .ok (.bipush 6, 2) := by decide +kernel
theorem dX2_keep_50 : decode cX2_keep 50 = .ok (.aload_n 0, 1) := by decide +kernel
theorem dX2_keep_51 : decode cX2_keep 51 = .ok (.getfield 16, 3) := by decide +kernel
theorem dX2_keep_54 : decode cX2_keep 54 = .ok (.iconst 1, 1) := by decide +kernel
theorem dX2_keep_55 : decode cX2_keep 55 = .ok (.iadd, 1) := by decide +kernel
theorem dX2_keep_56 : decode cX2_keep 56 = .ok (.invokestatic 27, 3) := by decide +kernel
theorem dX2_keep_59 : decode cX2_keep 59 = .ok (.putfield 16, 3) := by decide +kernel
theorem dX2_keep_62 : decode cX2_keep 62 = .ok (.return_, 1) := by decide +kernel
theorem dX2_takeBack_0 : decode cX2_takeBack 0 = .ok (.aload_n 0, 1) := by decide +kernel
theorem dX2_takeBack_1 : decode cX2_takeBack 1 = .ok (.getfield 16, 3) := by decide +kernel
theorem dX2_takeBack_4 : decode cX2_takeBack 4 = .ok (.ifCond .ne 5, 3) := by decide +kernel
theorem dX2_takeBack_9 : decode cX2_takeBack 9 = .ok (.aload_n 0, 1) := by decide +kernel
theorem dX2_takeBack_10 : decode cX2_takeBack 10 = .ok (.aload_n 0, 1) := by decide +kernel
theorem dX2_takeBack_11 : decode cX2_takeBack 11 = .ok (.getfield 20, 3) := by decide +kernel
theorem dX2_takeBack_14 : decode cX2_takeBack 14 = .ok (.ifCond .le 24, 3) := by decide +kernel
theorem dX2_takeBack_38 : decode cX2_takeBack 38 = .ok (.aload_n 0, 1) := by decide +kernel
theorem dX2_takeBack_39 : decode cX2_takeBack 39 = .ok (.getfield 11, 3) := by decide +kernel
theorem dX2_takeBack_42 : decode cX2_takeBack 42 = .ok (.arraylength, 1) := by decide +kernel
theorem dX2_takeBack_43 : decode cX2_takeBack 43 = .ok (.iconst 1, 1) := by decide +kernel
theorem dX2_takeBack_44 : decode cX2_takeBack 44 = .ok (.isub, 1) := by decide +kernel
theorem dX2_takeBack_45 : decode cX2_takeBack 45 = .ok (.putfield 20, 3) := by decide +kernel
theorem dX2_takeBack_48 : decode cX2_takeBack 48 = .ok (.aload_n 1, 1) := by decide +kernel
theorem dX2_takeBack_49 : decode cX2_takeBack 49 = .ok (.aload_n 0, 1) := by decide +kernel
theorem dX2_takeBack_50 : decode cX2_takeBack 50 = .ok (.getfield 11, 3) := by decide +kernel
theorem dX2_takeBack_53 : decode cX2_takeBack 53 = .ok (.aload_n 0, 1) := by decide +kernel
theorem dX2_takeBack_54 : decode cX2_takeBack 54 = .ok (.getfield 20, 3) := by decide +kernel
theorem dX2_takeBack_57 : decode cX2_takeBack 57 = .ok (.aaload, 1) := by decide +kernel
theorem dX2_takeBack_58 : decode cX2_takeBack 58 = .ok (.invokevirtual 23, 3) := by decide +kernel
theorem dX2_takeBack_61 : decode cX2_takeBack 61 = .ok (.aload_n 0, 1) := by decide +kernel
theorem dX2_takeBack_62 : decode cX2_takeBack 62 = .ok (.dup, 1) := by decide +kernel
theorem dX2_takeBack_63 : decode cX2_takeBack 63 = .ok (.getfield 16, 3) := by decide +kernel
theorem dX2_takeBack_66 : decode cX2_takeBack 66 = .ok (.iconst 1, 1) := by decide +kernel
theorem dX2_takeBack_67 : decode cX2_takeBack 67 = .ok (.isub, 1) := by decide +kernel
theorem dX2_takeBack_68 : decode cX2_takeBack 68 = .ok (.putfield 16, 3) := by decide +kernel
theorem dX2_takeBack_71 : decode cX2_takeBack 71 = .ok (.iconst 1, 1) := by decide +kernel
theorem dX2_takeBack_72 : decode cX2_takeBack 72 = .ok (.ireturn, 1) := by decide +kernel
theorem dX2_takeBack_17 : decode cX2_takeBack 17 = .ok (.aload_n 0, 1) := by decide +kernel
theorem dX2_takeBack_18 : decode cX2_takeBack 18 = .ok (.getfield 20, 3) := by decide +kernel
theorem dX2_takeBack_21 : decode cX2_takeBack 21 = .ok (.aload_n 0, 1) := by decide +kernel
theorem dX2_takeBack_22 : decode cX2_takeBack 22 = .ok (.getfield 11, 3) := by decide +kernel
theorem dX2_takeBack_25 : decode cX2_takeBack 25 = .ok (.arraylength, 1) := by decide +kernel
theorem dX2_takeBack_26 : decode cX2_takeBack 26 = .ok (.if_icmp .gt 12, 3) := by decide +kernel
theorem dX2_takeBack_29 : decode cX2_takeBack 29 = .ok (.aload_n 0, 1) := by decide +kernel
theorem dX2_takeBack_30 : decode cX2_takeBack 30 = .ok (.getfield 20, 3) := by decide +kernel
theorem dX2_takeBack_33 : decode cX2_takeBack 33 = .ok (.iconst 1, 1) := by decide +kernel
theorem dX2_takeBack_34 : decode cX2_takeBack 34 = .ok (.isub, 1) := by decide +kernel
theorem dX2_takeBack_35 : decode cX2_takeBack 35 = .ok (.goto 10, 3) := by decide +kernel
theorem dX2_keep_19 : decode cX2_keep 19 = .ok (.aload_n 0, 1) := by decide +kernel
theorem dX2_keep_20 : decode cX2_keep 20 = .ok (.iconst 0, 1) := by decide +kernel
theorem dX2_keep_21 : decode cX2_keep 21 = .ok (.putfield 20, 3) := by decide +kernel
theorem dX2_forget_0 : decode cX2_forget 0 = .ok (.aload_n 0, 1) := by decide +kernel
theorem dX2_forget_1 : decode cX2_forget 1 = .ok (.iconst 0, 1) := by decide +kernel
theorem dX2_forget_2 : decode cX2_forget 2 = .ok (.putfield 16, 3) := by decide +kernel
theorem dX2_forget_5 : decode cX2_forget 5 = .ok (.return_, 1) := by decide +kernel
