theorem dX12_any_0 : decode cX12_any 0 = .ok (.aload_n 0, 1) := by decide +kernel
theorem dX12_any_1 : decode cX12_any 1 = .ok (.iconst 0, 1) := by decide +kernel
theorem dX12_any_2 : decode cX12_any 2 = .ok (.sipush 999, 3) := by decide +kernel
theorem dX12_any_5 : decode cX12_any 5 = .ok (.invokevirtual 193, 3) := by decide +kernel
theorem dX12_any_8 : decode cX12_any 8 = .ok (.ireturn, 1) := by decide +kernel
theorem dX12_commandHere_0 : decode cX12_commandHere 0 = .ok (.aload_n 0, 1) := by decide +kernel
theorem dX12_commandHere_1 : decode cX12_commandHere 1 = .ok (.ldc2_w 470, 3) := by decide +kernel
theorem dX12_commandHere_4 : decode cX12_commandHere 4 = .ok (.invokevirtual 143, 3) := by decide +kernel
theorem dX12_commandHere_7 : decode cX12_commandHere 7 = .ok (.ifCond .eq 5, 3) := by decide +kernel
theorem dX12_commandHere_10 : decode cX12_commandHere 10 = .ok (.iconst 0, 1) := by decide +kernel
theorem dX12_commandHere_11 : decode cX12_commandHere 11 = .ok (.ireturn, 1) := by decide +kernel
theorem dX12_commandHere_12 : decode cX12_commandHere 12 = .ok (.aload_n 0, 1) := by decide +kernel
theorem dX12_commandHere_13 : decode cX12_commandHere 13 = .ok (.ldc2_w 472, 3) := by decide +kernel
theorem dX12_commandHere_16 : decode cX12_commandHere 16 = .ok (.invokevirtual 143, 3) := by decide +kernel
theorem dX12_commandHere_19 : decode cX12_commandHere 19 = .ok (.ifCond .eq 5, 3) := by decide +kernel
theorem dX12_commandHere_22 : decode cX12_commandHere 22 = .ok (.iconst 1, 1) := by decide +kernel
theorem dX12_commandHere_23 : decode cX12_commandHere 23 = .ok (.ireturn, 1) := by decide +kernel
theorem dX12_commandHere_24 : decode cX12_commandHere 24 = .ok (.aload_n 0, 1) := by decide +kernel
theorem dX12_commandHere_25 : decode cX12_commandHere 25 = .ok (.ldc2_w 474, 3) := by decide +kernel
theorem dX12_commandHere_28 : decode cX12_commandHere 28 = .ok (.invokevirtual 143, 3) := by decide +kernel
theorem dX12_commandHere_31 : decode cX12_commandHere 31 = .ok (.ifCond .eq 5, 3) := by decide +kernel
theorem dX12_commandHere_34 : decode cX12_commandHere 34 = .ok (.iconst 2, 1) := by decide +kernel
theorem dX12_commandHere_35 : decode cX12_commandHere 35 = .ok (.ireturn, 1) := by decide +kernel
theorem dX12_commandHere_36 : decode cX12_commandHere 36 = .ok (.aload_n 0, 1) := by decide +kernel
theorem dX12_commandHere_37 : decode cX12_commandHere 37 = .ok (.ldc2_w 206, 3) := by decide +kernel
theorem dX12_commandHere_40 : decode cX12_commandHere 40 = .ok (.invokevirtual 143, 3) := by decide +kernel
theorem dX12_commandHere_43 : decode cX12_commandHere 43 = .ok (.ifCond .eq 5, 3) := by decide +kernel
theorem dX12_commandHere_46 : decode cX12_commandHere 46 = .ok (.iconst 3, 1) := by decide +kernel
theorem dX12_commandHere_47 : decode cX12_commandHere 47 = .ok (.ireturn, 1) := by decide +kernel
theorem dX12_commandHere_48 : decode cX12_commandHere 48 = .ok (.aload_n 0, 1) := by decide +kernel
theorem dX12_commandHere_49 : decode cX12_commandHere 49 = .ok (.ldc2_w 476, 3) := by decide +kernel
theorem dX12_commandHere_52 : decode cX12_commandHere 52 = .ok (.invokevirtual 143, 3) := by decide +kernel
theorem dX12_commandHere_55 : decode cX12_commandHere 55 = .ok (.ifCond .eq 5, 3) := by decide +kernel
theorem dX12_commandHere_58 : decode cX12_commandHere 58 = .ok (.iconst 4, 1) := by decide +kernel
theorem dX12_commandHere_59 : decode cX12_commandHere 59 = .ok (.ireturn, 1) := by decide +kernel
theorem dX12_commandHere_60 : decode cX12_commandHere 60 = .ok (.aload_n 0, 1) := by decide +kernel
theorem dX12_commandHere_61 : decode cX12_commandHere 61 = .ok (.ldc2_w 478, 3) := by decide +kernel
theorem dX12_commandHere_64 : decode cX12_commandHere 64 = .ok (.invokevirtual 143, 3) := by decide +kernel
theorem dX12_commandHere_67 : decode cX12_commandHere 67 = .ok (.ifCond .eq 5, 3) := by decide +kernel
theorem dX12_commandHere_70 : decode cX12_commandHere 70 = .ok (.iconst 5, 1) := by decide +kernel
theorem dX12_commandHere_71 : decode cX12_commandHere 71 = .ok (.ireturn, 1) := by decide +kernel
theorem dX12_commandHere_72 : decode cX12_commandHere 72 = .ok (.aload_n 0, 1) := by decide +kernel
theorem dX12_commandHere_73 : decode cX12_commandHere 73 = .ok (.ldc2_w 480, 3) := by decide +kernel
theorem dX12_commandHere_76 : decode cX12_commandHere 76 = .ok (.invokevirtual 143, 3) := by decide +kernel
theorem dX12_commandHere_79 : decode cX12_commandHere 79 = .ok (.ifCond .eq 8, 3) := by decide +kernel
theorem dX12_commandHere_82 : decode cX12_commandHere 82 = .ok (.bipush 6, 2) := by decide +kernel
theorem dX12_commandHere_84 : decode cX12_commandHere 84 = .ok (.goto 4, 3) := by decide +kernel
theorem dX12_commandHere_88 : decode cX12_commandHere 88 = .ok (.ireturn, 1) := by decide +kernel
theorem dX12_commandHere_87 : decode cX12_commandHere 87 = .ok (.iconst (-1), 1) := by decide +kernel
theorem dX12_readsNumbers_0 : decode cX12_readsNumbers 0 = .ok (.iload_n 2, 1) := by decide +kernel
theorem dX12_readsNumbers_1 : decode cX12_readsNumbers 1 = .ok (.ifCond .ne 13, 3) := by decide +kernel
theorem dX12_readsNumbers_4 : decode cX12_readsNumbers 4 = .ok (.aload_n 0, 1) := by decide +kernel
theorem dX12_readsNumbers_5 : decode cX12_readsNumbers 5 = .ok (.getfield 54, 3) := by decide +kernel
theorem dX12_readsNumbers_8 : decode cX12_readsNumbers 8 = .ok (.iload_n 1, 1) := by decide +kernel
theorem dX12_readsNumbers_9 : decode cX12_readsNumbers 9 = .ok (.aload_n 0, 1) := by decide +kernel
theorem dX12_readsNumbers_10 : decode cX12_readsNumbers 10 = .ok (.invokevirtual 482, 3) := by decide +kernel
theorem dX12_readsNumbers_13 : decode cX12_readsNumbers 13 = .ok (.iastore, 1) := by decide +kernel
theorem dX12_readsNumbers_14 : decode cX12_readsNumbers 14 = .ok (.iload_n 2, 1) := by decide +kernel
theorem dX12_readsNumbers_15 : decode cX12_readsNumbers 15 = .ok (.iconst 1, 1) := by decide +kernel
theorem dX12_readsNumbers_16 : decode cX12_readsNumbers 16 = .ok (.if_icmp .lt 18, 3) := by decide +kernel
theorem dX12_readsNumbers_34 : decode cX12_readsNumbers 34 = .ok (.iload_n 2, 1) := by decide +kernel
theorem dX12_readsNumbers_35 : decode cX12_readsNumbers 35 = .ok (.iconst 1, 1) := by decide +kernel
theorem dX12_readsNumbers_36 : decode cX12_readsNumbers 36 = .ok (.if_icmp .eq 8, 3) := by decide +kernel
theorem dX12_readsNumbers_39 : decode cX12_readsNumbers 39 = .ok (.iload_n 2, 1) := by decide +kernel
theorem dX12_readsNumbers_40 : decode cX12_readsNumbers 40 = .ok (.iconst 2, 1) := by decide +kernel
theorem dX12_readsNumbers_41 : decode cX12_readsNumbers 41 = .ok (.if_icmp .ne 13, 3) := by decide +kernel
theorem dX12_readsNumbers_54 : decode cX12_readsNumbers 54 = .ok (.iload_n 2, 1) := by decide +kernel
theorem dX12_readsNumbers_55 : decode cX12_readsNumbers 55 = .ok (.iconst 3, 1) := by decide +kernel
theorem dX12_readsNumbers_56 : decode cX12_readsNumbers 56 = .ok (.if_icmp .lt 18, 3) := by decide +kernel
theorem dX12_readsNumbers_74 : decode cX12_readsNumbers 74 = .ok (.iload_n 2, 1) := by decide +kernel
theorem dX12_readsNumbers_75 : decode cX12_readsNumbers 75 = .ok (.iconst 1, 1) := by decide +kernel
theorem dX12_readsNumbers_76 : decode cX12_readsNumbers 76 = .ok (.if_icmp .eq 8, 3) := by decide +kernel
theorem dX12_readsNumbers_79 : decode cX12_readsNumbers 79 = .ok (.iload_n 2, 1) := by decide +kernel
theorem dX12_readsNumbers_80 : decode cX12_readsNumbers 80 = .ok (.iconst 2, 1) := by decide +kernel
theorem dX12_readsNumbers_81 : decode cX12_readsNumbers 81 = .ok (.if_icmp .ne 13, 3) := by decide +kernel
theorem dX12_readsNumbers_94 : decode cX12_readsNumbers 94 = .ok (.iload_n 2, 1) := by decide +kernel
theorem dX12_readsNumbers_95 : decode cX12_readsNumbers 95 = .ok (.bipush 6, 2) := by decide +kernel
theorem dX12_readsNumbers_97 : decode cX12_readsNumbers 97 = .ok (.if_icmp .ne 16, 3) := by decide +kernel
theorem dX12_readsNumbers_113 : decode cX12_readsNumbers 113 = .ok (.iload_n 2, 1) := by decide +kernel
theorem dX12_readsNumbers_114 : decode cX12_readsNumbers 114 = .ok (.bipush 6, 2) := by decide +kernel
theorem dX12_readsNumbers_116 : decode cX12_readsNumbers 116 = .ok (.if_icmp .ne 9, 3) := by decide +kernel
theorem dX12_readsNumbers_125 : decode cX12_readsNumbers 125 = .ok (.return_, 1) := by decide +kernel
theorem dX12_readsNumbers_19 : decode cX12_readsNumbers 19 = .ok (.iload_n 2, 1) := by decide +kernel
theorem dX12_readsNumbers_20 : decode cX12_readsNumbers 20 = .ok (.iconst 5, 1) := by decide +kernel
theorem dX12_readsNumbers_21 : decode cX12_readsNumbers 21 = .ok (.if_icmp .gt 13, 3) := by decide +kernel
theorem dX12_readsNumbers_24 : decode cX12_readsNumbers 24 = .ok (.aload_n 0, 1) := by decide +kernel
theorem dX12_readsNumbers_25 : decode cX12_readsNumbers 25 = .ok (.getfield 54, 3) := by decide +kernel
theorem dX12_readsNumbers_28 : decode cX12_readsNumbers 28 = .ok (.iload_n 1, 1) := by decide +kernel
theorem dX12_readsNumbers_29 : decode cX12_readsNumbers 29 = .ok (.aload_n 0, 1) := by decide +kernel
theorem dX12_readsNumbers_30 : decode cX12_readsNumbers 30 = .ok (.invokevirtual 213, 3) := by decide +kernel
theorem dX12_readsNumbers_33 : decode cX12_readsNumbers 33 = .ok (.iastore, 1) := by decide +kernel
theorem dX12_readsNumbers_44 : decode cX12_readsNumbers 44 = .ok (.aload_n 0, 1) := by decide +kernel
theorem dX12_readsNumbers_45 : decode cX12_readsNumbers 45 = .ok (.getfield 57, 3) := by decide +kernel
theorem dX12_readsNumbers_48 : decode cX12_readsNumbers 48 = .ok (.iload_n 1, 1) := by decide +kernel
theorem dX12_readsNumbers_49 : decode cX12_readsNumbers 49 = .ok (.aload_n 0, 1) := by decide +kernel
theorem dX12_readsNumbers_50 : decode cX12_readsNumbers 50 = .ok (.invokevirtual 213, 3) := by decide +kernel
theorem dX12_readsNumbers_53 : decode cX12_readsNumbers 53 = .ok (.iastore, 1) := by decide +kernel
theorem dX12_readsNumbers_84 : decode cX12_readsNumbers 84 = .ok (.aload_n 0, 1) := by decide +kernel
theorem dX12_readsNumbers_85 : decode cX12_readsNumbers 85 = .ok (.getfield 60, 3) := by decide +kernel
theorem dX12_readsNumbers_88 : decode cX12_readsNumbers 88 = .ok (.iload_n 1, 1) := by decide +kernel
theorem dX12_readsNumbers_89 : decode cX12_readsNumbers 89 = .ok (.aload_n 0, 1) := by decide +kernel
theorem dX12_readsNumbers_90 : decode cX12_readsNumbers 90 = .ok (.invokevirtual 482, 3) := by decide +kernel
theorem dX12_readsNumbers_93 : decode cX12_readsNumbers 93 = .ok (.iastore, 1) := by decide +kernel
theorem dX12_readsNumbers_59 : decode cX12_readsNumbers 59 = .ok (.iload_n 2, 1) := by decide +kernel
theorem dX12_readsNumbers_60 : decode cX12_readsNumbers 60 = .ok (.iconst 5, 1) := by decide +kernel
theorem dX12_readsNumbers_61 : decode cX12_readsNumbers 61 = .ok (.if_icmp .gt 13, 3) := by decide +kernel
theorem dX12_readsNumbers_64 : decode cX12_readsNumbers 64 = .ok (.aload_n 0, 1) := by decide +kernel
theorem dX12_readsNumbers_65 : decode cX12_readsNumbers 65 = .ok (.getfield 57, 3) := by decide +kernel
theorem dX12_readsNumbers_68 : decode cX12_readsNumbers 68 = .ok (.iload_n 1, 1) := by decide +kernel
theorem dX12_readsNumbers_69 : decode cX12_readsNumbers 69 = .ok (.aload_n 0, 1) := by decide +kernel
theorem dX12_readsNumbers_70 : decode cX12_readsNumbers 70 = .ok (.invokevirtual 482, 3) := by decide +kernel
theorem dX12_readsNumbers_73 : decode cX12_readsNumbers 73 = .ok (.iastore, 1) := by decide +kernel
theorem dX12_readsNumbers_100 : decode cX12_readsNumbers 100 = .ok (.aload_n 0, 1) := by decide +kernel
theorem dX12_readsNumbers_101 : decode cX12_readsNumbers 101 = .ok (.getfield 54, 3) := by decide +kernel
theorem dX12_readsNumbers_104 : decode cX12_readsNumbers 104 = .ok (.iload_n 1, 1) := by decide +kernel
theorem dX12_readsNumbers_105 : decode cX12_readsNumbers 105 = .ok (.aload_n 0, 1) := by decide +kernel
theorem dX12_readsNumbers_106 : decode cX12_readsNumbers 106 = .ok (.iconst 1, 1) := by decide +kernel
theorem dX12_readsNumbers_107 : decode cX12_readsNumbers 107 = .ok (.bipush 20, 2) := by decide +kernel
theorem dX12_readsNumbers_109 : decode cX12_readsNumbers 109 = .ok (.invokevirtual 193, 3) := by decide +kernel
theorem dX12_readsNumbers_112 : decode cX12_readsNumbers 112 = .ok (.iastore, 1) := by decide +kernel
theorem dX12_readsNumbers_119 : decode cX12_readsNumbers 119 = .ok (.aload_n 0, 1) := by decide +kernel
theorem dX12_readsNumbers_120 : decode cX12_readsNumbers 120 = .ok (.bipush 40, 2) := by decide +kernel
theorem dX12_readsNumbers_122 : decode cX12_readsNumbers 122 = .ok (.invokevirtual 241, 3) := by decide +kernel
theorem dX12_command_0 : decode cX12_command 0 = .ok (.aload_n 0, 1) := by decide +kernel
theorem dX12_command_1 : decode cX12_command 1 = .ok (.invokevirtual 485, 3) := by decide +kernel
theorem dX12_command_4 : decode cX12_command 4 = .ok (.istore_n 1, 1) := by decide +kernel
theorem dX12_command_5 : decode cX12_command 5 = .ok (.iload_n 1, 1) := by decide +kernel
theorem dX12_command_6 : decode cX12_command 6 = .ok (.iconst (-1), 1) := by decide +kernel
theorem dX12_command_7 : decode cX12_command 7 = .ok (.if_icmp .ne 8, 3) := by decide +kernel
theorem dX12_command_15 : decode cX12_command 15 = .ok (.iload_n 1, 1) := by decide +kernel
theorem dX12_command_16 : decode cX12_command 16 = .ok (.bipush 6, 2) := by decide +kernel
theorem dX12_command_18 : decode cX12_command 18 = .ok (.if_icmp .ne 16, 3) := by decide +kernel
theorem dX12_command_34 : decode cX12_command 34 = .ok (.aload_n 0, 1) := by decide +kernel
theorem dX12_command_35 : decode cX12_command 35 = .ok (.getfield 491, 3) := by decide +kernel
theorem dX12_command_38 : decode cX12_command 38 = .ok (.bipush 30, 2) := by decide +kernel
theorem dX12_command_40 : decode cX12_command 40 = .ok (.if_icmp .ne 8, 3) := by decide +kernel
theorem dX12_command_48 : decode cX12_command 48 = .ok (.aload_n 0, 1) := by decide +kernel
theorem dX12_command_49 : decode cX12_command 49 = .ok (.invokevirtual 130, 3) := by decide +kernel
theorem dX12_command_52 : decode cX12_command 52 = .ok (.ifCond .ne 4, 3) := by decide +kernel
theorem dX12_command_56 : decode cX12_command 56 = .ok (.aload_n 0, 1) := by decide +kernel
theorem dX12_command_57 : decode cX12_command 57 = .ok (.dup, 1) := by decide +kernel
theorem dX12_command_58 : decode cX12_command 58 = .ok (.getfield 491, 3) := by decide +kernel
theorem dX12_command_61 : decode cX12_command 61 = .ok (.iconst 1, 1) := by decide +kernel
theorem dX12_command_62 : decode cX12_command 62 = .ok (.iadd, 1) := by decide +kernel
theorem dX12_command_63 : decode cX12_command 63 = .ok (.putfield 491, 3) := by decide +kernel
theorem dX12_command_66 : decode cX12_command 66 = .ok (.aload_n 0, 1) := by decide +kernel
theorem dX12_command_67 : decode cX12_command 67 = .ok (.invokevirtual 140, 3) := by decide +kernel
theorem dX12_command_70 : decode cX12_command 70 = .ok (.aload_n 0, 1) := by decide +kernel
theorem dX12_command_71 : decode cX12_command 71 = .ok (.getfield 494, 3) := by decide +kernel
theorem dX12_command_74 : decode cX12_command 74 = .ok (.istore_n 2, 1) := by decide +kernel
theorem dX12_command_75 : decode cX12_command 75 = .ok (.aload_n 0, 1) := by decide +kernel
theorem dX12_command_76 : decode cX12_command 76 = .ok (.getfield 51, 3) := by decide +kernel
theorem dX12_command_79 : decode cX12_command 79 = .ok (.iload_n 2, 1) := by decide +kernel
theorem dX12_command_80 : decode cX12_command 80 = .ok (.iload_n 1, 1) := by decide +kernel
theorem dX12_command_81 : decode cX12_command 81 = .ok (.iastore, 1) := by decide +kernel
theorem dX12_command_82 : decode cX12_command 82 = .ok (.aload_n 0, 1) := by decide +kernel
theorem dX12_command_83 : decode cX12_command 83 = .ok (.iload_n 2, 1) := by decide +kernel
theorem dX12_command_84 : decode cX12_command 84 = .ok (.iload_n 1, 1) := by decide +kernel
theorem dX12_command_85 : decode cX12_command 85 = .ok (.invokevirtual 497, 3) := by decide +kernel
theorem dX12_command_88 : decode cX12_command 88 = .ok (.aload_n 0, 1) := by decide +kernel
theorem dX12_command_89 : decode cX12_command 89 = .ok (.invokevirtual 130, 3) := by decide +kernel
theorem dX12_command_92 : decode cX12_command 92 = .ok (.ifCond .ne 4, 3) := by decide +kernel
theorem dX12_command_96 : decode cX12_command 96 = .ok (.aload_n 0, 1) := by decide +kernel
theorem dX12_command_97 : decode cX12_command 97 = .ok (.dup, 1) := by decide +kernel
theorem dX12_command_98 : decode cX12_command 98 = .ok (.getfield 494, 3) := by decide +kernel
theorem dX12_command_101 : decode cX12_command 101 = .ok (.iconst 1, 1) := by decide +kernel
theorem dX12_command_102 : decode cX12_command 102 = .ok (.iadd, 1) := by decide +kernel
theorem dX12_command_103 : decode cX12_command 103 = .ok (.putfield 494, 3) := by decide +kernel
theorem dX12_command_106 : decode cX12_command 106 = .ok (.aload_n 0, 1) := by decide +kernel
theorem dX12_command_107 : decode cX12_command 107 = .ok (.dup, 1) := by decide +kernel
theorem dX12_command_108 : decode cX12_command 108 = .ok (.getfield 488, 3) := by decide +kernel
theorem dX12_command_111 : decode cX12_command 111 = .ok (.iload_n 1, 1) := by decide +kernel
theorem dX12_command_112 : decode cX12_command 112 = .ok (.bipush 6, 2) := by decide +kernel
theorem dX12_command_114 : decode cX12_command 114 = .ok (.if_icmp .ne 7, 3) := by decide +kernel
theorem dX12_command_121 : decode cX12_command 121 = .ok (.iconst 0, 1) := by decide +kernel
theorem dX12_command_122 : decode cX12_command 122 = .ok (.invokestatic 78, 3) := by decide +kernel
theorem dX12_command_125 : decode cX12_command 125 = .ok (.iadd, 1) := by decide +kernel
theorem dX12_command_126 : decode cX12_command 126 = .ok (.putfield 488, 3) := by decide +kernel
theorem dX12_command_129 : decode cX12_command 129 = .ok (.return_, 1) := by decide +kernel
theorem dX12_command_95 : decode cX12_command 95 = .ok (.return_, 1) := by decide +kernel
theorem dX12_command_43 : decode cX12_command 43 = .ok (.aload_n 0, 1) := by decide +kernel
theorem dX12_command_44 : decode cX12_command 44 = .ok (.iconst 5, 1) := by decide +kernel
theorem dX12_command_45 : decode cX12_command 45 = .ok (.invokevirtual 137, 3) := by decide +kernel
theorem dX12_command_55 : decode cX12_command 55 = .ok (.return_, 1) := by decide +kernel
theorem dX12_command_21 : decode cX12_command 21 = .ok (.aload_n 0, 1) := by decide +kernel
theorem dX12_command_22 : decode cX12_command 22 = .ok (.getfield 488, 3) := by decide +kernel
theorem dX12_command_25 : decode cX12_command 25 = .ok (.iconst 2, 1) := by decide +kernel
theorem dX12_command_26 : decode cX12_command 26 = .ok (.if_icmp .ne 8, 3) := by decide +kernel
theorem dX12_command_117 : decode cX12_command 117 = .ok (.iconst 1, 1) := by decide +kernel
theorem dX12_command_118 : decode cX12_command 118 = .ok (.goto 4, 3) := by decide +kernel
theorem dX12_command_29 : decode cX12_command 29 = .ok (.aload_n 0, 1) := by decide +kernel
theorem dX12_command_30 : decode cX12_command 30 = .ok (.iconst 3, 1) := by decide +kernel
theorem dX12_command_31 : decode cX12_command 31 = .ok (.invokevirtual 137, 3) := by decide +kernel
theorem dX12_command_10 : decode cX12_command 10 = .ok (.aload_n 0, 1) := by decide +kernel
theorem dX12_command_11 : decode cX12_command 11 = .ok (.iconst 1, 1) := by decide +kernel
theorem dX12_command_12 : decode cX12_command 12 = .ok (.invokevirtual 137, 3) := by decide +kernel
theorem dX12_closes_0 : decode cX12_closes 0 = .ok (.aload_n 0, 1) := by decide +kernel
theorem dX12_closes_1 : decode cX12_closes 1 = .ok (.getfield 488, 3) := by decide +kernel
theorem dX12_closes_4 : decode cX12_closes 4 = .ok (.ifCond .le 56, 3) := by decide +kernel
theorem dX12_closes_60 : decode cX12_closes 60 = .ok (.return_, 1) := by decide +kernel
theorem dX12_closes_7 : decode cX12_closes 7 = .ok (.aload_n 0, 1) := by decide +kernel
theorem dX12_closes_8 : decode cX12_closes 8 = .ok (.bipush 41, 2) := by decide +kernel
theorem dX12_closes_10 : decode cX12_closes 10 = .ok (.invokevirtual 134, 3) := by decide +kernel
theorem dX12_closes_13 : decode cX12_closes 13 = .ok (.ifCond .eq 47, 3) := by decide +kernel
theorem dX12_closes_16 : decode cX12_closes 16 = .ok (.aload_n 0, 1) := by decide +kernel
theorem dX12_closes_17 : decode cX12_closes 17 = .ok (.dup, 1) := by decide +kernel
theorem dX12_closes_18 : decode cX12_closes 18 = .ok (.getfield 488, 3) := by decide +kernel
theorem dX12_closes_21 : decode cX12_closes 21 = .ok (.iconst 1, 1) := by decide +kernel
theorem dX12_closes_22 : decode cX12_closes 22 = .ok (.isub, 1) := by decide +kernel
theorem dX12_closes_23 : decode cX12_closes 23 = .ok (.putfield 488, 3) := by decide +kernel
theorem dX12_closes_26 : decode cX12_closes 26 = .ok (.aload_n 0, 1) := by decide +kernel
theorem dX12_closes_27 : decode cX12_closes 27 = .ok (.getfield 51, 3) := by decide +kernel
theorem dX12_closes_30 : decode cX12_closes 30 = .ok (.aload_n 0, 1) := by decide +kernel
theorem dX12_closes_31 : decode cX12_closes 31 = .ok (.getfield 494, 3) := by decide +kernel
theorem dX12_closes_34 : decode cX12_closes 34 = .ok (.bipush 7, 2) := by decide +kernel
theorem dX12_closes_36 : decode cX12_closes 36 = .ok (.iastore, 1) := by decide +kernel
theorem dX12_closes_37 : decode cX12_closes 37 = .ok (.aload_n 0, 1) := by decide +kernel
theorem dX12_closes_38 : decode cX12_closes 38 = .ok (.dup, 1) := by decide +kernel
theorem dX12_closes_39 : decode cX12_closes 39 = .ok (.getfield 494, 3) := by decide +kernel
theorem dX12_closes_42 : decode cX12_closes 42 = .ok (.iconst 1, 1) := by decide +kernel
theorem dX12_closes_43 : decode cX12_closes 43 = .ok (.iadd, 1) := by decide +kernel
theorem dX12_closes_44 : decode cX12_closes 44 = .ok (.putfield 494, 3) := by decide +kernel
theorem dX12_closes_47 : decode cX12_closes 47 = .ok (.aload_n 0, 1) := by decide +kernel
theorem dX12_closes_48 : decode cX12_closes 48 = .ok (.invokevirtual 140, 3) := by decide +kernel
theorem dX12_closes_51 : decode cX12_closes 51 = .ok (.aload_n 0, 1) := by decide +kernel
theorem dX12_closes_52 : decode cX12_closes 52 = .ok (.bipush 59, 2) := by decide +kernel
theorem dX12_closes_54 : decode cX12_closes 54 = .ok (.invokevirtual 241, 3) := by decide +kernel
theorem dX12_closes_57 : decode cX12_closes 57 = .ok (.goto (-57), 3) := by decide +kernel
theorem dX12_may_0 : decode cX12_may 0 = .ok (.aload_n 0, 1) := by decide +kernel
theorem dX12_may_1 : decode cX12_may 1 = .ok (.getfield 54, 3) := by decide +kernel
theorem dX12_may_4 : decode cX12_may 4 = .ok (.iload_n 1, 1) := by decide +kernel
theorem dX12_may_5 : decode cX12_may 5 = .ok (.iaload, 1) := by decide +kernel
theorem dX12_may_6 : decode cX12_may 6 = .ok (.istore_n 2, 1) := by decide +kernel
theorem dX12_may_7 : decode cX12_may 7 = .ok (.aload_n 0, 1) := by decide +kernel
theorem dX12_may_8 : decode cX12_may 8 = .ok (.getfield 57, 3) := by decide +kernel
theorem dX12_may_11 : decode cX12_may 11 = .ok (.iload_n 1, 1) := by decide +kernel
theorem dX12_may_12 : decode cX12_may 12 = .ok (.iaload, 1) := by decide +kernel
theorem dX12_may_13 : decode cX12_may 13 = .ok (.istore_n 3, 1) := by decide +kernel
theorem dX12_may_14 : decode cX12_may 14 = .ok (.aload_n 0, 1) := by decide +kernel
theorem dX12_may_15 : decode cX12_may 15 = .ok (.getfield 51, 3) := by decide +kernel
theorem dX12_may_18 : decode cX12_may 18 = .ok (.iload_n 1, 1) := by decide +kernel
theorem dX12_may_19 : decode cX12_may 19 = .ok (.iaload, 1) := by decide +kernel
theorem dX12_may_20 : decode cX12_may 20 = .ok (.tableswitch 124 0 4 #[36, 63, 63, 95, 101], 36) := by decide +kernel
theorem dX12_may_56 : decode cX12_may 56 = .ok (.iload_n 2, 1) := by decide +kernel
theorem dX12_may_57 : decode cX12_may 57 = .ok (.invokestatic 446, 3) := by decide +kernel
theorem dX12_may_60 : decode cX12_may 60 = .ok (.ifCond .eq 21, 3) := by decide +kernel
theorem dX12_may_63 : decode cX12_may 63 = .ok (.aload_n 0, 1) := by decide +kernel
theorem dX12_may_64 : decode cX12_may 64 = .ok (.getfield 20, 3) := by decide +kernel
theorem dX12_may_67 : decode cX12_may 67 = .ok (.iconst 3, 1) := by decide +kernel
theorem dX12_may_68 : decode cX12_may 68 = .ok (.iaload, 1) := by decide +kernel
theorem dX12_may_69 : decode cX12_may 69 = .ok (.iload_n 2, 1) := by decide +kernel
theorem dX12_may_70 : decode cX12_may 70 = .ok (.iadd, 1) := by decide +kernel
theorem dX12_may_71 : decode cX12_may 71 = .ok (.sipush 9999, 3) := by decide +kernel
theorem dX12_may_74 : decode cX12_may 74 = .ok (.if_icmp .gt 7, 3) := by decide +kernel
theorem dX12_may_81 : decode cX12_may 81 = .ok (.iconst 0, 1) := by decide +kernel
theorem dX12_may_82 : decode cX12_may 82 = .ok (.ireturn, 1) := by decide +kernel
theorem dX12_may_77 : decode cX12_may 77 = .ok (.iconst 1, 1) := by decide +kernel
theorem dX12_may_78 : decode cX12_may 78 = .ok (.goto 4, 3) := by decide +kernel
theorem dX12_may_83 : decode cX12_may 83 = .ok (.iload_n 2, 1) := by decide +kernel
theorem dX12_may_84 : decode cX12_may 84 = .ok (.iload_n 3, 1) := by decide +kernel
theorem dX12_may_85 : decode cX12_may 85 = .ok (.if_icmp .eq 28, 3) := by decide +kernel
theorem dX12_may_113 : decode cX12_may 113 = .ok (.iconst 0, 1) := by decide +kernel
theorem dX12_may_114 : decode cX12_may 114 = .ok (.ireturn, 1) := by decide +kernel
theorem dX12_may_88 : decode cX12_may 88 = .ok (.aload_n 0, 1) := by decide +kernel
theorem dX12_may_89 : decode cX12_may 89 = .ok (.getfield 60, 3) := by decide +kernel
theorem dX12_may_92 : decode cX12_may 92 = .ok (.iload_n 1, 1) := by decide +kernel
theorem dX12_may_93 : decode cX12_may 93 = .ok (.iaload, 1) := by decide +kernel
theorem dX12_may_94 : decode cX12_may 94 = .ok (.invokestatic 452, 3) := by decide +kernel
theorem dX12_may_97 : decode cX12_may 97 = .ok (.ifCond .eq 16, 3) := by decide +kernel
theorem dX12_may_100 : decode cX12_may 100 = .ok (.aload_n 0, 1) := by decide +kernel
theorem dX12_may_101 : decode cX12_may 101 = .ok (.iload_n 2, 1) := by decide +kernel
theorem dX12_may_102 : decode cX12_may 102 = .ok (.iload_n 3, 1) := by decide +kernel
theorem dX12_may_103 : decode cX12_may 103 = .ok (.invokevirtual 455, 3) := by decide +kernel
theorem dX12_may_106 : decode cX12_may 106 = .ok (.ifCond .eq 7, 3) := by decide +kernel
theorem dX12_may_109 : decode cX12_may 109 = .ok (.iconst 1, 1) := by decide +kernel
theorem dX12_may_110 : decode cX12_may 110 = .ok (.goto 4, 3) := by decide +kernel
theorem dX12_may_115 : decode cX12_may 115 = .ok (.aload_n 0, 1) := by decide +kernel
theorem dX12_may_116 : decode cX12_may 116 = .ok (.iload_n 3, 1) := by decide +kernel
theorem dX12_may_117 : decode cX12_may 117 = .ok (.invokevirtual 388, 3) := by decide +kernel
theorem dX12_may_120 : decode cX12_may 120 = .ok (.ireturn, 1) := by decide +kernel
theorem dX12_may_121 : decode cX12_may 121 = .ok (.aload_n 0, 1) := by decide +kernel
theorem dX12_may_122 : decode cX12_may 122 = .ok (.iload_n 3, 1) := by decide +kernel
theorem dX12_may_123 : decode cX12_may 123 = .ok (.invokevirtual 388, 3) := by decide +kernel
theorem dX12_may_126 : decode cX12_may 126 = .ok (.ifCond .eq 16, 3) := by decide +kernel
theorem dX12_may_129 : decode cX12_may 129 = .ok (.aload_n 0, 1) := by decide +kernel
theorem dX12_may_130 : decode cX12_may 130 = .ok (.iload_n 2, 1) := by decide +kernel
theorem dX12_may_131 : decode cX12_may 131 = .ok (.iload_n 3, 1) := by decide +kernel
theorem dX12_may_132 : decode cX12_may 132 = .ok (.invokevirtual 262, 3) := by decide +kernel
theorem dX12_may_135 : decode cX12_may 135 = .ok (.ifCond .ne 7, 3) := by decide +kernel
theorem dX12_may_142 : decode cX12_may 142 = .ok (.iconst 0, 1) := by decide +kernel
theorem dX12_may_143 : decode cX12_may 143 = .ok (.ireturn, 1) := by decide +kernel
theorem dX12_may_138 : decode cX12_may 138 = .ok (.iconst 1, 1) := by decide +kernel
theorem dX12_may_139 : decode cX12_may 139 = .ok (.goto 4, 3) := by decide +kernel
theorem dX12_may_144 : decode cX12_may 144 = .ok (.iload_n 3, 1) := by decide +kernel
theorem dX12_may_145 : decode cX12_may 145 = .ok (.invokestatic 452, 3) := by decide +kernel
theorem dX12_may_148 : decode cX12_may 148 = .ok (.ireturn, 1) := by decide +kernel
theorem dX12_does_0 : decode cX12_does 0 = .ok (.aload_n 0, 1) := by decide +kernel
theorem dX12_does_1 : decode cX12_does 1 = .ok (.getfield 54, 3) := by decide +kernel
theorem dX12_does_4 : decode cX12_does 4 = .ok (.iload_n 1, 1) := by decide +kernel
theorem dX12_does_5 : decode cX12_does 5 = .ok (.iaload, 1) := by decide +kernel
theorem dX12_does_6 : decode cX12_does 6 = .ok (.istore_n 2, 1) := by decide +kernel
theorem dX12_does_7 : decode cX12_does 7 = .ok (.aload_n 0, 1) := by decide +kernel
theorem dX12_does_8 : decode cX12_does 8 = .ok (.getfield 57, 3) := by decide +kernel
theorem dX12_does_11 : decode cX12_does 11 = .ok (.iload_n 1, 1) := by decide +kernel
theorem dX12_does_12 : decode cX12_does 12 = .ok (.iaload, 1) := by decide +kernel
theorem dX12_does_13 : decode cX12_does 13 = .ok (.istore_n 3, 1) := by decide +kernel
theorem dX12_does_14 : decode cX12_does 14 = .ok (.aload_n 0, 1) := by decide +kernel
theorem dX12_does_15 : decode cX12_does 15 = .ok (.getfield 51, 3) := by decide +kernel
theorem dX12_does_18 : decode cX12_does 18 = .ok (.iload_n 1, 1) := by decide +kernel
theorem dX12_does_19 : decode cX12_does 19 = .ok (.iaload, 1) := by decide +kernel
theorem dX12_does_20 : decode cX12_does 20 = .ok (.tableswitch 90 0 4 #[36, 42, 56, 70, 81], 36) := by decide +kernel
theorem dX12_does_56 : decode cX12_does 56 = .ok (.aload_n 0, 1) := by decide +kernel
theorem dX12_does_57 : decode cX12_does 57 = .ok (.iload_n 2, 1) := by decide +kernel
theorem dX12_does_58 : decode cX12_does 58 = .ok (.invokevirtual 427, 3) := by decide +kernel
theorem dX12_does_61 : decode cX12_does 61 = .ok (.ireturn, 1) := by decide +kernel
theorem dX12_does_62 : decode cX12_does 62 = .ok (.aload_n 0, 1) := by decide +kernel
theorem dX12_does_63 : decode cX12_does 63 = .ok (.iload_n 2, 1) := by decide +kernel
theorem dX12_does_64 : decode cX12_does 64 = .ok (.iload_n 3, 1) := by decide +kernel
theorem dX12_does_65 : decode cX12_does 65 = .ok (.aload_n 0, 1) := by decide +kernel
theorem dX12_does_66 : decode cX12_does 66 = .ok (.getfield 60, 3) := by decide +kernel
theorem dX12_does_69 : decode cX12_does 69 = .ok (.iload_n 1, 1) := by decide +kernel
theorem dX12_does_70 : decode cX12_does 70 = .ok (.iaload, 1) := by decide +kernel
theorem dX12_does_71 : decode cX12_does 71 = .ok (.iconst 0, 1) := by decide +kernel
theorem dX12_does_72 : decode cX12_does 72 = .ok (.invokevirtual 417, 3) := by decide +kernel
theorem dX12_does_75 : decode cX12_does 75 = .ok (.ireturn, 1) := by decide +kernel
theorem dX12_does_76 : decode cX12_does 76 = .ok (.aload_n 0, 1) := by decide +kernel
theorem dX12_does_77 : decode cX12_does 77 = .ok (.iload_n 2, 1) := by decide +kernel
theorem dX12_does_78 : decode cX12_does 78 = .ok (.iload_n 3, 1) := by decide +kernel
theorem dX12_does_79 : decode cX12_does 79 = .ok (.aload_n 0, 1) := by decide +kernel
theorem dX12_does_80 : decode cX12_does 80 = .ok (.getfield 60, 3) := by decide +kernel
theorem dX12_does_83 : decode cX12_does 83 = .ok (.iload_n 1, 1) := by decide +kernel
theorem dX12_does_84 : decode cX12_does 84 = .ok (.iaload, 1) := by decide +kernel
theorem dX12_does_85 : decode cX12_does 85 = .ok (.iconst 1, 1) := by decide +kernel
theorem dX12_does_86 : decode cX12_does 86 = .ok (.invokevirtual 417, 3) := by decide +kernel
theorem dX12_does_89 : decode cX12_does 89 = .ok (.ireturn, 1) := by decide +kernel
theorem dX12_does_90 : decode cX12_does 90 = .ok (.aload_n 0, 1) := by decide +kernel
theorem dX12_does_91 : decode cX12_does 91 = .ok (.iload_n 2, 1) := by decide +kernel
theorem dX12_does_92 : decode cX12_does 92 = .ok (.iconst 1, 1) := by decide +kernel
theorem dX12_does_93 : decode cX12_does 93 = .ok (.invokestatic 172, 3) := by decide +kernel
theorem dX12_does_96 : decode cX12_does 96 = .ok (.iload_n 3, 1) := by decide +kernel
theorem dX12_does_97 : decode cX12_does 97 = .ok (.invokevirtual 462, 3) := by decide +kernel
theorem dX12_does_100 : decode cX12_does 100 = .ok (.ireturn, 1) := by decide +kernel
theorem dX12_does_101 : decode cX12_does 101 = .ok (.aload_n 0, 1) := by decide +kernel
theorem dX12_does_102 : decode cX12_does 102 = .ok (.iload_n 2, 1) := by decide +kernel
theorem dX12_does_103 : decode cX12_does 103 = .ok (.iload_n 3, 1) := by decide +kernel
theorem dX12_does_104 : decode cX12_does 104 = .ok (.iconst 1, 1) := by decide +kernel
theorem dX12_does_105 : decode cX12_does 105 = .ok (.invokevirtual 436, 3) := by decide +kernel
theorem dX12_does_108 : decode cX12_does 108 = .ok (.iconst 1, 1) := by decide +kernel
theorem dX12_does_109 : decode cX12_does 109 = .ok (.ireturn, 1) := by decide +kernel
theorem dX12_does_110 : decode cX12_does 110 = .ok (.aload_n 0, 1) := by decide +kernel
theorem dX12_does_111 : decode cX12_does 111 = .ok (.iload_n 2, 1) := by decide +kernel
theorem dX12_does_112 : decode cX12_does 112 = .ok (.iload_n 3, 1) := by decide +kernel
theorem dX12_does_113 : decode cX12_does 113 = .ok (.invokevirtual 465, 3) := by decide +kernel
theorem dX12_does_116 : decode cX12_does 116 = .ok (.ireturn, 1) := by decide +kernel
theorem dX12_runs_0 : decode cX12_runs 0 = .ok (.iconst 0, 1) := by decide +kernel
theorem dX12_runs_1 : decode cX12_runs 1 = .ok (.istore_n 1, 1) := by decide +kernel
theorem dX12_runs_2 : decode cX12_runs 2 = .ok (.iconst 0, 1) := by decide +kernel
theorem dX12_runs_3 : decode cX12_runs 3 = .ok (.istore_n 2, 1) := by decide +kernel
theorem dX12_runs_4 : decode cX12_runs 4 = .ok (.iconst 0, 1) := by decide +kernel
theorem dX12_runs_5 : decode cX12_runs 5 = .ok (.istore_n 3, 1) := by decide +kernel
theorem dX12_runs_6 : decode cX12_runs 6 = .ok (.iconst 1, 1) := by decide +kernel
theorem dX12_runs_7 : decode cX12_runs 7 = .ok (.istore 4, 2) := by decide +kernel
theorem dX12_runs_9 : decode cX12_runs 9 = .ok (.iload 4, 2) := by decide +kernel
theorem dX12_runs_11 : decode cX12_runs 11 = .ok (.ifCond .eq 175, 3) := by decide +kernel
theorem dX12_runs_186 : decode cX12_runs 186 = .ok (.iload_n 1, 1) := by decide +kernel
theorem dX12_runs_187 : decode cX12_runs 187 = .ok (.ireturn, 1) := by decide +kernel
theorem dX12_runs_14 : decode cX12_runs 14 = .ok (.iload_n 3, 1) := by decide +kernel
theorem dX12_runs_15 : decode cX12_runs 15 = .ok (.aload_n 0, 1) := by decide +kernel
theorem dX12_runs_16 : decode cX12_runs 16 = .ok (.getfield 494, 3) := by decide +kernel
theorem dX12_runs_19 : decode cX12_runs 19 = .ok (.if_icmp .ge 167, 3) := by decide +kernel
theorem dX12_runs_22 : decode cX12_runs 22 = .ok (.iload_n 1, 1) := by decide +kernel
theorem dX12_runs_23 : decode cX12_runs 23 = .ok (.bipush 40, 2) := by decide +kernel
theorem dX12_runs_25 : decode cX12_runs 25 = .ok (.if_icmp .ge 161, 3) := by decide +kernel
theorem dX12_runs_28 : decode cX12_runs 28 = .ok (.aload_n 0, 1) := by decide +kernel
theorem dX12_runs_29 : decode cX12_runs 29 = .ok (.getfield 51, 3) := by decide +kernel
theorem dX12_runs_32 : decode cX12_runs 32 = .ok (.iload_n 3, 1) := by decide +kernel
theorem dX12_runs_33 : decode cX12_runs 33 = .ok (.iaload, 1) := by decide +kernel
theorem dX12_runs_34 : decode cX12_runs 34 = .ok (.bipush 6, 2) := by decide +kernel
theorem dX12_runs_36 : decode cX12_runs 36 = .ok (.if_icmp .ne 31, 3) := by decide +kernel
theorem dX12_runs_67 : decode cX12_runs 67 = .ok (.aload_n 0, 1) := by decide +kernel
theorem dX12_runs_68 : decode cX12_runs 68 = .ok (.getfield 51, 3) := by decide +kernel
theorem dX12_runs_71 : decode cX12_runs 71 = .ok (.iload_n 3, 1) := by decide +kernel
theorem dX12_runs_72 : decode cX12_runs 72 = .ok (.iaload, 1) := by decide +kernel
theorem dX12_runs_73 : decode cX12_runs 73 = .ok (.bipush 7, 2) := by decide +kernel
theorem dX12_runs_75 : decode cX12_runs 75 = .ok (.if_icmp .ne 74, 3) := by decide +kernel
theorem dX12_runs_149 : decode cX12_runs 149 = .ok (.aload_n 0, 1) := by decide +kernel
theorem dX12_runs_150 : decode cX12_runs 150 = .ok (.iload_n 3, 1) := by decide +kernel
theorem dX12_runs_151 : decode cX12_runs 151 = .ok (.invokevirtual 509, 3) := by decide +kernel
theorem dX12_runs_154 : decode cX12_runs 154 = .ok (.istore 4, 2) := by decide +kernel
theorem dX12_runs_156 : decode cX12_runs 156 = .ok (.iload 4, 2) := by decide +kernel
theorem dX12_runs_158 : decode cX12_runs 158 = .ok (.ifCond .eq 11, 3) := by decide +kernel
theorem dX12_runs_161 : decode cX12_runs 161 = .ok (.aload_n 0, 1) := by decide +kernel
theorem dX12_runs_162 : decode cX12_runs 162 = .ok (.iload_n 3, 1) := by decide +kernel
theorem dX12_runs_163 : decode cX12_runs 163 = .ok (.invokevirtual 512, 3) := by decide +kernel
theorem dX12_runs_166 : decode cX12_runs 166 = .ok (.goto 4, 3) := by decide +kernel
theorem dX12_runs_170 : decode cX12_runs 170 = .ok (.istore 5, 2) := by decide +kernel
theorem dX12_runs_172 : decode cX12_runs 172 = .ok (.iload_n 1, 1) := by decide +kernel
theorem dX12_runs_173 : decode cX12_runs 173 = .ok (.iload 4, 2) := by decide +kernel
theorem dX12_runs_175 : decode cX12_runs 175 = .ok (.invokestatic 78, 3) := by decide +kernel
theorem dX12_runs_178 : decode cX12_runs 178 = .ok (.iadd, 1) := by decide +kernel
theorem dX12_runs_179 : decode cX12_runs 179 = .ok (.istore_n 1, 1) := by decide +kernel
theorem dX12_runs_180 : decode cX12_runs 180 = .ok (.iinc 3 1, 3) := by decide +kernel
theorem dX12_runs_183 : decode cX12_runs 183 = .ok (.goto (-174), 3) := by decide +kernel
theorem dX12_runs_169 : decode cX12_runs 169 = .ok (.iconst 0, 1) := by decide +kernel
theorem dX12_runs_78 : decode cX12_runs 78 = .ok (.aload_n 0, 1) := by decide +kernel
theorem dX12_runs_79 : decode cX12_runs 79 = .ok (.getfield 66, 3) := by decide +kernel
theorem dX12_runs_82 : decode cX12_runs 82 = .ok (.iload_n 2, 1) := by decide +kernel
theorem dX12_runs_83 : decode cX12_runs 83 = .ok (.iconst 1, 1) := by decide +kernel
theorem dX12_runs_84 : decode cX12_runs 84 = .ok (.isub, 1) := by decide +kernel
theorem dX12_runs_85 : decode cX12_runs 85 = .ok (.dup2, 1) := by decide +kernel
theorem dX12_runs_86 : decode cX12_runs 86 = .ok (.iaload, 1) := by decide +kernel
theorem dX12_runs_87 : decode cX12_runs 87 = .ok (.iconst 1, 1) := by decide +kernel
theorem dX12_runs_88 : decode cX12_runs 88 = .ok (.isub, 1) := by decide +kernel
theorem dX12_runs_89 : decode cX12_runs 89 = .ok (.iastore, 1) := by decide +kernel
theorem dX12_runs_90 : decode cX12_runs 90 = .ok (.aload_n 0, 1) := by decide +kernel
theorem dX12_runs_91 : decode cX12_runs 91 = .ok (.getfield 66, 3) := by decide +kernel
theorem dX12_runs_94 : decode cX12_runs 94 = .ok (.iload_n 2, 1) := by decide +kernel
theorem dX12_runs_95 : decode cX12_runs 95 = .ok (.iconst 1, 1) := by decide +kernel
theorem dX12_runs_96 : decode cX12_runs 96 = .ok (.isub, 1) := by decide +kernel
theorem dX12_runs_97 : decode cX12_runs 97 = .ok (.iaload, 1) := by decide +kernel
theorem dX12_runs_98 : decode cX12_runs 98 = .ok (.ifCond .le 7, 3) := by decide +kernel
theorem dX12_runs_105 : decode cX12_runs 105 = .ok (.iconst 0, 1) := by decide +kernel
theorem dX12_runs_106 : decode cX12_runs 106 = .ok (.istore 5, 2) := by decide +kernel
theorem dX12_runs_108 : decode cX12_runs 108 = .ok (.iload 5, 2) := by decide +kernel
theorem dX12_runs_110 : decode cX12_runs 110 = .ok (.ifCond .eq 16, 3) := by decide +kernel
theorem dX12_runs_126 : decode cX12_runs 126 = .ok (.iload_n 3, 1) := by decide +kernel
theorem dX12_runs_127 : decode cX12_runs 127 = .ok (.iconst 1, 1) := by decide +kernel
theorem dX12_runs_128 : decode cX12_runs 128 = .ok (.iadd, 1) := by decide +kernel
theorem dX12_runs_129 : decode cX12_runs 129 = .ok (.istore_n 3, 1) := by decide +kernel
theorem dX12_runs_130 : decode cX12_runs 130 = .ok (.iload_n 2, 1) := by decide +kernel
theorem dX12_runs_131 : decode cX12_runs 131 = .ok (.iload 5, 2) := by decide +kernel
theorem dX12_runs_133 : decode cX12_runs 133 = .ok (.ifCond .ne 7, 3) := by decide +kernel
theorem dX12_runs_136 : decode cX12_runs 136 = .ok (.iconst 1, 1) := by decide +kernel
theorem dX12_runs_137 : decode cX12_runs 137 = .ok (.goto 4, 3) := by decide +kernel
theorem dX12_runs_141 : decode cX12_runs 141 = .ok (.invokestatic 78, 3) := by decide +kernel
theorem dX12_runs_144 : decode cX12_runs 144 = .ok (.isub, 1) := by decide +kernel
theorem dX12_runs_145 : decode cX12_runs 145 = .ok (.istore_n 2, 1) := by decide +kernel
theorem dX12_runs_146 : decode cX12_runs 146 = .ok (.goto (-137), 3) := by decide +kernel
theorem dX12_runs_101 : decode cX12_runs 101 = .ok (.iconst 1, 1) := by decide +kernel
theorem dX12_runs_102 : decode cX12_runs 102 = .ok (.goto 4, 3) := by decide +kernel
theorem dX12_runs_113 : decode cX12_runs 113 = .ok (.aload_n 0, 1) := by decide +kernel
theorem dX12_runs_114 : decode cX12_runs 114 = .ok (.getfield 63, 3) := by decide +kernel
theorem dX12_runs_117 : decode cX12_runs 117 = .ok (.iload_n 2, 1) := by decide +kernel
theorem dX12_runs_118 : decode cX12_runs 118 = .ok (.iconst 1, 1) := by decide +kernel
theorem dX12_runs_119 : decode cX12_runs 119 = .ok (.isub, 1) := by decide +kernel
theorem dX12_runs_120 : decode cX12_runs 120 = .ok (.iaload, 1) := by decide +kernel
theorem dX12_runs_121 : decode cX12_runs 121 = .ok (.iconst 1, 1) := by decide +kernel
theorem dX12_runs_122 : decode cX12_runs 122 = .ok (.iadd, 1) := by decide +kernel
theorem dX12_runs_123 : decode cX12_runs 123 = .ok (.goto 6, 3) := by decide +kernel
theorem dX12_runs_140 : decode cX12_runs 140 = .ok (.iconst 0, 1) := by decide +kernel
theorem dX12_runs_39 : decode cX12_runs 39 = .ok (.aload_n 0, 1) := by decide +kernel
theorem dX12_runs_40 : decode cX12_runs 40 = .ok (.getfield 63, 3) := by decide +kernel
theorem dX12_runs_43 : decode cX12_runs 43 = .ok (.iload_n 2, 1) := by decide +kernel
theorem dX12_runs_44 : decode cX12_runs 44 = .ok (.iload_n 3, 1) := by decide +kernel
theorem dX12_runs_45 : decode cX12_runs 45 = .ok (.iastore, 1) := by decide +kernel
theorem dX12_runs_46 : decode cX12_runs 46 = .ok (.aload_n 0, 1) := by decide +kernel
theorem dX12_runs_47 : decode cX12_runs 47 = .ok (.getfield 66, 3) := by decide +kernel
theorem dX12_runs_50 : decode cX12_runs 50 = .ok (.iload_n 2, 1) := by decide +kernel
theorem dX12_runs_51 : decode cX12_runs 51 = .ok (.aload_n 0, 1) := by decide +kernel
theorem dX12_runs_52 : decode cX12_runs 52 = .ok (.getfield 54, 3) := by decide +kernel
theorem dX12_runs_55 : decode cX12_runs 55 = .ok (.iload_n 3, 1) := by decide +kernel
theorem dX12_runs_56 : decode cX12_runs 56 = .ok (.iaload, 1) := by decide +kernel
theorem dX12_runs_57 : decode cX12_runs 57 = .ok (.iastore, 1) := by decide +kernel
theorem dX12_runs_58 : decode cX12_runs 58 = .ok (.iinc 2 1, 3) := by decide +kernel
theorem dX12_runs_61 : decode cX12_runs 61 = .ok (.iinc 3 1, 3) := by decide +kernel
theorem dX12_runs_64 : decode cX12_runs 64 = .ok (.goto (-55), 3) := by decide +kernel
theorem dX12_runScript_0 : decode cX12_runScript 0 = .ok (.aload_n 0, 1) := by decide +kernel
theorem dX12_runScript_1 : decode cX12_runScript 1 = .ok (.invokevirtual 244, 3) := by decide +kernel
theorem dX12_runScript_4 : decode cX12_runScript 4 = .ok (.aload_n 0, 1) := by decide +kernel
theorem dX12_runScript_5 : decode cX12_runScript 5 = .ok (.iconst 0, 1) := by decide +kernel
theorem dX12_runScript_6 : decode cX12_runScript 6 = .ok (.putfield 494, 3) := by decide +kernel
theorem dX12_runScript_9 : decode cX12_runScript 9 = .ok (.aload_n 0, 1) := by decide +kernel
theorem dX12_runScript_10 : decode cX12_runScript 10 = .ok (.iconst 0, 1) := by decide +kernel
theorem dX12_runScript_11 : decode cX12_runScript 11 = .ok (.putfield 491, 3) := by decide +kernel
theorem dX12_runScript_14 : decode cX12_runScript 14 = .ok (.aload_n 0, 1) := by decide +kernel
theorem dX12_runScript_15 : decode cX12_runScript 15 = .ok (.iconst 0, 1) := by decide +kernel
theorem dX12_runScript_16 : decode cX12_runScript 16 = .ok (.putfield 488, 3) := by decide +kernel
theorem dX12_runScript_19 : decode cX12_runScript 19 = .ok (.aload_n 0, 1) := by decide +kernel
theorem dX12_runScript_20 : decode cX12_runScript 20 = .ok (.invokevirtual 130, 3) := by decide +kernel
theorem dX12_runScript_23 : decode cX12_runScript 23 = .ok (.ifCond .eq 40, 3) := by decide +kernel
theorem dX12_runScript_26 : decode cX12_runScript 26 = .ok (.aload_n 0, 1) := by decide +kernel
theorem dX12_runScript_27 : decode cX12_runScript 27 = .ok (.getfield 117, 3) := by decide +kernel
theorem dX12_runScript_30 : decode cX12_runScript 30 = .ok (.ifCond .eq 33, 3) := by decide +kernel
theorem dX12_runScript_63 : decode cX12_runScript 63 = .ok (.aload_n 0, 1) := by decide +kernel
theorem dX12_runScript_64 : decode cX12_runScript 64 = .ok (.invokevirtual 130, 3) := by decide +kernel
theorem dX12_runScript_67 : decode cX12_runScript 67 = .ok (.ifCond .eq 15, 3) := by decide +kernel
theorem dX12_runScript_70 : decode cX12_runScript 70 = .ok (.aload_n 0, 1) := by decide +kernel
theorem dX12_runScript_71 : decode cX12_runScript 71 = .ok (.getfield 488, 3) := by decide +kernel
theorem dX12_runScript_74 : decode cX12_runScript 74 = .ok (.ifCond .le 8, 3) := by decide +kernel
theorem dX12_runScript_82 : decode cX12_runScript 82 = .ok (.aload_n 0, 1) := by decide +kernel
theorem dX12_runScript_83 : decode cX12_runScript 83 = .ok (.invokevirtual 253, 3) := by decide +kernel
theorem dX12_runScript_86 : decode cX12_runScript 86 = .ok (.ifCond .ne 5, 3) := by decide +kernel
theorem dX12_runScript_91 : decode cX12_runScript 91 = .ok (.aload_n 0, 1) := by decide +kernel
theorem dX12_runScript_92 : decode cX12_runScript 92 = .ok (.invokevirtual 247, 3) := by decide +kernel
theorem dX12_runScript_95 : decode cX12_runScript 95 = .ok (.aload_n 0, 1) := by decide +kernel
theorem dX12_runScript_96 : decode cX12_runScript 96 = .ok (.invokevirtual 506, 3) := by decide +kernel
theorem dX12_runScript_99 : decode cX12_runScript 99 = .ok (.istore_n 1, 1) := by decide +kernel
theorem dX12_runScript_100 : decode cX12_runScript 100 = .ok (.aload_n 0, 1) := by decide +kernel
theorem dX12_runScript_101 : decode cX12_runScript 101 = .ok (.invokevirtual 161, 3) := by decide +kernel
theorem dX12_runScript_104 : decode cX12_runScript 104 = .ok (.iload_n 1, 1) := by decide +kernel
theorem dX12_runScript_105 : decode cX12_runScript 105 = .ok (.ireturn, 1) := by decide +kernel
theorem dX12_runScript_33 : decode cX12_runScript 33 = .ok (.aload_n 0, 1) := by decide +kernel
theorem dX12_runScript_34 : decode cX12_runScript 34 = .ok (.getfield 488, 3) := by decide +kernel
theorem dX12_runScript_37 : decode cX12_runScript 37 = .ok (.istore_n 1, 1) := by decide +kernel
theorem dX12_runScript_38 : decode cX12_runScript 38 = .ok (.aload_n 0, 1) := by decide +kernel
theorem dX12_runScript_39 : decode cX12_runScript 39 = .ok (.invokevirtual 500, 3) := by decide +kernel
theorem dX12_runScript_42 : decode cX12_runScript 42 = .ok (.aload_n 0, 1) := by decide +kernel
theorem dX12_runScript_43 : decode cX12_runScript 43 = .ok (.getfield 488, 3) := by decide +kernel
theorem dX12_runScript_46 : decode cX12_runScript 46 = .ok (.iload_n 1, 1) := by decide +kernel
theorem dX12_runScript_47 : decode cX12_runScript 47 = .ok (.if_icmp .ne 9, 3) := by decide +kernel
theorem dX12_runScript_50 : decode cX12_runScript 50 = .ok (.aload_n 0, 1) := by decide +kernel
theorem dX12_runScript_51 : decode cX12_runScript 51 = .ok (.bipush 59, 2) := by decide +kernel
theorem dX12_runScript_53 : decode cX12_runScript 53 = .ok (.invokevirtual 241, 3) := by decide +kernel
theorem dX12_runScript_56 : decode cX12_runScript 56 = .ok (.aload_n 0, 1) := by decide +kernel
theorem dX12_runScript_57 : decode cX12_runScript 57 = .ok (.invokevirtual 503, 3) := by decide +kernel
theorem dX12_runScript_60 : decode cX12_runScript 60 = .ok (.goto (-41), 3) := by decide +kernel
theorem dX12_runScript_89 : decode cX12_runScript 89 = .ok (.iconst 0, 1) := by decide +kernel
theorem dX12_runScript_90 : decode cX12_runScript 90 = .ok (.ireturn, 1) := by decide +kernel
theorem dX12_runScript_77 : decode cX12_runScript 77 = .ok (.aload_n 0, 1) := by decide +kernel
theorem dX12_runScript_78 : decode cX12_runScript 78 = .ok (.iconst 1, 1) := by decide +kernel
theorem dX12_runScript_79 : decode cX12_runScript 79 = .ok (.invokevirtual 137, 3) := by decide +kernel
