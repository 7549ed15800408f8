theorem dX12_watches_28 : decode cX12_watches 28 = .ok (.ifCond .eq 16, 3) := by decide +kernel
theorem dX12_watches_44 : decode cX12_watches 44 = .ok (.aload_n 0, 1) := by decide +kernel
theorem dX12_watches_45 : decode cX12_watches 45 = .ok (.getfield 20, 3) := by decide +kernel
theorem dX12_watches_48 : decode cX12_watches 48 = .ok (.iload 4, 2) := by decide +kernel
theorem dX12_watches_50 : decode cX12_watches 50 = .ok (.iaload, 1) := by decide +kernel
theorem dX12_watches_51 : decode cX12_watches 51 = .ok (.iload 5, 2) := by decide +kernel
theorem dX12_watches_53 : decode cX12_watches 53 = .ok (.iconst (-1), 1) := by decide +kernel
theorem dX12_watches_54 : decode cX12_watches 54 = .ok (.ixor, 1) := by decide +kernel
theorem dX12_watches_55 : decode cX12_watches 55 = .ok (.iand, 1) := by decide +kernel
theorem dX12_watches_56 : decode cX12_watches 56 = .ok (.iastore, 1) := by decide +kernel
theorem dX12_watches_57 : decode cX12_watches 57 = .ok (.return_, 1) := by decide +kernel
theorem dX12_watches_31 : decode cX12_watches 31 = .ok (.aload_n 0, 1) := by decide +kernel
theorem dX12_watches_32 : decode cX12_watches 32 = .ok (.getfield 20, 3) := by decide +kernel
theorem dX12_watches_35 : decode cX12_watches 35 = .ok (.iload 4, 2) := by decide +kernel
theorem dX12_watches_37 : decode cX12_watches 37 = .ok (.iaload, 1) := by decide +kernel
theorem dX12_watches_38 : decode cX12_watches 38 = .ok (.iload 5, 2) := by decide +kernel
theorem dX12_watches_40 : decode cX12_watches 40 = .ok (.ior, 1) := by decide +kernel
theorem dX12_watches_41 : decode cX12_watches 41 = .ok (.goto 15, 3) := by decide +kernel
theorem dX12_byWatch_0 : decode cX12_byWatch 0 = .ok (.aload_n 0, 1) := by decide +kernel
theorem dX12_byWatch_1 : decode cX12_byWatch 1 = .ok (.invokevirtual 405, 3) := by decide +kernel
theorem dX12_byWatch_4 : decode cX12_byWatch 4 = .ok (.aload_n 0, 1) := by decide +kernel
theorem dX12_byWatch_5 : decode cX12_byWatch 5 = .ok (.iload_n 1, 1) := by decide +kernel
theorem dX12_byWatch_6 : decode cX12_byWatch 6 = .ok (.iload_n 3, 1) := by decide +kernel
theorem dX12_byWatch_7 : decode cX12_byWatch 7 = .ok (.iconst 1, 1) := by decide +kernel
theorem dX12_byWatch_8 : decode cX12_byWatch 8 = .ok (.invokevirtual 436, 3) := by decide +kernel
theorem dX12_byWatch_11 : decode cX12_byWatch 11 = .ok (.aload_n 0, 1) := by decide +kernel
theorem dX12_byWatch_12 : decode cX12_byWatch 12 = .ok (.iload_n 1, 1) := by decide +kernel
theorem dX12_byWatch_13 : decode cX12_byWatch 13 = .ok (.iload_n 2, 1) := by decide +kernel
theorem dX12_byWatch_14 : decode cX12_byWatch 14 = .ok (.iconst 0, 1) := by decide +kernel
theorem dX12_byWatch_15 : decode cX12_byWatch 15 = .ok (.invokevirtual 421, 3) := by decide +kernel
theorem dX12_byWatch_18 : decode cX12_byWatch 18 = .ok (.ireturn, 1) := by decide +kernel
theorem dX12_bestWatch_0 : decode cX12_bestWatch 0 = .ok (.aload_n 0, 1) := by decide +kernel
theorem dX12_bestWatch_1 : decode cX12_bestWatch 1 = .ok (.aload_n 0, 1) := by decide +kernel
theorem dX12_bestWatch_2 : decode cX12_bestWatch 2 = .ok (.iload_n 1, 1) := by decide +kernel
theorem dX12_bestWatch_3 : decode cX12_bestWatch 3 = .ok (.invokevirtual 355, 3) := by decide +kernel
theorem dX12_bestWatch_6 : decode cX12_bestWatch 6 = .ok (.ifCond .eq 15, 3) := by decide +kernel
theorem dX12_bestWatch_9 : decode cX12_bestWatch 9 = .ok (.aload_n 0, 1) := by decide +kernel
theorem dX12_bestWatch_10 : decode cX12_bestWatch 10 = .ok (.iload_n 2, 1) := by decide +kernel
theorem dX12_bestWatch_11 : decode cX12_bestWatch 11 = .ok (.invokevirtual 355, 3) := by decide +kernel
theorem dX12_bestWatch_14 : decode cX12_bestWatch 14 = .ok (.ifCond .eq 7, 3) := by decide +kernel
theorem dX12_bestWatch_17 : decode cX12_bestWatch 17 = .ok (.iconst 1, 1) := by decide +kernel
theorem dX12_bestWatch_18 : decode cX12_bestWatch 18 = .ok (.goto 4, 3) := by decide +kernel
theorem dX12_bestWatch_22 : decode cX12_bestWatch 22 = .ok (.iload_n 1, 1) := by decide +kernel
theorem dX12_bestWatch_23 : decode cX12_bestWatch 23 = .ok (.iload_n 2, 1) := by decide +kernel
theorem dX12_bestWatch_24 : decode cX12_bestWatch 24 = .ok (.if_icmp .eq 7, 3) := by decide +kernel
theorem dX12_bestWatch_31 : decode cX12_bestWatch 31 = .ok (.iconst 0, 1) := by decide +kernel
theorem dX12_bestWatch_32 : decode cX12_bestWatch 32 = .ok (.invokevirtual 358, 3) := by decide +kernel
theorem dX12_bestWatch_35 : decode cX12_bestWatch 35 = .ok (.ifCond .ne 5, 3) := by decide +kernel
theorem dX12_bestWatch_38 : decode cX12_bestWatch 38 = .ok (.iconst 0, 1) := by decide +kernel
theorem dX12_bestWatch_39 : decode cX12_bestWatch 39 = .ok (.ireturn, 1) := by decide +kernel
theorem dX12_bestWatch_27 : decode cX12_bestWatch 27 = .ok (.iconst 1, 1) := by decide +kernel
theorem dX12_bestWatch_28 : decode cX12_bestWatch 28 = .ok (.goto 4, 3) := by decide +kernel
theorem dX12_bestWatch_40 : decode cX12_bestWatch 40 = .ok (.aload_n 0, 1) := by decide +kernel
theorem dX12_bestWatch_41 : decode cX12_bestWatch 41 = .ok (.invokevirtual 405, 3) := by decide +kernel
theorem dX12_bestWatch_44 : decode cX12_bestWatch 44 = .ok (.aload_n 0, 1) := by decide +kernel
theorem dX12_bestWatch_45 : decode cX12_bestWatch 45 = .ok (.iload_n 1, 1) := by decide +kernel
theorem dX12_bestWatch_46 : decode cX12_bestWatch 46 = .ok (.iload_n 2, 1) := by decide +kernel
theorem dX12_bestWatch_47 : decode cX12_bestWatch 47 = .ok (.iconst 0, 1) := by decide +kernel
theorem dX12_bestWatch_48 : decode cX12_bestWatch 48 = .ok (.invokevirtual 421, 3) := by decide +kernel
theorem dX12_bestWatch_51 : decode cX12_bestWatch 51 = .ok (.istore_n 3, 1) := by decide +kernel
theorem dX12_bestWatch_52 : decode cX12_bestWatch 52 = .ok (.iconst (-1), 1) := by decide +kernel
theorem dX12_bestWatch_53 : decode cX12_bestWatch 53 = .ok (.istore 4, 2) := by decide +kernel
theorem dX12_bestWatch_55 : decode cX12_bestWatch 55 = .ok (.iconst 0, 1) := by decide +kernel
theorem dX12_bestWatch_56 : decode cX12_bestWatch 56 = .ok (.istore 5, 2) := by decide +kernel
theorem dX12_bestWatch_21 : decode cX12_bestWatch 21 = .ok (.iconst 0, 1) := by decide +kernel
theorem dX12_bestWatch_58 : decode cX12_bestWatch 58 = .ok (.iload 5, 2) := by decide +kernel
theorem dX12_bestWatch_60 : decode cX12_bestWatch 60 = .ok (.aload_n 0, 1) := by decide +kernel
theorem dX12_bestWatch_61 : decode cX12_bestWatch 61 = .ok (.getfield 20, 3) := by decide +kernel
theorem dX12_bestWatch_64 : decode cX12_bestWatch 64 = .ok (.iconst 2, 1) := by decide +kernel
theorem dX12_bestWatch_65 : decode cX12_bestWatch 65 = .ok (.iaload, 1) := by decide +kernel
theorem dX12_bestWatch_66 : decode cX12_bestWatch 66 = .ok (.if_icmp .ge 46, 3) := by decide +kernel
theorem dX12_bestWatch_69 : decode cX12_bestWatch 69 = .ok (.aload_n 0, 1) := by decide +kernel
theorem dX12_bestWatch_70 : decode cX12_bestWatch 70 = .ok (.iload_n 1, 1) := by decide +kernel
theorem dX12_bestWatch_71 : decode cX12_bestWatch 71 = .ok (.iload_n 2, 1) := by decide +kernel
theorem dX12_bestWatch_72 : decode cX12_bestWatch 72 = .ok (.iload 5, 2) := by decide +kernel
theorem dX12_bestWatch_74 : decode cX12_bestWatch 74 = .ok (.invokevirtual 440, 3) := by decide +kernel
theorem dX12_bestWatch_77 : decode cX12_bestWatch 77 = .ok (.istore 6, 2) := by decide +kernel
theorem dX12_bestWatch_79 : decode cX12_bestWatch 79 = .ok (.iload 6, 2) := by decide +kernel
theorem dX12_bestWatch_81 : decode cX12_bestWatch 81 = .ok (.iconst (-1), 1) := by decide +kernel
theorem dX12_bestWatch_82 : decode cX12_bestWatch 82 = .ok (.if_icmp .eq 24, 3) := by decide +kernel
theorem dX12_bestWatch_106 : decode cX12_bestWatch 106 = .ok (.iinc 5 1, 3) := by decide +kernel
theorem dX12_bestWatch_109 : decode cX12_bestWatch 109 = .ok (.goto (-51), 3) := by decide +kernel
theorem dX12_bestWatch_85 : decode cX12_bestWatch 85 = .ok (.iload_n 3, 1) := by decide +kernel
theorem dX12_bestWatch_86 : decode cX12_bestWatch 86 = .ok (.iconst (-1), 1) := by decide +kernel
theorem dX12_bestWatch_87 : decode cX12_bestWatch 87 = .ok (.if_icmp .eq 12, 3) := by decide +kernel
theorem dX12_bestWatch_99 : decode cX12_bestWatch 99 = .ok (.iload 6, 2) := by decide +kernel
theorem dX12_bestWatch_101 : decode cX12_bestWatch 101 = .ok (.istore_n 3, 1) := by decide +kernel
theorem dX12_bestWatch_102 : decode cX12_bestWatch 102 = .ok (.iload 5, 2) := by decide +kernel
theorem dX12_bestWatch_104 : decode cX12_bestWatch 104 = .ok (.istore 4, 2) := by decide +kernel
theorem dX12_bestWatch_90 : decode cX12_bestWatch 90 = .ok (.iload 6, 2) := by decide +kernel
theorem dX12_bestWatch_92 : decode cX12_bestWatch 92 = .ok (.iload_n 3, 1) := by decide +kernel
theorem dX12_bestWatch_93 : decode cX12_bestWatch 93 = .ok (.if_icmp .lt 6, 3) := by decide +kernel
theorem dX12_bestWatch_96 : decode cX12_bestWatch 96 = .ok (.goto 10, 3) := by decide +kernel
theorem dX12_bestWatch_112 : decode cX12_bestWatch 112 = .ok (.iload 4, 2) := by decide +kernel
theorem dX12_bestWatch_114 : decode cX12_bestWatch 114 = .ok (.ireturn, 1) := by decide +kernel
theorem dX12_maySend_0 : decode cX12_maySend 0 = .ok (.aload_n 0, 1) := by decide +kernel
theorem dX12_maySend_1 : decode cX12_maySend 1 = .ok (.iload_n 1, 1) := by decide +kernel
theorem dX12_maySend_2 : decode cX12_maySend 2 = .ok (.iload_n 2, 1) := by decide +kernel
theorem dX12_maySend_3 : decode cX12_maySend 3 = .ok (.invokevirtual 414, 3) := by decide +kernel
theorem dX12_maySend_6 : decode cX12_maySend 6 = .ok (.ifCond .eq 18, 3) := by decide +kernel
theorem dX12_maySend_24 : decode cX12_maySend 24 = .ok (.iconst 0, 1) := by decide +kernel
theorem dX12_maySend_25 : decode cX12_maySend 25 = .ok (.ireturn, 1) := by decide +kernel
theorem dX12_maySend_9 : decode cX12_maySend 9 = .ok (.aload_n 0, 1) := by decide +kernel
theorem dX12_maySend_10 : decode cX12_maySend 10 = .ok (.getfield 20, 3) := by decide +kernel
theorem dX12_maySend_13 : decode cX12_maySend 13 = .ok (.iconst 4, 1) := by decide +kernel
theorem dX12_maySend_14 : decode cX12_maySend 14 = .ok (.iaload, 1) := by decide +kernel
theorem dX12_maySend_15 : decode cX12_maySend 15 = .ok (.bipush 60, 2) := by decide +kernel
theorem dX12_maySend_17 : decode cX12_maySend 17 = .ok (.if_icmp .ge 7, 3) := by decide +kernel
theorem dX12_maySend_20 : decode cX12_maySend 20 = .ok (.iconst 1, 1) := by decide +kernel
theorem dX12_maySend_21 : decode cX12_maySend 21 = .ok (.goto 4, 3) := by decide +kernel
theorem dX12_swapsCell_0 : decode cX12_swapsCell 0 = .ok (.aload_n 0, 1) := by decide +kernel
theorem dX12_swapsCell_1 : decode cX12_swapsCell 1 = .ok (.getfield 20, 3) := by decide +kernel
theorem dX12_swapsCell_4 : decode cX12_swapsCell 4 = .ok (.iload_n 1, 1) := by decide +kernel
theorem dX12_swapsCell_5 : decode cX12_swapsCell 5 = .ok (.iaload, 1) := by decide +kernel
theorem dX12_swapsCell_6 : decode cX12_swapsCell 6 = .ok (.istore_n 3, 1) := by decide +kernel
theorem dX12_swapsCell_7 : decode cX12_swapsCell 7 = .ok (.aload_n 0, 1) := by decide +kernel
theorem dX12_swapsCell_8 : decode cX12_swapsCell 8 = .ok (.getfield 20, 3) := by decide +kernel
theorem dX12_swapsCell_11 : decode cX12_swapsCell 11 = .ok (.iload_n 1, 1) := by decide +kernel
theorem dX12_swapsCell_12 : decode cX12_swapsCell 12 = .ok (.iload_n 2, 1) := by decide +kernel
theorem dX12_swapsCell_13 : decode cX12_swapsCell 13 = .ok (.iastore, 1) := by decide +kernel
theorem dX12_swapsCell_14 : decode cX12_swapsCell 14 = .ok (.iload_n 3, 1) := by decide +kernel
theorem dX12_swapsCell_15 : decode cX12_swapsCell 15 = .ok (.ireturn, 1) := by decide +kernel
theorem dX12_charges_0 : decode cX12_charges 0 = .ok (.aload_n 0, 1) := by decide +kernel
theorem dX12_charges_1 : decode cX12_charges 1 = .ok (.iload_n 1, 1) := by decide +kernel
theorem dX12_charges_2 : decode cX12_charges 2 = .ok (.iconst 2, 1) := by decide +kernel
theorem dX12_charges_3 : decode cX12_charges 3 = .ok (.sipush 9999, 3) := by decide +kernel
theorem dX12_charges_6 : decode cX12_charges 6 = .ok (.aload_n 0, 1) := by decide +kernel
theorem dX12_charges_7 : decode cX12_charges 7 = .ok (.iload_n 1, 1) := by decide +kernel
theorem dX12_charges_8 : decode cX12_charges 8 = .ok (.iconst 2, 1) := by decide +kernel
theorem dX12_charges_9 : decode cX12_charges 9 = .ok (.invokevirtual 256, 3) := by decide +kernel
theorem dX12_charges_12 : decode cX12_charges 12 = .ok (.iload_n 2, 1) := by decide +kernel
theorem dX12_charges_13 : decode cX12_charges 13 = .ok (.iadd, 1) := by decide +kernel
theorem dX12_charges_14 : decode cX12_charges 14 = .ok (.invokestatic 292, 3) := by decide +kernel
theorem dX12_charges_17 : decode cX12_charges 17 = .ok (.invokevirtual 202, 3) := by decide +kernel
theorem dX12_charges_20 : decode cX12_charges 20 = .ok (.aload_n 0, 1) := by decide +kernel
theorem dX12_charges_21 : decode cX12_charges 21 = .ok (.iload_n 1, 1) := by decide +kernel
theorem dX12_charges_22 : decode cX12_charges 22 = .ok (.iconst 2, 1) := by decide +kernel
theorem dX12_charges_23 : decode cX12_charges 23 = .ok (.invokevirtual 256, 3) := by decide +kernel
theorem dX12_charges_26 : decode cX12_charges 26 = .ok (.ireturn, 1) := by decide +kernel
theorem dX12_tick_0 : decode cX12_tick 0 = .ok (.iload_n 1, 1) := by decide +kernel
theorem dX12_tick_1 : decode cX12_tick 1 = .ok (.invokestatic 446, 3) := by decide +kernel
theorem dX12_tick_4 : decode cX12_tick 4 = .ok (.istore_n 2, 1) := by decide +kernel
theorem dX12_tick_5 : decode cX12_tick 5 = .ok (.aload_n 0, 1) := by decide +kernel
theorem dX12_tick_6 : decode cX12_tick 6 = .ok (.iload_n 2, 1) := by decide +kernel
theorem dX12_tick_7 : decode cX12_tick 7 = .ok (.iload_n 2, 1) := by decide +kernel
theorem dX12_tick_8 : decode cX12_tick 8 = .ok (.ifCond .eq 21, 3) := by decide +kernel
theorem dX12_tick_11 : decode cX12_tick 11 = .ok (.aload_n 0, 1) := by decide +kernel
theorem dX12_tick_12 : decode cX12_tick 12 = .ok (.getfield 20, 3) := by decide +kernel
theorem dX12_tick_15 : decode cX12_tick 15 = .ok (.iconst 3, 1) := by decide +kernel
theorem dX12_tick_16 : decode cX12_tick 16 = .ok (.iaload, 1) := by decide +kernel
theorem dX12_tick_17 : decode cX12_tick 17 = .ok (.iload_n 1, 1) := by decide +kernel
theorem dX12_tick_18 : decode cX12_tick 18 = .ok (.iadd, 1) := by decide +kernel
theorem dX12_tick_19 : decode cX12_tick 19 = .ok (.sipush 9999, 3) := by decide +kernel
theorem dX12_tick_22 : decode cX12_tick 22 = .ok (.if_icmp .gt 7, 3) := by decide +kernel
theorem dX12_tick_29 : decode cX12_tick 29 = .ok (.iconst 0, 1) := by decide +kernel
theorem dX12_tick_30 : decode cX12_tick 30 = .ok (.invokevirtual 358, 3) := by decide +kernel
theorem dX12_tick_33 : decode cX12_tick 33 = .ok (.ifCond .ne 5, 3) := by decide +kernel
theorem dX12_tick_36 : decode cX12_tick 36 = .ok (.iconst 0, 1) := by decide +kernel
theorem dX12_tick_37 : decode cX12_tick 37 = .ok (.ireturn, 1) := by decide +kernel
theorem dX12_tick_25 : decode cX12_tick 25 = .ok (.iconst 1, 1) := by decide +kernel
theorem dX12_tick_26 : decode cX12_tick 26 = .ok (.goto 4, 3) := by decide +kernel
theorem dX12_tick_38 : decode cX12_tick 38 = .ok (.aload_n 0, 1) := by decide +kernel
theorem dX12_tick_39 : decode cX12_tick 39 = .ok (.invokevirtual 247, 3) := by decide +kernel
theorem dX12_tick_42 : decode cX12_tick 42 = .ok (.aload_n 0, 1) := by decide +kernel
theorem dX12_tick_43 : decode cX12_tick 43 = .ok (.aload_n 0, 1) := by decide +kernel
theorem dX12_tick_44 : decode cX12_tick 44 = .ok (.iload_n 1, 1) := by decide +kernel
theorem dX12_tick_45 : decode cX12_tick 45 = .ok (.invokevirtual 427, 3) := by decide +kernel
theorem dX12_tick_48 : decode cX12_tick 48 = .ok (.invokevirtual 449, 3) := by decide +kernel
theorem dX12_tick_51 : decode cX12_tick 51 = .ok (.ireturn, 1) := by decide +kernel
theorem dX12_send_0 : decode cX12_send 0 = .ok (.aload_n 0, 1) := by decide +kernel
theorem dX12_send_1 : decode cX12_send 1 = .ok (.iload_n 1, 1) := by decide +kernel
theorem dX12_send_2 : decode cX12_send 2 = .ok (.invokevirtual 355, 3) := by decide +kernel
theorem dX12_send_5 : decode cX12_send 5 = .ok (.ifCond .eq 15, 3) := by decide +kernel
theorem dX12_send_8 : decode cX12_send 8 = .ok (.aload_n 0, 1) := by decide +kernel
theorem dX12_send_9 : decode cX12_send 9 = .ok (.iload_n 2, 1) := by decide +kernel
theorem dX12_send_10 : decode cX12_send 10 = .ok (.invokevirtual 355, 3) := by decide +kernel
theorem dX12_send_13 : decode cX12_send 13 = .ok (.ifCond .eq 7, 3) := by decide +kernel
theorem dX12_send_16 : decode cX12_send 16 = .ok (.iconst 1, 1) := by decide +kernel
theorem dX12_send_17 : decode cX12_send 17 = .ok (.goto 4, 3) := by decide +kernel
theorem dX12_send_21 : decode cX12_send 21 = .ok (.istore 5, 2) := by decide +kernel
theorem dX12_send_23 : decode cX12_send 23 = .ok (.aload_n 0, 1) := by decide +kernel
theorem dX12_send_24 : decode cX12_send 24 = .ok (.iload 5, 2) := by decide +kernel
theorem dX12_send_26 : decode cX12_send 26 = .ok (.iload_n 1, 1) := by decide +kernel
theorem dX12_send_27 : decode cX12_send 27 = .ok (.iload_n 2, 1) := by decide +kernel
theorem dX12_send_28 : decode cX12_send 28 = .ok (.if_icmp .eq 14, 3) := by decide +kernel
theorem dX12_send_42 : decode cX12_send 42 = .ok (.iconst 0, 1) := by decide +kernel
theorem dX12_send_43 : decode cX12_send 43 = .ok (.iload 5, 2) := by decide +kernel
theorem dX12_send_45 : decode cX12_send 45 = .ok (.ifCond .eq 16, 3) := by decide +kernel
theorem dX12_send_48 : decode cX12_send 48 = .ok (.aload_n 0, 1) := by decide +kernel
theorem dX12_send_49 : decode cX12_send 49 = .ok (.iload_n 1, 1) := by decide +kernel
theorem dX12_send_50 : decode cX12_send 50 = .ok (.iload_n 2, 1) := by decide +kernel
theorem dX12_send_51 : decode cX12_send 51 = .ok (.invokevirtual 455, 3) := by decide +kernel
theorem dX12_send_54 : decode cX12_send 54 = .ok (.ifCond .eq 7, 3) := by decide +kernel
theorem dX12_send_57 : decode cX12_send 57 = .ok (.iconst 1, 1) := by decide +kernel
theorem dX12_send_58 : decode cX12_send 58 = .ok (.goto 4, 3) := by decide +kernel
theorem dX12_send_62 : decode cX12_send 62 = .ok (.invokevirtual 458, 3) := by decide +kernel
theorem dX12_send_65 : decode cX12_send 65 = .ok (.ifCond .ne 5, 3) := by decide +kernel
theorem dX12_send_68 : decode cX12_send 68 = .ok (.iconst 0, 1) := by decide +kernel
theorem dX12_send_69 : decode cX12_send 69 = .ok (.ireturn, 1) := by decide +kernel
theorem dX12_send_61 : decode cX12_send 61 = .ok (.iconst 0, 1) := by decide +kernel
theorem dX12_send_31 : decode cX12_send 31 = .ok (.iload_n 3, 1) := by decide +kernel
theorem dX12_send_32 : decode cX12_send 32 = .ok (.invokestatic 452, 3) := by decide +kernel
theorem dX12_send_35 : decode cX12_send 35 = .ok (.ifCond .eq 7, 3) := by decide +kernel
theorem dX12_send_38 : decode cX12_send 38 = .ok (.iconst 1, 1) := by decide +kernel
theorem dX12_send_39 : decode cX12_send 39 = .ok (.goto 4, 3) := by decide +kernel
theorem dX12_send_70 : decode cX12_send 70 = .ok (.aload_n 0, 1) := by decide +kernel
theorem dX12_send_71 : decode cX12_send 71 = .ok (.invokevirtual 247, 3) := by decide +kernel
theorem dX12_send_74 : decode cX12_send 74 = .ok (.aload_n 0, 1) := by decide +kernel
theorem dX12_send_75 : decode cX12_send 75 = .ok (.aload_n 0, 1) := by decide +kernel
theorem dX12_send_76 : decode cX12_send 76 = .ok (.iload_n 1, 1) := by decide +kernel
theorem dX12_send_77 : decode cX12_send 77 = .ok (.iload_n 2, 1) := by decide +kernel
theorem dX12_send_78 : decode cX12_send 78 = .ok (.iload_n 3, 1) := by decide +kernel
theorem dX12_send_79 : decode cX12_send 79 = .ok (.iload 4, 2) := by decide +kernel
theorem dX12_send_81 : decode cX12_send 81 = .ok (.invokevirtual 417, 3) := by decide +kernel
theorem dX12_send_84 : decode cX12_send 84 = .ok (.invokevirtual 449, 3) := by decide +kernel
theorem dX12_send_87 : decode cX12_send 87 = .ok (.ireturn, 1) := by decide +kernel
theorem dX12_send_20 : decode cX12_send 20 = .ok (.iconst 0, 1) := by decide +kernel
theorem dX12_setShift_0 : decode cX12_setShift 0 = .ok (.aload_n 0, 1) := by decide +kernel
theorem dX12_setShift_1 : decode cX12_setShift 1 = .ok (.aload_n 0, 1) := by decide +kernel
theorem dX12_setShift_2 : decode cX12_setShift 2 = .ok (.iload_n 1, 1) := by decide +kernel
theorem dX12_setShift_3 : decode cX12_setShift 3 = .ok (.invokevirtual 355, 3) := by decide +kernel
theorem dX12_setShift_6 : decode cX12_setShift 6 = .ok (.aload_n 0, 1) := by decide +kernel
theorem dX12_setShift_7 : decode cX12_setShift 7 = .ok (.iload_n 2, 1) := by decide +kernel
theorem dX12_setShift_8 : decode cX12_setShift 8 = .ok (.invokevirtual 388, 3) := by decide +kernel
theorem dX12_setShift_11 : decode cX12_setShift 11 = .ok (.invokevirtual 358, 3) := by decide +kernel
theorem dX12_setShift_14 : decode cX12_setShift 14 = .ok (.ifCond .ne 5, 3) := by decide +kernel
theorem dX12_setShift_19 : decode cX12_setShift 19 = .ok (.aload_n 0, 1) := by decide +kernel
theorem dX12_setShift_20 : decode cX12_setShift 20 = .ok (.invokevirtual 247, 3) := by decide +kernel
theorem dX12_setShift_23 : decode cX12_setShift 23 = .ok (.aload_n 0, 1) := by decide +kernel
theorem dX12_setShift_24 : decode cX12_setShift 24 = .ok (.aload_n 0, 1) := by decide +kernel
theorem dX12_setShift_25 : decode cX12_setShift 25 = .ok (.iload_n 1, 1) := by decide +kernel
theorem dX12_setShift_26 : decode cX12_setShift 26 = .ok (.iconst 1, 1) := by decide +kernel
theorem dX12_setShift_27 : decode cX12_setShift 27 = .ok (.invokestatic 172, 3) := by decide +kernel
theorem dX12_setShift_30 : decode cX12_setShift 30 = .ok (.iload_n 2, 1) := by decide +kernel
theorem dX12_setShift_31 : decode cX12_setShift 31 = .ok (.invokevirtual 462, 3) := by decide +kernel
theorem dX12_setShift_34 : decode cX12_setShift 34 = .ok (.invokevirtual 449, 3) := by decide +kernel
theorem dX12_setShift_37 : decode cX12_setShift 37 = .ok (.ireturn, 1) := by decide +kernel
theorem dX12_setShift_17 : decode cX12_setShift 17 = .ok (.iconst 0, 1) := by decide +kernel
theorem dX12_setShift_18 : decode cX12_setShift 18 = .ok (.ireturn, 1) := by decide +kernel
theorem dX12_setBorn_0 : decode cX12_setBorn 0 = .ok (.aload_n 0, 1) := by decide +kernel
theorem dX12_setBorn_1 : decode cX12_setBorn 1 = .ok (.aload_n 0, 1) := by decide +kernel
theorem dX12_setBorn_2 : decode cX12_setBorn 2 = .ok (.iload_n 1, 1) := by decide +kernel
theorem dX12_setBorn_3 : decode cX12_setBorn 3 = .ok (.invokevirtual 355, 3) := by decide +kernel
theorem dX12_setBorn_6 : decode cX12_setBorn 6 = .ok (.aload_n 0, 1) := by decide +kernel
theorem dX12_setBorn_7 : decode cX12_setBorn 7 = .ok (.iload_n 2, 1) := by decide +kernel
theorem dX12_setBorn_8 : decode cX12_setBorn 8 = .ok (.invokevirtual 388, 3) := by decide +kernel
theorem dX12_setBorn_11 : decode cX12_setBorn 11 = .ok (.invokevirtual 358, 3) := by decide +kernel
theorem dX12_setBorn_14 : decode cX12_setBorn 14 = .ok (.ifCond .ne 5, 3) := by decide +kernel
theorem dX12_setBorn_19 : decode cX12_setBorn 19 = .ok (.aload_n 0, 1) := by decide +kernel
theorem dX12_setBorn_20 : decode cX12_setBorn 20 = .ok (.invokevirtual 247, 3) := by decide +kernel
theorem dX12_setBorn_23 : decode cX12_setBorn 23 = .ok (.aload_n 0, 1) := by decide +kernel
theorem dX12_setBorn_24 : decode cX12_setBorn 24 = .ok (.aload_n 0, 1) := by decide +kernel
theorem dX12_setBorn_25 : decode cX12_setBorn 25 = .ok (.iload_n 1, 1) := by decide +kernel
theorem dX12_setBorn_26 : decode cX12_setBorn 26 = .ok (.iconst 0, 1) := by decide +kernel
theorem dX12_setBorn_27 : decode cX12_setBorn 27 = .ok (.invokestatic 172, 3) := by decide +kernel
theorem dX12_setBorn_30 : decode cX12_setBorn 30 = .ok (.iload_n 2, 1) := by decide +kernel
theorem dX12_setBorn_31 : decode cX12_setBorn 31 = .ok (.invokevirtual 462, 3) := by decide +kernel
theorem dX12_setBorn_34 : decode cX12_setBorn 34 = .ok (.invokevirtual 449, 3) := by decide +kernel
theorem dX12_setBorn_37 : decode cX12_setBorn 37 = .ok (.ireturn, 1) := by decide +kernel
theorem dX12_setBorn_17 : decode cX12_setBorn 17 = .ok (.iconst 0, 1) := by decide +kernel
theorem dX12_setBorn_18 : decode cX12_setBorn 18 = .ok (.ireturn, 1) := by decide +kernel
theorem dX12_charge_0 : decode cX12_charge 0 = .ok (.aload_n 0, 1) := by decide +kernel
theorem dX12_charge_1 : decode cX12_charge 1 = .ok (.aload_n 0, 1) := by decide +kernel
theorem dX12_charge_2 : decode cX12_charge 2 = .ok (.iload_n 1, 1) := by decide +kernel
theorem dX12_charge_3 : decode cX12_charge 3 = .ok (.invokevirtual 355, 3) := by decide +kernel
theorem dX12_charge_6 : decode cX12_charge 6 = .ok (.iload_n 2, 1) := by decide +kernel
theorem dX12_charge_7 : decode cX12_charge 7 = .ok (.invokestatic 452, 3) := by decide +kernel
theorem dX12_charge_10 : decode cX12_charge 10 = .ok (.invokevirtual 358, 3) := by decide +kernel
theorem dX12_charge_13 : decode cX12_charge 13 = .ok (.ifCond .ne 5, 3) := by decide +kernel
theorem dX12_charge_18 : decode cX12_charge 18 = .ok (.aload_n 0, 1) := by decide +kernel
theorem dX12_charge_19 : decode cX12_charge 19 = .ok (.invokevirtual 247, 3) := by decide +kernel
theorem dX12_charge_22 : decode cX12_charge 22 = .ok (.aload_n 0, 1) := by decide +kernel
theorem dX12_charge_23 : decode cX12_charge 23 = .ok (.aload_n 0, 1) := by decide +kernel
theorem dX12_charge_24 : decode cX12_charge 24 = .ok (.iload_n 1, 1) := by decide +kernel
theorem dX12_charge_25 : decode cX12_charge 25 = .ok (.iload_n 2, 1) := by decide +kernel
theorem dX12_charge_26 : decode cX12_charge 26 = .ok (.invokevirtual 465, 3) := by decide +kernel
theorem dX12_charge_29 : decode cX12_charge 29 = .ok (.invokevirtual 449, 3) := by decide +kernel
theorem dX12_charge_32 : decode cX12_charge 32 = .ok (.ireturn, 1) := by decide +kernel
theorem dX12_charge_16 : decode cX12_charge 16 = .ok (.iconst 0, 1) := by decide +kernel
theorem dX12_charge_17 : decode cX12_charge 17 = .ok (.ireturn, 1) := by decide +kernel
theorem dX12_watch_0 : decode cX12_watch 0 = .ok (.aload_n 0, 1) := by decide +kernel
theorem dX12_watch_1 : decode cX12_watch 1 = .ok (.aload_n 0, 1) := by decide +kernel
theorem dX12_watch_2 : decode cX12_watch 2 = .ok (.iload_n 1, 1) := by decide +kernel
theorem dX12_watch_3 : decode cX12_watch 3 = .ok (.invokevirtual 355, 3) := by decide +kernel
theorem dX12_watch_6 : decode cX12_watch 6 = .ok (.aload_n 0, 1) := by decide +kernel
theorem dX12_watch_7 : decode cX12_watch 7 = .ok (.iload_n 2, 1) := by decide +kernel
theorem dX12_watch_8 : decode cX12_watch 8 = .ok (.invokevirtual 388, 3) := by decide +kernel
theorem dX12_watch_11 : decode cX12_watch 11 = .ok (.invokevirtual 358, 3) := by decide +kernel
theorem dX12_watch_14 : decode cX12_watch 14 = .ok (.ifCond .eq 13, 3) := by decide +kernel
theorem dX12_watch_17 : decode cX12_watch 17 = .ok (.aload_n 0, 1) := by decide +kernel
theorem dX12_watch_18 : decode cX12_watch 18 = .ok (.iload_n 1, 1) := by decide +kernel
theorem dX12_watch_19 : decode cX12_watch 19 = .ok (.iload_n 2, 1) := by decide +kernel
theorem dX12_watch_20 : decode cX12_watch 20 = .ok (.invokevirtual 262, 3) := by decide +kernel
theorem dX12_watch_23 : decode cX12_watch 23 = .ok (.iload_n 3, 1) := by decide +kernel
theorem dX12_watch_24 : decode cX12_watch 24 = .ok (.if_icmp .ne 5, 3) := by decide +kernel
theorem dX12_watch_29 : decode cX12_watch 29 = .ok (.aload_n 0, 1) := by decide +kernel
theorem dX12_watch_30 : decode cX12_watch 30 = .ok (.invokevirtual 247, 3) := by decide +kernel
theorem dX12_watch_33 : decode cX12_watch 33 = .ok (.aload_n 0, 1) := by decide +kernel
theorem dX12_watch_34 : decode cX12_watch 34 = .ok (.iload_n 1, 1) := by decide +kernel
theorem dX12_watch_35 : decode cX12_watch 35 = .ok (.iload_n 2, 1) := by decide +kernel
theorem dX12_watch_36 : decode cX12_watch 36 = .ok (.iload_n 3, 1) := by decide +kernel
theorem dX12_watch_37 : decode cX12_watch 37 = .ok (.invokevirtual 436, 3) := by decide +kernel
theorem dX12_watch_40 : decode cX12_watch 40 = .ok (.aload_n 0, 1) := by decide +kernel
theorem dX12_watch_41 : decode cX12_watch 41 = .ok (.invokevirtual 161, 3) := by decide +kernel
theorem dX12_watch_44 : decode cX12_watch 44 = .ok (.iconst 1, 1) := by decide +kernel
theorem dX12_watch_45 : decode cX12_watch 45 = .ok (.ireturn, 1) := by decide +kernel
theorem dX12_watch_27 : decode cX12_watch 27 = .ok (.iconst 0, 1) := by decide +kernel
theorem dX12_watch_28 : decode cX12_watch 28 = .ok (.ireturn, 1) := by decide +kernel
theorem dX12_setMiss_0 : decode cX12_setMiss 0 = .ok (.aload_n 0, 1) := by decide +kernel
theorem dX12_setMiss_1 : decode cX12_setMiss 1 = .ok (.iload_n 1, 1) := by decide +kernel
theorem dX12_setMiss_2 : decode cX12_setMiss 2 = .ok (.i2l, 1) := by decide +kernel
theorem dX12_setMiss_3 : decode cX12_setMiss 3 = .ok (.lconst 1, 1) := by decide +kernel
theorem dX12_setMiss_4 : decode cX12_setMiss 4 = .ok (.ldc2_w 468, 3) := by decide +kernel
theorem dX12_setMiss_7 : decode cX12_setMiss 7 = .ok (.invokestatic 93, 3) := by decide +kernel
theorem dX12_setMiss_10 : decode cX12_setMiss 10 = .ok (.invokevirtual 85, 3) := by decide +kernel
theorem dX12_setMiss_13 : decode cX12_setMiss 13 = .ok (.ifCond .ne 5, 3) := by decide +kernel
theorem dX12_setMiss_18 : decode cX12_setMiss 18 = .ok (.aload_n 0, 1) := by decide +kernel
theorem dX12_setMiss_19 : decode cX12_setMiss 19 = .ok (.invokevirtual 247, 3) := by decide +kernel
theorem dX12_setMiss_22 : decode cX12_setMiss 22 = .ok (.aload_n 0, 1) := by decide +kernel
theorem dX12_setMiss_23 : decode cX12_setMiss 23 = .ok (.aload_n 0, 1) := by decide +kernel
theorem dX12_setMiss_24 : decode cX12_setMiss 24 = .ok (.bipush 8, 2) := by decide +kernel
theorem dX12_setMiss_26 : decode cX12_setMiss 26 = .ok (.iload_n 1, 1) := by decide +kernel
theorem dX12_setMiss_27 : decode cX12_setMiss 27 = .ok (.invokevirtual 462, 3) := by decide +kernel
theorem dX12_setMiss_30 : decode cX12_setMiss 30 = .ok (.invokevirtual 449, 3) := by decide +kernel
theorem dX12_setMiss_33 : decode cX12_setMiss 33 = .ok (.ireturn, 1) := by decide +kernel
theorem dX12_setMiss_16 : decode cX12_setMiss 16 = .ok (.iconst 0, 1) := by decide +kernel
theorem dX12_setMiss_17 : decode cX12_setMiss 17 = .ok (.ireturn, 1) := by decide +kernel
