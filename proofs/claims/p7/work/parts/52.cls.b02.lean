theorem dX1_dayToWatch_102 : decode cX1_dayToWatch 102 = .ok (.invokevirtual 22, 3) := by decide +kernel
theorem dX1_dayToWatch_105 : decode cX1_dayToWatch 105 = .ok (.istore 8, 2) := by decide +kernel
theorem dX1_dayToWatch_107 : decode cX1_dayToWatch 107 = .ok (.iload 8, 2) := by decide +kernel
theorem dX1_dayToWatch_109 : decode cX1_dayToWatch 109 = .ok (.iconst (-1), 1) := by decide +kernel
theorem dX1_dayToWatch_110 : decode cX1_dayToWatch 110 = .ok (.if_icmp .eq 11, 3) := by decide +kernel
theorem dX1_dayToWatch_113 : decode cX1_dayToWatch 113 = .ok (.iload 8, 2) := by decide +kernel
theorem dX1_dayToWatch_115 : decode cX1_dayToWatch 115 = .ok (.istore 4, 2) := by decide +kernel
theorem dX1_dayToWatch_117 : decode cX1_dayToWatch 117 = .ok (.iload 6, 2) := by decide +kernel
theorem dX1_dayToWatch_119 : decode cX1_dayToWatch 119 = .ok (.istore 5, 2) := by decide +kernel
theorem dX1_dayToWatch_127 : decode cX1_dayToWatch 127 = .ok (.iload 5, 2) := by decide +kernel
theorem dX1_dayToWatch_129 : decode cX1_dayToWatch 129 = .ok (.ireturn, 1) := by decide +kernel
theorem dX2_forget_0 : decode cX2_forget 0 = .ok (.aload_n 0, 1) := by decide +kernel
theorem dX2_forget_1 : decode cX2_forget 1 = .ok (.iconst 0, 1) := by decide +kernel
theorem dX2_forget_2 : decode cX2_forget 2 = .ok (.putfield 16, 3) := by decide +kernel
theorem dX2_forget_5 : decode cX2_forget 5 = .ok (.return_, 1) := by decide +kernel
theorem dX2_keep_0 : decode cX2_keep 0 = .ok (.aload_n 0, 1) := by decide +kernel
theorem dX2_keep_1 : decode cX2_keep 1 = .ok (.getfield 20, 3) := by decide +kernel
theorem dX2_keep_4 : decode cX2_keep 4 = .ok (.ifCond .lt 15, 3) := by decide +kernel
theorem dX2_keep_7 : decode cX2_keep 7 = .ok (.aload_n 0, 1) := by decide +kernel
theorem dX2_keep_8 : decode cX2_keep 8 = .ok (.getfield 20, 3) := by decide +kernel
theorem dX2_keep_11 : decode cX2_keep 11 = .ok (.aload_n 0, 1) := by decide +kernel
theorem dX2_keep_12 : decode cX2_keep 12 = .ok (.getfield 11, 3) := by decide +kernel
theorem dX2_keep_15 : decode cX2_keep 15 = .ok (.arraylength, 1) := by decide +kernel
theorem dX2_keep_16 : decode cX2_keep 16 = .ok (.if_icmp .lt 8, 3) := by decide +kernel
theorem dX2_keep_19 : decode cX2_keep 19 = .ok (.aload_n 0, 1) := by decide +kernel
theorem dX2_keep_20 : decode cX2_keep 20 = .ok (.iconst 0, 1) := by decide +kernel
theorem dX2_keep_21 : decode cX2_keep 21 = .ok (.putfield 20, 3) := by decide +kernel
theorem dX2_keep_24 : decode cX2_keep 24 = .ok (.aload_n 0, 1) := by decide +kernel
theorem dX2_keep_25 : decode cX2_keep 25 = .ok (.getfield 11, 3) := by decide +kernel
theorem dX2_keep_28 : decode cX2_keep 28 = .ok (.aload_n 0, 1) := by decide +kernel
theorem dX2_keep_29 : decode cX2_keep 29 = .ok (.getfield 20, 3) := by decide +kernel
theorem dX2_keep_32 : decode cX2_keep 32 = .ok (.aaload, 1) := by decide +kernel
theorem dX2_keep_33 : decode cX2_keep 33 = .ok (.aload_n 1, 1) := by decide +kernel
theorem dX2_keep_34 : decode cX2_keep 34 = .ok (.invokevirtual 23, 3) := by decide +kernel
theorem dX2_keep_37 : decode cX2_keep 37 = .ok (.aload_n 0, 1) := by decide +kernel
theorem dX2_keep_38 : decode cX2_keep 38 = .ok (.dup, 1) := by decide +kernel
theorem dX2_keep_39 : decode cX2_keep 39 = .ok (.getfield 20, 3) := by decide +kernel
theorem dX2_keep_42 : decode cX2_keep 42 = .ok (.iconst 1, 1) := by decide +kernel
theorem dX2_keep_43 : decode cX2_keep 43 = .ok (.iadd, 1) := by decide +kernel
theorem dX2_keep_44 : decode cX2_keep 44 = .ok (.putfield 20, 3) := by decide +kernel
theorem dX2_keep_47 : decode cX2_keep 47 = .ok (.aload_n 0, 1) := by decide +kernel
theorem dX2_keep_48 : decode cX2_keep 48 = .ok (.bipush 6, 2) := by decide +kernel
theorem dX2_keep_50 : decode cX2_keep 50 = .ok (.aload_n 0, 1) := by decide +kernel
theorem dX2_keep_51 : decode cX2_keep 51 = .ok (.getfield 16, 3) := by decide +kernel
theorem dX2_keep_54 : decode cX2_keep 54 = .ok (.iconst 1, 1) := by decide +kernel
theorem dX2_keep_55 : decode cX2_keep 55 = .ok (.iadd, 1) := by decide +kernel
theorem dX2_keep_56 : decode cX2_keep 56 = .ok (.invokestatic 27, 3) := by decide +kernel
theorem dX2_keep_59 : decode cX2_keep 59 = .ok (.putfield 16, 3) := by decide +kernel
theorem dX2_keep_62 : decode cX2_keep 62 = .ok (.return_, 1) := by decide +kernel
theorem dX2_takeBack_0 : decode cX2_takeBack 0 = .ok (.aload_n 0, 1) := by decide +kernel
theorem dX2_takeBack_1 : decode cX2_takeBack 1 = .ok (.getfield 16, 3) := by decide +kernel
theorem dX2_takeBack_4 : decode cX2_takeBack 4 = .ok (.ifCond .ne 5, 3) := by decide +kernel
theorem dX2_takeBack_9 : decode cX2_takeBack 9 = .ok (.aload_n 0, 1) := by decide +kernel
theorem dX2_takeBack_10 : decode cX2_takeBack 10 = .ok (.aload_n 0, 1) := by decide +kernel
theorem dX2_takeBack_11 : decode cX2_takeBack 11 = .ok (.getfield 20, 3) := by decide +kernel
theorem dX2_takeBack_14 : decode cX2_takeBack 14 = .ok (.ifCond .le 24, 3) := by decide +kernel
theorem dX2_takeBack_38 : decode cX2_takeBack 38 = .ok (.aload_n 0, 1) := by decide +kernel
theorem dX2_takeBack_39 : decode cX2_takeBack 39 = .ok (.getfield 11, 3) := by decide +kernel
theorem dX2_takeBack_42 : decode cX2_takeBack 42 = .ok (.arraylength, 1) := by decide +kernel
theorem dX2_takeBack_43 : decode cX2_takeBack 43 = .ok (.iconst 1, 1) := by decide +kernel
theorem dX2_takeBack_44 : decode cX2_takeBack 44 = .ok (.isub, 1) := by decide +kernel
theorem dX2_takeBack_45 : decode cX2_takeBack 45 = .ok (.putfield 20, 3) := by decide +kernel
theorem dX2_takeBack_48 : decode cX2_takeBack 48 = .ok (.aload_n 1, 1) := by decide +kernel
theorem dX2_takeBack_49 : decode cX2_takeBack 49 = .ok (.aload_n 0, 1) := by decide +kernel
theorem dX2_takeBack_50 : decode cX2_takeBack 50 = .ok (.getfield 11, 3) := by decide +kernel
theorem dX2_takeBack_53 : decode cX2_takeBack 53 = .ok (.aload_n 0, 1) := by decide +kernel
theorem dX2_takeBack_54 : decode cX2_takeBack 54 = .ok (.getfield 20, 3) := by decide +kernel
theorem dX2_takeBack_57 : decode cX2_takeBack 57 = .ok (.aaload, 1) := by decide +kernel
theorem dX2_takeBack_58 : decode cX2_takeBack 58 = .ok (.invokevirtual 23, 3) := by decide +kernel
theorem dX2_takeBack_61 : decode cX2_takeBack 61 = .ok (.aload_n 0, 1) := by decide +kernel
theorem dX2_takeBack_62 : decode cX2_takeBack 62 = .ok (.dup, 1) := by decide +kernel
theorem dX2_takeBack_63 : decode cX2_takeBack 63 = .ok (.getfield 16, 3) := by decide +kernel
theorem dX2_takeBack_66 : decode cX2_takeBack 66 = .ok (.iconst 1, 1) := by decide +kernel
theorem dX2_takeBack_67 : decode cX2_takeBack 67 = .ok (.isub, 1) := by decide +kernel
theorem dX2_takeBack_68 : decode cX2_takeBack 68 = .ok (.putfield 16, 3) := by decide +kernel
theorem dX2_takeBack_71 : decode cX2_takeBack 71 = .ok (.iconst 1, 1) := by decide +kernel
theorem dX2_takeBack_72 : decode cX2_takeBack 72 = .ok (.ireturn, 1) := by decide +kernel
theorem dX2_takeBack_17 : decode cX2_takeBack 17 = .ok (.aload_n 0, 1) := by decide +kernel
theorem dX2_takeBack_18 : decode cX2_takeBack 18 = .ok (.getfield 20, 3) := by decide +kernel
theorem dX2_takeBack_21 : decode cX2_takeBack 21 = .ok (.aload_n 0, 1) := by decide +kernel
theorem dX2_takeBack_22 : decode cX2_takeBack 22 = .ok (.getfield 11, 3) := by decide +kernel
theorem dX2_takeBack_25 : decode cX2_takeBack 25 = .ok (.arraylength, 1) := by decide +kernel
theorem dX2_takeBack_26 : decode cX2_takeBack 26 = .ok (.if_icmp .gt 12, 3) := by decide +kernel
theorem dX2_takeBack_29 : decode cX2_takeBack 29 = .ok (.aload_n 0, 1) := by decide +kernel
theorem dX2_takeBack_30 : decode cX2_takeBack 30 = .ok (.getfield 20, 3) := by decide +kernel
theorem dX2_takeBack_33 : decode cX2_takeBack 33 = .ok (.iconst 1, 1) := by decide +kernel
theorem dX2_takeBack_34 : decode cX2_takeBack 34 = .ok (.isub, 1) := by decide +kernel
theorem dX2_takeBack_35 : decode cX2_takeBack 35 = .ok (.goto 10, 3) := by decide +kernel
theorem dX2_takeBack_7 : decode cX2_takeBack 7 = .ok (.iconst 0, 1) := by decide +kernel
theorem dX2_takeBack_8 : decode cX2_takeBack 8 = .ok (.ireturn, 1) := by decide +kernel
theorem dX3_figure_0 : decode cX3_figure 0 = .ok (.iload_n 1, 1) := by decide +kernel
theorem dX3_figure_1 : decode cX3_figure 1 = .ok (.tableswitch 51 0 3 #[31, 36, 41, 46], 31) := by decide +kernel
theorem dX3_figure_32 : decode cX3_figure 32 = .ok (.aload_n 0, 1) := by decide +kernel
theorem dX3_figure_33 : decode cX3_figure 33 = .ok (.getfield 7, 3) := by decide +kernel
theorem dX3_figure_36 : decode cX3_figure 36 = .ok (.ireturn, 1) := by decide +kernel
theorem dX3_figure_37 : decode cX3_figure 37 = .ok (.aload_n 0, 1) := by decide +kernel
theorem dX3_figure_38 : decode cX3_figure 38 = .ok (.getfield 13, 3) := by decide +kernel
theorem dX3_figure_41 : decode cX3_figure 41 = .ok (.ireturn, 1) := by decide +kernel
theorem dX3_figure_42 : decode cX3_figure 42 = .ok (.aload_n 0, 1) := by decide +kernel
theorem dX3_figure_43 : decode cX3_figure 43 = .ok (.getfield 16, 3) := by decide +kernel
theorem dX3_figure_46 : decode cX3_figure 46 = .ok (.ireturn, 1) := by decide +kernel
theorem dX3_figure_47 : decode cX3_figure 47 = .ok (.aload_n 0, 1) := by decide +kernel
theorem dX3_figure_48 : decode cX3_figure 48 = .ok (.getfield 19, 3) := by decide +kernel
theorem dX3_figure_51 : decode cX3_figure 51 = .ok (.ireturn, 1) := by decide +kernel
theorem dX3_figure_52 : decode cX3_figure 52 = .ok (.aload_n 0, 1) := by decide +kernel
theorem dX3_figure_53 : decode cX3_figure 53 = .ok (.getfield 22, 3) := by decide +kernel
theorem dX3_figure_56 : decode cX3_figure 56 = .ok (.ireturn, 1) := by decide +kernel
theorem dX4_figure_0 : decode cX4_figure 0 = .ok (.iload_n 1, 1) := by decide +kernel
theorem dX4_figure_1 : decode cX4_figure 1 = .ok (.tableswitch 86 0 6 #[43, 48, 53, 58, 63, 68, 81], 43) := by decide +kernel
theorem dX4_figure_44 : decode cX4_figure 44 = .ok (.aload_n 0, 1) := by decide +kernel
theorem dX4_figure_45 : decode cX4_figure 45 = .ok (.getfield 7, 3) := by decide +kernel
theorem dX4_figure_48 : decode cX4_figure 48 = .ok (.ireturn, 1) := by decide +kernel
theorem dX4_figure_49 : decode cX4_figure 49 = .ok (.aload_n 0, 1) := by decide +kernel
theorem dX4_figure_50 : decode cX4_figure 50 = .ok (.getfield 13, 3) := by decide +kernel
theorem dX4_figure_53 : decode cX4_figure 53 = .ok (.ireturn, 1) := by decide +kernel
theorem dX4_figure_54 : decode cX4_figure 54 = .ok (.aload_n 0, 1) := by decide +kernel
theorem dX4_figure_55 : decode cX4_figure 55 = .ok (.getfield 16, 3) := by decide +kernel
theorem dX4_figure_58 : decode cX4_figure 58 = .ok (.ireturn, 1) := by decide +kernel
theorem dX4_figure_59 : decode cX4_figure 59 = .ok (.aload_n 0, 1) := by decide +kernel
theorem dX4_figure_60 : decode cX4_figure 60 = .ok (.getfield 19, 3) := by decide +kernel
theorem dX4_figure_63 : decode cX4_figure 63 = .ok (.ireturn, 1) := by decide +kernel
theorem dX4_figure_64 : decode cX4_figure 64 = .ok (.aload_n 0, 1) := by decide +kernel
theorem dX4_figure_65 : decode cX4_figure 65 = .ok (.getfield 22, 3) := by decide +kernel
theorem dX4_figure_68 : decode cX4_figure 68 = .ok (.ireturn, 1) := by decide +kernel
theorem dX4_figure_69 : decode cX4_figure 69 = .ok (.aload_n 0, 1) := by decide +kernel
theorem dX4_figure_70 : decode cX4_figure 70 = .ok (.getfield 31, 3) := by decide +kernel
theorem dX4_figure_73 : decode cX4_figure 73 = .ok (.ifCond .eq 7, 3) := by decide +kernel
theorem dX4_figure_80 : decode cX4_figure 80 = .ok (.iconst 0, 1) := by decide +kernel
theorem dX4_figure_76 : decode cX4_figure 76 = .ok (.iconst 1, 1) := by decide +kernel
theorem dX4_figure_77 : decode cX4_figure 77 = .ok (.goto 4, 3) := by decide +kernel
theorem dX4_figure_82 : decode cX4_figure 82 = .ok (.aload_n 0, 1) := by decide +kernel
theorem dX4_figure_83 : decode cX4_figure 83 = .ok (.getfield 25, 3) := by decide +kernel
theorem dX4_figure_86 : decode cX4_figure 86 = .ok (.ireturn, 1) := by decide +kernel
theorem dX4_figure_87 : decode cX4_figure 87 = .ok (.aload_n 0, 1) := by decide +kernel
theorem dX4_figure_88 : decode cX4_figure 88 = .ok (.getfield 28, 3) := by decide +kernel
theorem dX4_figure_91 : decode cX4_figure 91 = .ok (.ireturn, 1) := by decide +kernel
theorem dX4_figure_81 : decode cX4_figure 81 = .ok (.ireturn, 1) := by decide +kernel
theorem dX6_byteAt_0 : decode cX6_byteAt 0 = .ok (.iload_n 1, 1) := by decide +kernel
theorem dX6_byteAt_1 : decode cX6_byteAt 1 = .ok (.ifCond .lt 21, 3) := by decide +kernel
theorem dX6_byteAt_4 : decode cX6_byteAt 4 = .ok (.iload_n 1, 1) := by decide +kernel
theorem dX6_byteAt_5 : decode cX6_byteAt 5 = .ok (.aload_n 0, 1) := by decide +kernel
theorem dX6_byteAt_6 : decode cX6_byteAt 6 = .ok (.getfield 9, 3) := by decide +kernel
theorem dX6_byteAt_9 : decode cX6_byteAt 9 = .ok (.arraylength, 1) := by decide +kernel
theorem dX6_byteAt_10 : decode cX6_byteAt 10 = .ok (.if_icmp .ge 12, 3) := by decide +kernel
theorem dX6_byteAt_13 : decode cX6_byteAt 13 = .ok (.aload_n 0, 1) := by decide +kernel
theorem dX6_byteAt_14 : decode cX6_byteAt 14 = .ok (.getfield 9, 3) := by decide +kernel
theorem dX6_byteAt_17 : decode cX6_byteAt 17 = .ok (.iload_n 1, 1) := by decide +kernel
theorem dX6_byteAt_18 : decode cX6_byteAt 18 = .ok (.baload, 1) := by decide +kernel
theorem dX6_byteAt_19 : decode cX6_byteAt 19 = .ok (.goto 4, 3) := by decide +kernel
theorem dX6_byteAt_22 : decode cX6_byteAt 22 = .ok (.iconst 0, 1) := by decide +kernel
theorem dX6_byteAt_23 : decode cX6_byteAt 23 = .ok (.ireturn, 1) := by decide +kernel
theorem dX8_letterOf_0 : decode cX8_letterOf 0 = .ok (.iload_n 2, 1) := by decide +kernel
theorem dX8_letterOf_1 : decode cX8_letterOf 1 = .ok (.ifCond .lt 23, 3) := by decide +kernel
theorem dX8_letterOf_4 : decode cX8_letterOf 4 = .ok (.iload_n 2, 1) := by decide +kernel
theorem dX8_letterOf_5 : decode cX8_letterOf 5 = .ok (.bipush 8, 2) := by decide +kernel
theorem dX8_letterOf_7 : decode cX8_letterOf 7 = .ok (.if_icmp .ge 17, 3) := by decide +kernel
theorem dX8_letterOf_10 : decode cX8_letterOf 10 = .ok (.lload_n 0, 1) := by decide +kernel
theorem dX8_letterOf_11 : decode cX8_letterOf 11 = .ok (.bipush 8, 2) := by decide +kernel
theorem dX8_letterOf_13 : decode cX8_letterOf 13 = .ok (.iload_n 2, 1) := by decide +kernel
theorem dX8_letterOf_14 : decode cX8_letterOf 14 = .ok (.imul, 1) := by decide +kernel
theorem dX8_letterOf_15 : decode cX8_letterOf 15 = .ok (.lshr, 1) := by decide +kernel
theorem dX8_letterOf_16 : decode cX8_letterOf 16 = .ok (.ldc2_w 22, 3) := by decide +kernel
theorem dX8_letterOf_19 : decode cX8_letterOf 19 = .ok (.land, 1) := by decide +kernel
theorem dX8_letterOf_20 : decode cX8_letterOf 20 = .ok (.l2i, 1) := by decide +kernel
theorem dX8_letterOf_21 : decode cX8_letterOf 21 = .ok (.goto 4, 3) := by decide +kernel
theorem dX8_letterOf_24 : decode cX8_letterOf 24 = .ok (.iconst 0, 1) := by decide +kernel
theorem dX8_letterOf_25 : decode cX8_letterOf 25 = .ok (.ireturn, 1) := by decide +kernel
theorem dX6_put_0 : decode cX6_put 0 = .ok (.aload_n 0, 1) := by decide +kernel
theorem dX6_put_1 : decode cX6_put 1 = .ok (.getfield 13, 3) := by decide +kernel
theorem dX6_put_4 : decode cX6_put 4 = .ok (.ifCond .lt 36, 3) := by decide +kernel
theorem dX6_put_7 : decode cX6_put 7 = .ok (.aload_n 0, 1) := by decide +kernel
theorem dX6_put_8 : decode cX6_put 8 = .ok (.getfield 13, 3) := by decide +kernel
theorem dX6_put_11 : decode cX6_put 11 = .ok (.aload_n 0, 1) := by decide +kernel
theorem dX6_put_12 : decode cX6_put 12 = .ok (.getfield 9, 3) := by decide +kernel
theorem dX6_put_15 : decode cX6_put 15 = .ok (.arraylength, 1) := by decide +kernel
theorem dX6_put_16 : decode cX6_put 16 = .ok (.if_icmp .ge 24, 3) := by decide +kernel
theorem dX6_put_19 : decode cX6_put 19 = .ok (.aload_n 0, 1) := by decide +kernel
theorem dX6_put_20 : decode cX6_put 20 = .ok (.getfield 9, 3) := by decide +kernel
theorem dX6_put_23 : decode cX6_put 23 = .ok (.aload_n 0, 1) := by decide +kernel
theorem dX6_put_24 : decode cX6_put 24 = .ok (.getfield 13, 3) := by decide +kernel
theorem dX6_put_27 : decode cX6_put 27 = .ok (.iload_n 1, 1) := by decide +kernel
theorem dX6_put_28 : decode cX6_put 28 = .ok (.i2b, 1) := by decide +kernel
theorem dX6_put_29 : decode cX6_put 29 = .ok (.bastore, 1) := by decide +kernel
theorem dX6_put_30 : decode cX6_put 30 = .ok (.aload_n 0, 1) := by decide +kernel
theorem dX6_put_31 : decode cX6_put 31 = .ok (.dup, 1) := by decide +kernel
theorem dX6_put_32 : decode cX6_put 32 = .ok (.getfield 13, 3) := by decide +kernel
theorem dX6_put_35 : decode cX6_put 35 = .ok (.iconst 1, 1) := by decide +kernel
theorem dX6_put_36 : decode cX6_put 36 = .ok (.iadd, 1) := by decide +kernel
theorem dX6_put_37 : decode cX6_put 37 = .ok (.putfield 13, 3) := by decide +kernel
theorem dX6_put_40 : decode cX6_put 40 = .ok (.return_, 1) := by decide +kernel
theorem dX6_writeName_0 : decode cX6_writeName 0 = .ok (.iconst 0, 1) := by decide +kernel
theorem dX6_writeName_1 : decode cX6_writeName 1 = .ok (.istore_n 3, 1) := by decide +kernel
theorem dX6_writeName_2 : decode cX6_writeName 2 = .ok (.iload_n 3, 1) := by decide +kernel
theorem dX6_writeName_3 : decode cX6_writeName 3 = .ok (.bipush 8, 2) := by decide +kernel
theorem dX6_writeName_5 : decode cX6_writeName 5 = .ok (.if_icmp .ge 26, 3) := by decide +kernel
theorem dX6_writeName_8 : decode cX6_writeName 8 = .ok (.lload_n 1, 1) := by decide +kernel
theorem dX6_writeName_9 : decode cX6_writeName 9 = .ok (.iload_n 3, 1) := by decide +kernel
theorem dX6_writeName_10 : decode cX6_writeName 10 = .ok (.invokestatic 77, 3) := by decide +kernel
theorem dX6_writeName_13 : decode cX6_writeName 13 = .ok (.ifCond .eq 12, 3) := by decide +kernel
theorem dX6_writeName_16 : decode cX6_writeName 16 = .ok (.aload_n 0, 1) := by decide +kernel
theorem dX6_writeName_17 : decode cX6_writeName 17 = .ok (.lload_n 1, 1) := by decide +kernel
theorem dX6_writeName_18 : decode cX6_writeName 18 = .ok (.iload_n 3, 1) := by decide +kernel
theorem dX6_writeName_19 : decode cX6_writeName 19 = .ok (.invokestatic 77, 3) := by decide +kernel
theorem dX6_writeName_22 : decode cX6_writeName 22 = .ok (.invokevirtual 40, 3) := by decide +kernel
theorem dX6_writeName_25 : decode cX6_writeName 25 = .ok (.iinc 3 1, 3) := by decide +kernel
theorem dX6_writeName_28 : decode cX6_writeName 28 = .ok (.goto (-26), 3) := by decide +kernel
theorem dX6_writeName_31 : decode cX6_writeName 31 = .ok (.return_, 1) := by decide +kernel
theorem dX6_putNumber_0 : decode cX6_putNumber 0 = .ok (.iconst 0, 1) := by decide +kernel
theorem dX6_putNumber_1 : decode cX6_putNumber 1 = .ok (.istore_n 2, 1) := by decide +kernel
theorem dX6_putNumber_2 : decode cX6_putNumber 2 = .ok (.sipush 1000, 3) := by decide +kernel
theorem dX6_putNumber_5 : decode cX6_putNumber 5 = .ok (.istore_n 3, 1) := by decide +kernel
theorem dX6_putNumber_6 : decode cX6_putNumber 6 = .ok (.iload_n 3, 1) := by decide +kernel
theorem dX6_putNumber_7 : decode cX6_putNumber 7 = .ok (.iconst 1, 1) := by decide +kernel
theorem dX6_putNumber_8 : decode cX6_putNumber 8 = .ok (.if_icmp .lt 48, 3) := by decide +kernel
theorem dX6_putNumber_11 : decode cX6_putNumber 11 = .ok (.iload_n 2, 1) := by decide +kernel
theorem dX6_putNumber_12 : decode cX6_putNumber 12 = .ok (.ifCond .ne 13, 3) := by decide +kernel
theorem dX6_putNumber_15 : decode cX6_putNumber 15 = .ok (.iload_n 1, 1) := by decide +kernel
theorem dX6_putNumber_16 : decode cX6_putNumber 16 = .ok (.iload_n 3, 1) := by decide +kernel
theorem dX6_putNumber_17 : decode cX6_putNumber 17 = .ok (.if_icmp .ge 8, 3) := by decide +kernel
theorem dX6_putNumber_25 : decode cX6_putNumber 25 = .ok (.iconst 1, 1) := by decide +kernel
theorem dX6_putNumber_26 : decode cX6_putNumber 26 = .ok (.goto 4, 3) := by decide +kernel
theorem dX6_putNumber_30 : decode cX6_putNumber 30 = .ok (.istore_n 2, 1) := by decide +kernel
theorem dX6_putNumber_31 : decode cX6_putNumber 31 = .ok (.iload_n 2, 1) := by decide +kernel
theorem dX6_putNumber_32 : decode cX6_putNumber 32 = .ok (.ifCond .eq 16, 3) := by decide +kernel
theorem dX6_putNumber_35 : decode cX6_putNumber 35 = .ok (.aload_n 0, 1) := by decide +kernel
theorem dX6_putNumber_36 : decode cX6_putNumber 36 = .ok (.bipush 48, 2) := by decide +kernel
theorem dX6_putNumber_38 : decode cX6_putNumber 38 = .ok (.iload_n 1, 1) := by decide +kernel
theorem dX6_putNumber_39 : decode cX6_putNumber 39 = .ok (.iload_n 3, 1) := by decide +kernel
theorem dX6_putNumber_40 : decode cX6_putNumber 40 = .ok (.idiv, 1) := by decide +kernel
theorem dX6_putNumber_41 : decode cX6_putNumber 41 = .ok (.bipush 10, 2) := by decide +kernel
theorem dX6_putNumber_43 : decode cX6_putNumber 43 = .ok (.irem, 1) := by decide +kernel
theorem dX6_putNumber_44 : decode cX6_putNumber 44 = .ok (.iadd, 1) := by decide +kernel
theorem dX6_putNumber_45 : decode cX6_putNumber 45 = .ok (.invokevirtual 40, 3) := by decide +kernel
theorem dX6_putNumber_48 : decode cX6_putNumber 48 = .ok (.iload_n 3, 1) := by decide +kernel
theorem dX6_putNumber_49 : decode cX6_putNumber 49 = .ok (.bipush 10, 2) := by decide +kernel
theorem dX6_putNumber_51 : decode cX6_putNumber 51 = .ok (.idiv, 1) := by decide +kernel
theorem dX6_putNumber_52 : decode cX6_putNumber 52 = .ok (.istore_n 3, 1) := by decide +kernel
theorem dX6_putNumber_53 : decode cX6_putNumber 53 = .ok (.goto (-47), 3) := by decide +kernel
theorem dX6_putNumber_56 : decode cX6_putNumber 56 = .ok (.return_, 1) := by decide +kernel
theorem dX6_putNumber_20 : decode cX6_putNumber 20 = .ok (.iload_n 3, 1) := by decide +kernel
theorem dX6_putNumber_21 : decode cX6_putNumber 21 = .ok (.iconst 1, 1) := by decide +kernel
theorem dX6_putNumber_22 : decode cX6_putNumber 22 = .ok (.if_icmp .ne 7, 3) := by decide +kernel
theorem dX6_putNumber_29 : decode cX6_putNumber 29 = .ok (.iconst 0, 1) := by decide +kernel
theorem dX10_isWaitingAt_0 : decode cX10_isWaitingAt 0 = .ok (.aload_n 0, 1) := by decide +kernel
theorem dX10_isWaitingAt_1 : decode cX10_isWaitingAt 1 = .ok (.iload_n 1, 1) := by decide +kernel
theorem dX10_isWaitingAt_2 : decode cX10_isWaitingAt 2 = .ok (.invokevirtual 81, 3) := by decide +kernel
theorem dX10_isWaitingAt_5 : decode cX10_isWaitingAt 5 = .ok (.getfield 140, 3) := by decide +kernel
theorem dX10_isWaitingAt_8 : decode cX10_isWaitingAt 8 = .ok (.ifCond .ne 19, 3) := by decide +kernel
theorem dX10_isWaitingAt_11 : decode cX10_isWaitingAt 11 = .ok (.aload_n 0, 1) := by decide +kernel
theorem dX10_isWaitingAt_12 : decode cX10_isWaitingAt 12 = .ok (.iload_n 1, 1) := by decide +kernel
theorem dX10_isWaitingAt_13 : decode cX10_isWaitingAt 13 = .ok (.invokevirtual 81, 3) := by decide +kernel
theorem dX10_isWaitingAt_16 : decode cX10_isWaitingAt 16 = .ok (.getfield 137, 3) := by decide +kernel
theorem dX10_isWaitingAt_19 : decode cX10_isWaitingAt 19 = .ok (.iload_n 2, 1) := by decide +kernel
theorem dX10_isWaitingAt_20 : decode cX10_isWaitingAt 20 = .ok (.if_icmp .ne 7, 3) := by decide +kernel
theorem dX10_isWaitingAt_23 : decode cX10_isWaitingAt 23 = .ok (.iconst 1, 1) := by decide +kernel
theorem dX10_isWaitingAt_24 : decode cX10_isWaitingAt 24 = .ok (.goto 4, 3) := by decide +kernel
theorem dX10_isWaitingAt_27 : decode cX10_isWaitingAt 27 = .ok (.iconst 0, 1) := by decide +kernel
theorem dX10_isWaitingAt_28 : decode cX10_isWaitingAt 28 = .ok (.ireturn, 1) := by decide +kernel
theorem dX6_writeNode_0 : decode cX6_writeNode 0 = .ok (.aload_n 0, 1) := by decide +kernel
theorem dX6_writeNode_1 : decode cX6_writeNode 1 = .ok (.aload_n 1, 1) := by decide +kernel
theorem dX6_writeNode_2 : decode cX6_writeNode 2 = .ok (.iload_n 2, 1) := by decide +kernel
theorem dX6_writeNode_3 : decode cX6_writeNode 3 = .ok (.invokevirtual 26, 3) := by decide +kernel
theorem dX6_writeNode_6 : decode cX6_writeNode 6 = .ok (.getfield 30, 3) := by decide +kernel
theorem dX6_writeNode_9 : decode cX6_writeNode 9 = .ok (.invokevirtual 36, 3) := by decide +kernel
theorem dX6_writeNode_12 : decode cX6_writeNode 12 = .ok (.aload_n 0, 1) := by decide +kernel
theorem dX6_writeNode_13 : decode cX6_writeNode 13 = .ok (.bipush 32, 2) := by decide +kernel
theorem dX6_writeNode_15 : decode cX6_writeNode 15 = .ok (.invokevirtual 40, 3) := by decide +kernel
theorem dX6_writeNode_18 : decode cX6_writeNode 18 = .ok (.aload_n 0, 1) := by decide +kernel
theorem dX6_writeNode_19 : decode cX6_writeNode 19 = .ok (.aload_n 1, 1) := by decide +kernel
theorem dX6_writeNode_20 : decode cX6_writeNode 20 = .ok (.iload_n 2, 1) := by decide +kernel
theorem dX6_writeNode_21 : decode cX6_writeNode 21 = .ok (.invokevirtual 44, 3) := by decide +kernel
theorem dX6_writeNode_24 : decode cX6_writeNode 24 = .ok (.invokevirtual 48, 3) := by decide +kernel
theorem dX6_writeNode_27 : decode cX6_writeNode 27 = .ok (.aload_n 0, 1) := by decide +kernel
theorem dX6_writeNode_28 : decode cX6_writeNode 28 = .ok (.bipush 47, 2) := by decide +kernel
theorem dX6_writeNode_30 : decode cX6_writeNode 30 = .ok (.invokevirtual 40, 3) := by decide +kernel
theorem dX6_writeNode_33 : decode cX6_writeNode 33 = .ok (.aload_n 0, 1) := by decide +kernel
theorem dX6_writeNode_34 : decode cX6_writeNode 34 = .ok (.aload_n 1, 1) := by decide +kernel
theorem dX6_writeNode_35 : decode cX6_writeNode 35 = .ok (.iload_n 2, 1) := by decide +kernel
theorem dX6_writeNode_36 : decode cX6_writeNode 36 = .ok (.invokevirtual 26, 3) := by decide +kernel
theorem dX6_writeNode_39 : decode cX6_writeNode 39 = .ok (.getfield 51, 3) := by decide +kernel
theorem dX6_writeNode_42 : decode cX6_writeNode 42 = .ok (.invokevirtual 48, 3) := by decide +kernel
theorem dX6_writeNode_45 : decode cX6_writeNode 45 = .ok (.aload_n 1, 1) := by decide +kernel
theorem dX6_writeNode_46 : decode cX6_writeNode 46 = .ok (.iload_n 2, 1) := by decide +kernel
theorem dX6_writeNode_47 : decode cX6_writeNode 47 = .ok (.invokevirtual 54, 3) := by decide +kernel
theorem dX6_writeNode_50 : decode cX6_writeNode 50 = .ok (.ifCond .eq 9, 3) := by decide +kernel
theorem dX6_writeNode_53 : decode cX6_writeNode 53 = .ok (.aload_n 0, 1) := by decide +kernel
theorem dX6_writeNode_54 : decode cX6_writeNode 54 = .ok (.bipush 42, 2) := by decide +kernel
theorem dX6_writeNode_56 : decode cX6_writeNode 56 = .ok (.invokevirtual 40, 3) := by decide +kernel
theorem dX6_writeNode_59 : decode cX6_writeNode 59 = .ok (.iconst 0, 1) := by decide +kernel
theorem dX6_writeNode_60 : decode cX6_writeNode 60 = .ok (.istore_n 3, 1) := by decide +kernel
theorem dX6_writeNode_61 : decode cX6_writeNode 61 = .ok (.iload_n 3, 1) := by decide +kernel
theorem dX6_writeNode_62 : decode cX6_writeNode 62 = .ok (.aload_n 1, 1) := by decide +kernel
theorem dX6_writeNode_63 : decode cX6_writeNode 63 = .ok (.getfield 58, 3) := by decide +kernel
theorem dX6_writeNode_66 : decode cX6_writeNode 66 = .ok (.if_icmp .ge 46, 3) := by decide +kernel
theorem dX6_writeNode_112 : decode cX6_writeNode 112 = .ok (.aload_n 0, 1) := by decide +kernel
theorem dX6_writeNode_113 : decode cX6_writeNode 113 = .ok (.bipush 10, 2) := by decide +kernel
theorem dX6_writeNode_115 : decode cX6_writeNode 115 = .ok (.invokevirtual 40, 3) := by decide +kernel
theorem dX6_writeNode_118 : decode cX6_writeNode 118 = .ok (.return_, 1) := by decide +kernel
theorem dX6_writeNode_69 : decode cX6_writeNode 69 = .ok (.aload_n 1, 1) := by decide +kernel
theorem dX6_writeNode_70 : decode cX6_writeNode 70 = .ok (.iload_n 3, 1) := by decide +kernel
theorem dX6_writeNode_71 : decode cX6_writeNode 71 = .ok (.iload_n 2, 1) := by decide +kernel
theorem dX6_writeNode_72 : decode cX6_writeNode 72 = .ok (.invokevirtual 61, 3) := by decide +kernel
theorem dX6_writeNode_75 : decode cX6_writeNode 75 = .ok (.ifCond .eq 31, 3) := by decide +kernel
theorem dX6_writeNode_78 : decode cX6_writeNode 78 = .ok (.aload_n 0, 1) := by decide +kernel
theorem dX6_writeNode_79 : decode cX6_writeNode 79 = .ok (.bipush 32, 2) := by decide +kernel
theorem dX6_writeNode_81 : decode cX6_writeNode 81 = .ok (.invokevirtual 40, 3) := by decide +kernel
theorem dX6_writeNode_84 : decode cX6_writeNode 84 = .ok (.aload_n 0, 1) := by decide +kernel
theorem dX6_writeNode_85 : decode cX6_writeNode 85 = .ok (.iload_n 3, 1) := by decide +kernel
theorem dX6_writeNode_86 : decode cX6_writeNode 86 = .ok (.invokevirtual 48, 3) := by decide +kernel
theorem dX6_writeNode_89 : decode cX6_writeNode 89 = .ok (.aload_n 1, 1) := by decide +kernel
theorem dX6_writeNode_90 : decode cX6_writeNode 90 = .ok (.iload_n 3, 1) := by decide +kernel
theorem dX6_writeNode_91 : decode cX6_writeNode 91 = .ok (.invokevirtual 65, 3) := by decide +kernel
theorem dX6_writeNode_94 : decode cX6_writeNode 94 = .ok (.getfield 69, 3) := by decide +kernel
theorem dX6_writeNode_97 : decode cX6_writeNode 97 = .ok (.ifCond .eq 9, 3) := by decide +kernel
theorem dX6_writeNode_100 : decode cX6_writeNode 100 = .ok (.aload_n 0, 1) := by decide +kernel
theorem dX6_writeNode_101 : decode cX6_writeNode 101 = .ok (.bipush 33, 2) := by decide +kernel
theorem dX6_writeNode_103 : decode cX6_writeNode 103 = .ok (.invokevirtual 40, 3) := by decide +kernel
theorem dX6_writeNode_106 : decode cX6_writeNode 106 = .ok (.iinc 3 1, 3) := by decide +kernel
theorem dX6_writeNode_109 : decode cX6_writeNode 109 = .ok (.goto (-48), 3) := by decide +kernel
theorem dX6_writeOf_0 : decode cX6_writeOf 0 = .ok (.aload_n 0, 1) := by decide +kernel
theorem dX6_writeOf_1 : decode cX6_writeOf 1 = .ok (.iconst 0, 1) := by decide +kernel
theorem dX6_writeOf_2 : decode cX6_writeOf 2 = .ok (.putfield 13, 3) := by decide +kernel
theorem dX6_writeOf_5 : decode cX6_writeOf 5 = .ok (.iconst 0, 1) := by decide +kernel
theorem dX6_writeOf_6 : decode cX6_writeOf 6 = .ok (.istore_n 2, 1) := by decide +kernel
theorem dX6_writeOf_7 : decode cX6_writeOf 7 = .ok (.iload_n 2, 1) := by decide +kernel
theorem dX6_writeOf_8 : decode cX6_writeOf 8 = .ok (.aload_n 1, 1) := by decide +kernel
theorem dX6_writeOf_9 : decode cX6_writeOf 9 = .ok (.getfield 17, 3) := by decide +kernel
theorem dX6_writeOf_12 : decode cX6_writeOf 12 = .ok (.if_icmp .ge 15, 3) := by decide +kernel
theorem dX6_writeOf_27 : decode cX6_writeOf 27 = .ok (.aload_n 0, 1) := by decide +kernel
theorem dX6_writeOf_28 : decode cX6_writeOf 28 = .ok (.getfield 13, 3) := by decide +kernel
theorem dX6_writeOf_31 : decode cX6_writeOf 31 = .ok (.ireturn, 1) := by decide +kernel
theorem dX6_writeOf_15 : decode cX6_writeOf 15 = .ok (.aload_n 0, 1) := by decide +kernel
theorem dX6_writeOf_16 : decode cX6_writeOf 16 = .ok (.aload_n 1, 1) := by decide +kernel
theorem dX6_writeOf_17 : decode cX6_writeOf 17 = .ok (.iload_n 2, 1) := by decide +kernel
theorem dX6_writeOf_18 : decode cX6_writeOf 18 = .ok (.invokevirtual 22, 3) := by decide +kernel
theorem dX6_writeOf_21 : decode cX6_writeOf 21 = .ok (.iinc 2 1, 3) := by decide +kernel
theorem dX6_writeOf_24 : decode cX6_writeOf 24 = .ok (.goto (-17), 3) := by decide +kernel
theorem dX7_commandAt_0 : decode cX7_commandAt 0 = .ok (.aload_n 0, 1) := by decide +kernel
theorem dX7_commandAt_1 : decode cX7_commandAt 1 = .ok (.getfield 13, 3) := by decide +kernel
theorem dX7_commandAt_4 : decode cX7_commandAt 4 = .ok (.iload_n 1, 1) := by decide +kernel
theorem dX7_commandAt_5 : decode cX7_commandAt 5 = .ok (.ifCond .lt 16, 3) := by decide +kernel
theorem dX7_commandAt_8 : decode cX7_commandAt 8 = .ok (.iload_n 1, 1) := by decide +kernel
theorem dX7_commandAt_9 : decode cX7_commandAt 9 = .ok (.aload_n 0, 1) := by decide +kernel
theorem dX7_commandAt_10 : decode cX7_commandAt 10 = .ok (.getfield 13, 3) := by decide +kernel
theorem dX7_commandAt_13 : decode cX7_commandAt 13 = .ok (.arraylength, 1) := by decide +kernel
theorem dX7_commandAt_14 : decode cX7_commandAt 14 = .ok (.if_icmp .ge 7, 3) := by decide +kernel
theorem dX7_commandAt_17 : decode cX7_commandAt 17 = .ok (.iload_n 1, 1) := by decide +kernel
theorem dX7_commandAt_18 : decode cX7_commandAt 18 = .ok (.goto 4, 3) := by decide +kernel
theorem dX7_commandAt_21 : decode cX7_commandAt 21 = .ok (.iconst 0, 1) := by decide +kernel
theorem dX7_commandAt_22 : decode cX7_commandAt 22 = .ok (.aaload, 1) := by decide +kernel
theorem dX7_commandAt_23 : decode cX7_commandAt 23 = .ok (.areturn, 1) := by decide +kernel
theorem dX8_byteAt_0 : decode cX8_byteAt 0 = .ok (.iload_n 1, 1) := by decide +kernel
theorem dX8_byteAt_1 : decode cX8_byteAt 1 = .ok (.ifCond .lt 21, 3) := by decide +kernel
theorem dX8_byteAt_4 : decode cX8_byteAt 4 = .ok (.iload_n 1, 1) := by decide +kernel
theorem dX8_byteAt_5 : decode cX8_byteAt 5 = .ok (.aload_n 0, 1) := by decide +kernel
theorem dX8_byteAt_6 : decode cX8_byteAt 6 = .ok (.getfield 11, 3) := by decide +kernel
theorem dX8_byteAt_9 : decode cX8_byteAt 9 = .ok (.arraylength, 1) := by decide +kernel
theorem dX8_byteAt_10 : decode cX8_byteAt 10 = .ok (.if_icmp .ge 12, 3) := by decide +kernel
theorem dX8_byteAt_13 : decode cX8_byteAt 13 = .ok (.aload_n 0, 1) := by decide +kernel
theorem dX8_byteAt_14 : decode cX8_byteAt 14 = .ok (.getfield 11, 3) := by decide +kernel
theorem dX8_byteAt_17 : decode cX8_byteAt 17 = .ok (.iload_n 1, 1) := by decide +kernel
theorem dX8_byteAt_18 : decode cX8_byteAt 18 = .ok (.baload, 1) := by decide +kernel
theorem dX8_byteAt_19 : decode cX8_byteAt 19 = .ok (.goto 4, 3) := by decide +kernel
theorem dX8_byteAt_22 : decode cX8_byteAt 22 = .ok (.iconst 0, 1) := by decide +kernel
theorem dX8_byteAt_23 : decode cX8_byteAt 23 = .ok (.ireturn, 1) := by decide +kernel
theorem dX8_isLetter_0 : decode cX8_isLetter 0 = .ok (.iload_n 0, 1) := by decide +kernel
theorem dX8_isLetter_1 : decode cX8_isLetter 1 = .ok (.bipush 97, 2) := by decide +kernel
theorem dX8_isLetter_3 : decode cX8_isLetter 3 = .ok (.if_icmp .lt 13, 3) := by decide +kernel
theorem dX8_isLetter_6 : decode cX8_isLetter 6 = .ok (.iload_n 0, 1) := by decide +kernel
theorem dX8_isLetter_7 : decode cX8_isLetter 7 = .ok (.bipush 122, 2) := by decide +kernel
theorem dX8_isLetter_9 : decode cX8_isLetter 9 = .ok (.if_icmp .gt 7, 3) := by decide +kernel
theorem dX8_isLetter_12 : decode cX8_isLetter 12 = .ok (.iconst 1, 1) := by decide +kernel
theorem dX8_isLetter_13 : decode cX8_isLetter 13 = .ok (.goto 4, 3) := by decide +kernel
theorem dX8_isLetter_16 : decode cX8_isLetter 16 = .ok (.iconst 0, 1) := by decide +kernel
theorem dX8_isLetter_17 : decode cX8_isLetter 17 = .ok (.ireturn, 1) := by decide +kernel
theorem dX8_scanWord_0 : decode cX8_scanWord 0 = .ok (.aload_n 0, 1) := by decide +kernel
theorem dX8_scanWord_1 : decode cX8_scanWord 1 = .ok (.lconst 0, 1) := by decide +kernel
theorem dX8_scanWord_2 : decode cX8_scanWord 2 = .ok (.putfield 56, 3) := by decide +kernel
theorem dX8_scanWord_5 : decode cX8_scanWord 5 = .ok (.aload_n 0, 1) := by decide +kernel
theorem dX8_scanWord_6 : decode cX8_scanWord 6 = .ok (.getfield 27, 3) := by decide +kernel
theorem dX8_scanWord_9 : decode cX8_scanWord 9 = .ok (.aload_n 0, 1) := by decide +kernel
theorem dX8_scanWord_10 : decode cX8_scanWord 10 = .ok (.getfield 19, 3) := by decide +kernel
theorem dX8_scanWord_13 : decode cX8_scanWord 13 = .ok (.if_icmp .ge 75, 3) := by decide +kernel
theorem dX8_scanWord_88 : decode cX8_scanWord 88 = .ok (.aload_n 0, 1) := by decide +kernel
theorem dX8_scanWord_89 : decode cX8_scanWord 89 = .ok (.aload_n 0, 1) := by decide +kernel
theorem dX8_scanWord_90 : decode cX8_scanWord 90 = .ok (.getfield 27, 3) := by decide +kernel
theorem dX8_scanWord_93 : decode cX8_scanWord 93 = .ok (.aload_n 0, 1) := by decide +kernel
theorem dX8_scanWord_94 : decode cX8_scanWord 94 = .ok (.getfield 33, 3) := by decide +kernel
theorem dX8_scanWord_97 : decode cX8_scanWord 97 = .ok (.isub, 1) := by decide +kernel
theorem dX8_scanWord_98 : decode cX8_scanWord 98 = .ok (.bipush 8, 2) := by decide +kernel
theorem dX8_scanWord_100 : decode cX8_scanWord 100 = .ok (.if_icmp .gt 7, 3) := by decide +kernel
theorem dX8_scanWord_107 : decode cX8_scanWord 107 = .ok (.iconst 3, 1) := by decide +kernel
theorem dX8_scanWord_108 : decode cX8_scanWord 108 = .ok (.putfield 40, 3) := by decide +kernel
theorem dX8_scanWord_111 : decode cX8_scanWord 111 = .ok (.return_, 1) := by decide +kernel
theorem dX8_scanWord_103 : decode cX8_scanWord 103 = .ok (.iconst 1, 1) := by decide +kernel
theorem dX8_scanWord_104 : decode cX8_scanWord 104 = .ok (.goto 4, 3) := by decide +kernel
theorem dX8_scanWord_16 : decode cX8_scanWord 16 = .ok (.aload_n 0, 1) := by decide +kernel
theorem dX8_scanWord_17 : decode cX8_scanWord 17 = .ok (.aload_n 0, 1) := by decide +kernel
theorem dX8_scanWord_18 : decode cX8_scanWord 18 = .ok (.getfield 27, 3) := by decide +kernel
theorem dX8_scanWord_21 : decode cX8_scanWord 21 = .ok (.invokevirtual 36, 3) := by decide +kernel
theorem dX8_scanWord_24 : decode cX8_scanWord 24 = .ok (.invokestatic 43, 3) := by decide +kernel
theorem dX8_scanWord_27 : decode cX8_scanWord 27 = .ok (.ifCond .eq 61, 3) := by decide +kernel
theorem dX8_scanWord_30 : decode cX8_scanWord 30 = .ok (.aload_n 0, 1) := by decide +kernel
theorem dX8_scanWord_31 : decode cX8_scanWord 31 = .ok (.getfield 27, 3) := by decide +kernel
theorem dX8_scanWord_34 : decode cX8_scanWord 34 = .ok (.aload_n 0, 1) := by decide +kernel
theorem dX8_scanWord_35 : decode cX8_scanWord 35 = .ok (.getfield 33, 3) := by decide +kernel
theorem dX8_scanWord_38 : decode cX8_scanWord 38 = .ok (.isub, 1) := by decide +kernel
theorem dX8_scanWord_39 : decode cX8_scanWord 39 = .ok (.bipush 8, 2) := by decide +kernel
theorem dX8_scanWord_41 : decode cX8_scanWord 41 = .ok (.if_icmp .ge 34, 3) := by decide +kernel
theorem dX8_scanWord_75 : decode cX8_scanWord 75 = .ok (.aload_n 0, 1) := by decide +kernel
theorem dX8_scanWord_76 : decode cX8_scanWord 76 = .ok (.dup, 1) := by decide +kernel
theorem dX8_scanWord_77 : decode cX8_scanWord 77 = .ok (.getfield 27, 3) := by decide +kernel
theorem dX8_scanWord_80 : decode cX8_scanWord 80 = .ok (.iconst 1, 1) := by decide +kernel
theorem dX8_scanWord_81 : decode cX8_scanWord 81 = .ok (.iadd, 1) := by decide +kernel
theorem dX8_scanWord_82 : decode cX8_scanWord 82 = .ok (.putfield 27, 3) := by decide +kernel
theorem dX8_scanWord_85 : decode cX8_scanWord 85 = .ok (.goto (-80), 3) := by decide +kernel
theorem dX8_scanWord_44 : decode cX8_scanWord 44 = .ok (.aload_n 0, 1) := by decide +kernel
theorem dX8_scanWord_45 : decode cX8_scanWord 45 = .ok (.dup, 1) := by decide +kernel
theorem dX8_scanWord_46 : decode cX8_scanWord 46 = .ok (.getfield 56, 3) := by decide +kernel
theorem dX8_scanWord_49 : decode cX8_scanWord 49 = .ok (.aload_n 0, 1) := by decide +kernel
theorem dX8_scanWord_50 : decode cX8_scanWord 50 = .ok (.aload_n 0, 1) := by decide +kernel
theorem dX8_scanWord_51 : decode cX8_scanWord 51 = .ok (.getfield 27, 3) := by decide +kernel
theorem dX8_scanWord_54 : decode cX8_scanWord 54 = .ok (.invokevirtual 36, 3) := by decide +kernel
theorem dX8_scanWord_57 : decode cX8_scanWord 57 = .ok (.i2l, 1) := by decide +kernel
theorem dX8_scanWord_58 : decode cX8_scanWord 58 = .ok (.bipush 8, 2) := by decide +kernel
theorem dX8_scanWord_60 : decode cX8_scanWord 60 = .ok (.aload_n 0, 1) := by decide +kernel
theorem dX8_scanWord_61 : decode cX8_scanWord 61 = .ok (.getfield 27, 3) := by decide +kernel
theorem dX8_scanWord_64 : decode cX8_scanWord 64 = .ok (.aload_n 0, 1) := by decide +kernel
theorem dX8_scanWord_65 : decode cX8_scanWord 65 = .ok (.getfield 33, 3) := by decide +kernel
theorem dX8_scanWord_68 : decode cX8_scanWord 68 = .ok (.isub, 1) := by decide +kernel
theorem dX8_scanWord_69 : decode cX8_scanWord 69 = .ok (.imul, 1) := by decide +kernel
theorem dX8_scanWord_70 : decode cX8_scanWord 70 = .ok (.lshl, 1) := by decide +kernel
theorem dX8_scanWord_71 : decode cX8_scanWord 71 = .ok (.lor, 1) := by decide +kernel
theorem dX8_scanWord_72 : decode cX8_scanWord 72 = .ok (.putfield 56, 3) := by decide +kernel
theorem dX8_isDigit_0 : decode cX8_isDigit 0 = .ok (.iload_n 0, 1) := by decide +kernel
theorem dX8_isDigit_1 : decode cX8_isDigit 1 = .ok (.bipush 48, 2) := by decide +kernel
theorem dX8_isDigit_3 : decode cX8_isDigit 3 = .ok (.if_icmp .lt 13, 3) := by decide +kernel
theorem dX8_isDigit_6 : decode cX8_isDigit 6 = .ok (.iload_n 0, 1) := by decide +kernel
theorem dX8_isDigit_7 : decode cX8_isDigit 7 = .ok (.bipush 57, 2) := by decide +kernel
theorem dX8_isDigit_9 : decode cX8_isDigit 9 = .ok (.if_icmp .gt 7, 3) := by decide +kernel
theorem dX8_isDigit_12 : decode cX8_isDigit 12 = .ok (.iconst 1, 1) := by decide +kernel
theorem dX8_isDigit_13 : decode cX8_isDigit 13 = .ok (.goto 4, 3) := by decide +kernel
theorem dX8_isDigit_16 : decode cX8_isDigit 16 = .ok (.iconst 0, 1) := by decide +kernel
theorem dX8_isDigit_17 : decode cX8_isDigit 17 = .ok (.ireturn, 1) := by decide +kernel
theorem dX8_scanNumber_0 : decode cX8_scanNumber 0 = .ok (.aload_n 0, 1) := by decide +kernel
theorem dX8_scanNumber_1 : decode cX8_scanNumber 1 = .ok (.iconst 0, 1) := by decide +kernel
theorem dX8_scanNumber_2 : decode cX8_scanNumber 2 = .ok (.putfield 60, 3) := by decide +kernel
theorem dX8_scanNumber_5 : decode cX8_scanNumber 5 = .ok (.aload_n 0, 1) := by decide +kernel
theorem dX8_scanNumber_6 : decode cX8_scanNumber 6 = .ok (.getfield 27, 3) := by decide +kernel
theorem dX8_scanNumber_9 : decode cX8_scanNumber 9 = .ok (.aload_n 0, 1) := by decide +kernel
theorem dX8_scanNumber_10 : decode cX8_scanNumber 10 = .ok (.getfield 19, 3) := by decide +kernel
theorem dX8_scanNumber_13 : decode cX8_scanNumber 13 = .ok (.if_icmp .ge 66, 3) := by decide +kernel
theorem dX8_scanNumber_79 : decode cX8_scanNumber 79 = .ok (.aload_n 0, 1) := by decide +kernel
theorem dX8_scanNumber_80 : decode cX8_scanNumber 80 = .ok (.aload_n 0, 1) := by decide +kernel
theorem dX8_scanNumber_81 : decode cX8_scanNumber 81 = .ok (.getfield 27, 3) := by decide +kernel
theorem dX8_scanNumber_84 : decode cX8_scanNumber 84 = .ok (.aload_n 0, 1) := by decide +kernel
theorem dX8_scanNumber_85 : decode cX8_scanNumber 85 = .ok (.getfield 33, 3) := by decide +kernel
theorem dX8_scanNumber_88 : decode cX8_scanNumber 88 = .ok (.isub, 1) := by decide +kernel
theorem dX8_scanNumber_89 : decode cX8_scanNumber 89 = .ok (.iconst 3, 1) := by decide +kernel
theorem dX8_scanNumber_90 : decode cX8_scanNumber 90 = .ok (.if_icmp .gt 7, 3) := by decide +kernel
theorem dX8_scanNumber_97 : decode cX8_scanNumber 97 = .ok (.iconst 3, 1) := by decide +kernel
theorem dX8_scanNumber_98 : decode cX8_scanNumber 98 = .ok (.putfield 40, 3) := by decide +kernel
theorem dX8_scanNumber_101 : decode cX8_scanNumber 101 = .ok (.return_, 1) := by decide +kernel
theorem dX8_scanNumber_93 : decode cX8_scanNumber 93 = .ok (.iconst 2, 1) := by decide +kernel
theorem dX8_scanNumber_94 : decode cX8_scanNumber 94 = .ok (.goto 4, 3) := by decide +kernel
theorem dX8_scanNumber_16 : decode cX8_scanNumber 16 = .ok (.aload_n 0, 1) := by decide +kernel
theorem dX8_scanNumber_17 : decode cX8_scanNumber 17 = .ok (.aload_n 0, 1) := by decide +kernel
theorem dX8_scanNumber_18 : decode cX8_scanNumber 18 = .ok (.getfield 27, 3) := by decide +kernel
theorem dX8_scanNumber_21 : decode cX8_scanNumber 21 = .ok (.invokevirtual 36, 3) := by decide +kernel
theorem dX8_scanNumber_24 : decode cX8_scanNumber 24 = .ok (.invokestatic 50, 3) := by decide +kernel
theorem dX8_scanNumber_27 : decode cX8_scanNumber 27 = .ok (.ifCond .eq 52, 3) := by decide +kernel
theorem dX8_scanNumber_30 : decode cX8_scanNumber 30 = .ok (.aload_n 0, 1) := by decide +kernel
theorem dX8_scanNumber_31 : decode cX8_scanNumber 31 = .ok (.getfield 27, 3) := by decide +kernel
theorem dX8_scanNumber_34 : decode cX8_scanNumber 34 = .ok (.aload_n 0, 1) := by decide +kernel
theorem dX8_scanNumber_35 : decode cX8_scanNumber 35 = .ok (.getfield 33, 3) := by decide +kernel
theorem dX8_scanNumber_38 : decode cX8_scanNumber 38 = .ok (.isub, 1) := by decide +kernel
theorem dX8_scanNumber_39 : decode cX8_scanNumber 39 = .ok (.iconst 3, 1) := by decide +kernel
theorem dX8_scanNumber_40 : decode cX8_scanNumber 40 = .ok (.if_icmp .ge 26, 3) := by decide +kernel
theorem dX8_scanNumber_66 : decode cX8_scanNumber 66 = .ok (.aload_n 0, 1) := by decide +kernel
theorem dX8_scanNumber_67 : decode cX8_scanNumber 67 = .ok (.dup, 1) := by decide +kernel
theorem dX8_scanNumber_68 : decode cX8_scanNumber 68 = .ok (.getfield 27, 3) := by decide +kernel
theorem dX8_scanNumber_71 : decode cX8_scanNumber 71 = .ok (.iconst 1, 1) := by decide +kernel
theorem dX8_scanNumber_72 : decode cX8_scanNumber 72 = .ok (.iadd, 1) := by decide +kernel
theorem dX8_scanNumber_73 : decode cX8_scanNumber 73 = .ok (.putfield 27, 3) := by decide +kernel
theorem dX8_scanNumber_76 : decode cX8_scanNumber 76 = .ok (.goto (-71), 3) := by decide +kernel
theorem dX8_scanNumber_43 : decode cX8_scanNumber 43 = .ok (.aload_n 0, 1) := by decide +kernel
theorem dX8_scanNumber_44 : decode cX8_scanNumber 44 = .ok (.aload_n 0, 1) := by decide +kernel
theorem dX8_scanNumber_45 : decode cX8_scanNumber 45 = .ok (.getfield 60, 3) := by decide +kernel
theorem dX8_scanNumber_48 : decode cX8_scanNumber 48 = .ok (.bipush 10, 2) := by decide +kernel
theorem dX8_scanNumber_50 : decode cX8_scanNumber 50 = .ok (.imul, 1) := by decide +kernel
theorem dX8_scanNumber_51 : decode cX8_scanNumber 51 = .ok (.aload_n 0, 1) := by decide +kernel
theorem dX8_scanNumber_52 : decode cX8_scanNumber 52 = .ok (.aload_n 0, 1) := by decide +kernel
theorem dX8_scanNumber_53 : decode cX8_scanNumber 53 = .ok (.getfield 27, 3) := by decide +kernel
theorem dX8_scanNumber_56 : decode cX8_scanNumber 56 = .ok (.invokevirtual 36, 3) := by decide +kernel
theorem dX8_scanNumber_59 : decode cX8_scanNumber 59 = .ok (.iadd, 1) := by decide +kernel
theorem dX8_scanNumber_60 : decode cX8_scanNumber 60 = .ok (.bipush 48, 2) := by decide +kernel
theorem dX8_scanNumber_62 : decode cX8_scanNumber 62 = .ok (.isub, 1) := by decide +kernel
theorem dX8_scanNumber_63 : decode cX8_scanNumber 63 = .ok (.putfield 60, 3) := by decide +kernel
theorem dX8_advance_0 : decode cX8_advance 0 = .ok (.aload_n 0, 1) := by decide +kernel
theorem dX8_advance_1 : decode cX8_advance 1 = .ok (.getfield 27, 3) := by decide +kernel
theorem dX8_advance_4 : decode cX8_advance 4 = .ok (.aload_n 0, 1) := by decide +kernel
theorem dX8_advance_5 : decode cX8_advance 5 = .ok (.getfield 19, 3) := by decide +kernel
theorem dX8_advance_8 : decode cX8_advance 8 = .ok (.if_icmp .ge 42, 3) := by decide +kernel
theorem dX8_advance_50 : decode cX8_advance 50 = .ok (.aload_n 0, 1) := by decide +kernel
theorem dX8_advance_51 : decode cX8_advance 51 = .ok (.aload_n 0, 1) := by decide +kernel
theorem dX8_advance_52 : decode cX8_advance 52 = .ok (.getfield 27, 3) := by decide +kernel
theorem dX8_advance_55 : decode cX8_advance 55 = .ok (.putfield 33, 3) := by decide +kernel
theorem dX8_advance_58 : decode cX8_advance 58 = .ok (.aload_n 0, 1) := by decide +kernel
theorem dX8_advance_59 : decode cX8_advance 59 = .ok (.aload_n 0, 1) := by decide +kernel
theorem dX8_advance_60 : decode cX8_advance 60 = .ok (.getfield 27, 3) := by decide +kernel
theorem dX8_advance_63 : decode cX8_advance 63 = .ok (.invokevirtual 36, 3) := by decide +kernel
theorem dX8_advance_66 : decode cX8_advance 66 = .ok (.istore_n 1, 1) := by decide +kernel
theorem dX8_advance_67 : decode cX8_advance 67 = .ok (.aload_n 0, 1) := by decide +kernel
theorem dX8_advance_68 : decode cX8_advance 68 = .ok (.getfield 27, 3) := by decide +kernel
theorem dX8_advance_71 : decode cX8_advance 71 = .ok (.aload_n 0, 1) := by decide +kernel
theorem dX8_advance_72 : decode cX8_advance 72 = .ok (.getfield 19, 3) := by decide +kernel
theorem dX8_advance_75 : decode cX8_advance 75 = .ok (.if_icmp .lt 11, 3) := by decide +kernel
theorem dX8_advance_78 : decode cX8_advance 78 = .ok (.aload_n 0, 1) := by decide +kernel
theorem dX8_advance_79 : decode cX8_advance 79 = .ok (.iconst 0, 1) := by decide +kernel
theorem dX8_advance_80 : decode cX8_advance 80 = .ok (.putfield 40, 3) := by decide +kernel
theorem dX8_advance_83 : decode cX8_advance 83 = .ok (.goto 68, 3) := by decide +kernel
theorem dX8_advance_151 : decode cX8_advance 151 = .ok (.return_, 1) := by decide +kernel
theorem dX8_advance_11 : decode cX8_advance 11 = .ok (.aload_n 0, 1) := by decide +kernel
theorem dX8_advance_12 : decode cX8_advance 12 = .ok (.aload_n 0, 1) := by decide +kernel
theorem dX8_advance_13 : decode cX8_advance 13 = .ok (.getfield 27, 3) := by decide +kernel
theorem dX8_advance_16 : decode cX8_advance 16 = .ok (.invokevirtual 36, 3) := by decide +kernel
theorem dX8_advance_19 : decode cX8_advance 19 = .ok (.bipush 32, 2) := by decide +kernel
theorem dX8_advance_21 : decode cX8_advance 21 = .ok (.if_icmp .eq 16, 3) := by decide +kernel
theorem dX8_advance_37 : decode cX8_advance 37 = .ok (.aload_n 0, 1) := by decide +kernel
theorem dX8_advance_38 : decode cX8_advance 38 = .ok (.dup, 1) := by decide +kernel
theorem dX8_advance_39 : decode cX8_advance 39 = .ok (.getfield 27, 3) := by decide +kernel
theorem dX8_advance_42 : decode cX8_advance 42 = .ok (.iconst 1, 1) := by decide +kernel
theorem dX8_advance_43 : decode cX8_advance 43 = .ok (.iadd, 1) := by decide +kernel
theorem dX8_advance_44 : decode cX8_advance 44 = .ok (.putfield 27, 3) := by decide +kernel
theorem dX8_advance_47 : decode cX8_advance 47 = .ok (.goto (-47), 3) := by decide +kernel
theorem dX8_advance_24 : decode cX8_advance 24 = .ok (.aload_n 0, 1) := by decide +kernel
theorem dX8_advance_25 : decode cX8_advance 25 = .ok (.aload_n 0, 1) := by decide +kernel
theorem dX8_advance_26 : decode cX8_advance 26 = .ok (.getfield 27, 3) := by decide +kernel
theorem dX8_advance_29 : decode cX8_advance 29 = .ok (.invokevirtual 36, 3) := by decide +kernel
theorem dX8_advance_32 : decode cX8_advance 32 = .ok (.bipush 10, 2) := by decide +kernel
theorem dX8_advance_34 : decode cX8_advance 34 = .ok (.if_icmp .ne 16, 3) := by decide +kernel
theorem dX8_advance_86 : decode cX8_advance 86 = .ok (.iload_n 1, 1) := by decide +kernel
theorem dX8_advance_87 : decode cX8_advance 87 = .ok (.invokestatic 43, 3) := by decide +kernel
theorem dX8_advance_90 : decode cX8_advance 90 = .ok (.ifCond .eq 10, 3) := by decide +kernel
theorem dX8_advance_100 : decode cX8_advance 100 = .ok (.iload_n 1, 1) := by decide +kernel
theorem dX8_advance_101 : decode cX8_advance 101 = .ok (.invokestatic 50, 3) := by decide +kernel
theorem dX8_advance_104 : decode cX8_advance 104 = .ok (.ifCond .eq 10, 3) := by decide +kernel
theorem dX8_advance_114 : decode cX8_advance 114 = .ok (.aload_n 0, 1) := by decide +kernel
theorem dX8_advance_115 : decode cX8_advance 115 = .ok (.iload_n 1, 1) := by decide +kernel
theorem dX8_advance_116 : decode cX8_advance 116 = .ok (.bipush 59, 2) := by decide +kernel
theorem dX8_advance_118 : decode cX8_advance 118 = .ok (.if_icmp .eq 15, 3) := by decide +kernel
theorem dX8_advance_133 : decode cX8_advance 133 = .ok (.iload_n 1, 1) := by decide +kernel
theorem dX8_advance_134 : decode cX8_advance 134 = .ok (.goto 4, 3) := by decide +kernel
theorem dX8_advance_138 : decode cX8_advance 138 = .ok (.putfield 40, 3) := by decide +kernel
theorem dX8_advance_141 : decode cX8_advance 141 = .ok (.aload_n 0, 1) := by decide +kernel
theorem dX8_advance_142 : decode cX8_advance 142 = .ok (.dup, 1) := by decide +kernel
theorem dX8_advance_143 : decode cX8_advance 143 = .ok (.getfield 27, 3) := by decide +kernel
theorem dX8_advance_146 : decode cX8_advance 146 = .ok (.iconst 1, 1) := by decide +kernel
theorem dX8_advance_147 : decode cX8_advance 147 = .ok (.iadd, 1) := by decide +kernel
theorem dX8_advance_148 : decode cX8_advance 148 = .ok (.putfield 27, 3) := by decide +kernel
theorem dX8_advance_121 : decode cX8_advance 121 = .ok (.iload_n 1, 1) := by decide +kernel
theorem dX8_advance_122 : decode cX8_advance 122 = .ok (.bipush 40, 2) := by decide +kernel
theorem dX8_advance_124 : decode cX8_advance 124 = .ok (.if_icmp .eq 9, 3) := by decide +kernel
theorem dX8_advance_127 : decode cX8_advance 127 = .ok (.iload_n 1, 1) := by decide +kernel
theorem dX8_advance_128 : decode cX8_advance 128 = .ok (.bipush 41, 2) := by decide +kernel
theorem dX8_advance_130 : decode cX8_advance 130 = .ok (.if_icmp .ne 7, 3) := by decide +kernel
theorem dX8_advance_137 : decode cX8_advance 137 = .ok (.iconst 3, 1) := by decide +kernel
theorem dX8_advance_107 : decode cX8_advance 107 = .ok (.aload_n 0, 1) := by decide +kernel
theorem dX8_advance_108 : decode cX8_advance 108 = .ok (.invokevirtual 53, 3) := by decide +kernel
theorem dX8_advance_111 : decode cX8_advance 111 = .ok (.goto 40, 3) := by decide +kernel
theorem dX8_advance_93 : decode cX8_advance 93 = .ok (.aload_n 0, 1) := by decide +kernel
theorem dX8_advance_94 : decode cX8_advance 94 = .ok (.invokevirtual 47, 3) := by decide +kernel
theorem dX8_advance_97 : decode cX8_advance 97 = .ok (.goto 54, 3) := by decide +kernel
theorem dX8_begin_0 : decode cX8_begin 0 = .ok (.aload_n 0, 1) := by decide +kernel
theorem dX8_begin_1 : decode cX8_begin 1 = .ok (.iconst 0, 1) := by decide +kernel
theorem dX8_begin_2 : decode cX8_begin 2 = .ok (.putfield 24, 3) := by decide +kernel
theorem dX8_begin_5 : decode cX8_begin 5 = .ok (.aload_n 0, 1) := by decide +kernel
theorem dX8_begin_6 : decode cX8_begin 6 = .ok (.iconst (-1), 1) := by decide +kernel
theorem dX8_begin_7 : decode cX8_begin 7 = .ok (.putfield 15, 3) := by decide +kernel
theorem dX8_begin_10 : decode cX8_begin 10 = .ok (.aload_n 0, 1) := by decide +kernel
theorem dX8_begin_11 : decode cX8_begin 11 = .ok (.iconst 0, 1) := by decide +kernel
theorem dX8_begin_12 : decode cX8_begin 12 = .ok (.putfield 27, 3) := by decide +kernel
theorem dX8_begin_15 : decode cX8_begin 15 = .ok (.aload_n 0, 1) := by decide +kernel
theorem dX8_begin_16 : decode cX8_begin 16 = .ok (.invokevirtual 30, 3) := by decide +kernel
theorem dX8_begin_19 : decode cX8_begin 19 = .ok (.return_, 1) := by decide +kernel
theorem dX8_isAtEnd_0 : decode cX8_isAtEnd 0 = .ok (.aload_n 0, 1) := by decide +kernel
theorem dX8_isAtEnd_1 : decode cX8_isAtEnd 1 = .ok (.getfield 40, 3) := by decide +kernel
theorem dX8_isAtEnd_4 : decode cX8_isAtEnd 4 = .ok (.ifCond .ne 7, 3) := by decide +kernel
theorem dX8_isAtEnd_11 : decode cX8_isAtEnd 11 = .ok (.iconst 0, 1) := by decide +kernel
theorem dX8_isAtEnd_7 : decode cX8_isAtEnd 7 = .ok (.iconst 1, 1) := by decide +kernel
theorem dX8_isAtEnd_8 : decode cX8_isAtEnd 8 = .ok (.goto 4, 3) := by decide +kernel
theorem dX8_isAtEnd_12 : decode cX8_isAtEnd 12 = .ok (.ireturn, 1) := by decide +kernel
theorem dX8_isMark_0 : decode cX8_isMark 0 = .ok (.aload_n 0, 1) := by decide +kernel
theorem dX8_isMark_1 : decode cX8_isMark 1 = .ok (.getfield 40, 3) := by decide +kernel
theorem dX8_isMark_4 : decode cX8_isMark 4 = .ok (.iload_n 1, 1) := by decide +kernel
theorem dX8_isMark_5 : decode cX8_isMark 5 = .ok (.if_icmp .ne 7, 3) := by decide +kernel
theorem dX8_isMark_12 : decode cX8_isMark 12 = .ok (.iconst 0, 1) := by decide +kernel
theorem dX8_isMark_8 : decode cX8_isMark 8 = .ok (.iconst 1, 1) := by decide +kernel
theorem dX8_isMark_9 : decode cX8_isMark 9 = .ok (.goto 4, 3) := by decide +kernel
theorem dX8_isMark_13 : decode cX8_isMark 13 = .ok (.ireturn, 1) := by decide +kernel
