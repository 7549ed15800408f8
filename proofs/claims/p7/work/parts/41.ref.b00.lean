theorem dX12_wrong_0 : decode cX12_wrong 0 = .ok (.aload_n 0, 1) := by decide +kernel
theorem dX12_wrong_1 : decode cX12_wrong 1 = .ok (.getfield 127, 3) := by decide +kernel
theorem dX12_wrong_4 : decode cX12_wrong 4 = .ok (.ifCond .le 4, 3) := by decide +kernel
theorem dX12_wrong_8 : decode cX12_wrong 8 = .ok (.aload_n 0, 1) := by decide +kernel
theorem dX12_wrong_9 : decode cX12_wrong 9 = .ok (.aload_n 0, 1) := by decide +kernel
theorem dX12_wrong_10 : decode cX12_wrong 10 = .ok (.getfield 117, 3) := by decide +kernel
theorem dX12_wrong_13 : decode cX12_wrong 13 = .ok (.iconst 4, 1) := by decide +kernel
theorem dX12_wrong_14 : decode cX12_wrong 14 = .ok (.if_icmp .ne 7, 3) := by decide +kernel
theorem dX12_wrong_21 : decode cX12_wrong 21 = .ok (.iload_n 1, 1) := by decide +kernel
theorem dX12_wrong_22 : decode cX12_wrong 22 = .ok (.putfield 127, 3) := by decide +kernel
theorem dX12_wrong_25 : decode cX12_wrong 25 = .ok (.aload_n 0, 1) := by decide +kernel
theorem dX12_wrong_26 : decode cX12_wrong 26 = .ok (.aload_n 0, 1) := by decide +kernel
theorem dX12_wrong_27 : decode cX12_wrong 27 = .ok (.getfield 107, 3) := by decide +kernel
theorem dX12_wrong_30 : decode cX12_wrong 30 = .ok (.putfield 13, 3) := by decide +kernel
theorem dX12_wrong_33 : decode cX12_wrong 33 = .ok (.return_, 1) := by decide +kernel
theorem dX12_wrong_17 : decode cX12_wrong 17 = .ok (.iconst 1, 1) := by decide +kernel
theorem dX12_wrong_18 : decode cX12_wrong 18 = .ok (.goto 4, 3) := by decide +kernel
theorem dX12_wrong_7 : decode cX12_wrong 7 = .ok (.return_, 1) := by decide +kernel
theorem dX12_isGood_0 : decode cX12_isGood 0 = .ok (.aload_n 0, 1) := by decide +kernel
theorem dX12_isGood_1 : decode cX12_isGood 1 = .ok (.getfield 127, 3) := by decide +kernel
theorem dX12_isGood_4 : decode cX12_isGood 4 = .ok (.ifCond .ne 7, 3) := by decide +kernel
theorem dX12_isGood_7 : decode cX12_isGood 7 = .ok (.iconst 1, 1) := by decide +kernel
theorem dX12_isGood_8 : decode cX12_isGood 8 = .ok (.goto 4, 3) := by decide +kernel
theorem dX12_isGood_12 : decode cX12_isGood 12 = .ok (.ireturn, 1) := by decide +kernel
theorem dX12_isGood_11 : decode cX12_isGood 11 = .ok (.iconst 0, 1) := by decide +kernel
theorem dX12_isWord_0 : decode cX12_isWord 0 = .ok (.aload_n 0, 1) := by decide +kernel
theorem dX12_isWord_1 : decode cX12_isWord 1 = .ok (.getfield 127, 3) := by decide +kernel
theorem dX12_isWord_4 : decode cX12_isWord 4 = .ok (.ifCond .ne 24, 3) := by decide +kernel
theorem dX12_isWord_7 : decode cX12_isWord 7 = .ok (.aload_n 0, 1) := by decide +kernel
theorem dX12_isWord_8 : decode cX12_isWord 8 = .ok (.getfield 117, 3) := by decide +kernel
theorem dX12_isWord_11 : decode cX12_isWord 11 = .ok (.iconst 1, 1) := by decide +kernel
theorem dX12_isWord_12 : decode cX12_isWord 12 = .ok (.if_icmp .ne 16, 3) := by decide +kernel
theorem dX12_isWord_28 : decode cX12_isWord 28 = .ok (.iconst 0, 1) := by decide +kernel
theorem dX12_isWord_29 : decode cX12_isWord 29 = .ok (.ireturn, 1) := by decide +kernel
theorem dX12_isWord_15 : decode cX12_isWord 15 = .ok (.aload_n 0, 1) := by decide +kernel
theorem dX12_isWord_16 : decode cX12_isWord 16 = .ok (.getfield 110, 3) := by decide +kernel
theorem dX12_isWord_19 : decode cX12_isWord 19 = .ok (.lload_n 1, 1) := by decide +kernel
theorem dX12_isWord_20 : decode cX12_isWord 20 = .ok (.lcmp, 1) := by decide +kernel
theorem dX12_isWord_21 : decode cX12_isWord 21 = .ok (.ifCond .ne 7, 3) := by decide +kernel
theorem dX12_isWord_24 : decode cX12_isWord 24 = .ok (.iconst 1, 1) := by decide +kernel
theorem dX12_isWord_25 : decode cX12_isWord 25 = .ok (.goto 4, 3) := by decide +kernel
theorem dX12_isSign_0 : decode cX12_isSign 0 = .ok (.aload_n 0, 1) := by decide +kernel
theorem dX12_isSign_1 : decode cX12_isSign 1 = .ok (.getfield 127, 3) := by decide +kernel
theorem dX12_isSign_4 : decode cX12_isSign 4 = .ok (.ifCond .ne 23, 3) := by decide +kernel
theorem dX12_isSign_7 : decode cX12_isSign 7 = .ok (.aload_n 0, 1) := by decide +kernel
theorem dX12_isSign_8 : decode cX12_isSign 8 = .ok (.getfield 117, 3) := by decide +kernel
theorem dX12_isSign_11 : decode cX12_isSign 11 = .ok (.iconst 3, 1) := by decide +kernel
theorem dX12_isSign_12 : decode cX12_isSign 12 = .ok (.if_icmp .ne 15, 3) := by decide +kernel
theorem dX12_isSign_27 : decode cX12_isSign 27 = .ok (.iconst 0, 1) := by decide +kernel
theorem dX12_isSign_28 : decode cX12_isSign 28 = .ok (.ireturn, 1) := by decide +kernel
theorem dX12_isSign_15 : decode cX12_isSign 15 = .ok (.aload_n 0, 1) := by decide +kernel
theorem dX12_isSign_16 : decode cX12_isSign 16 = .ok (.getfield 114, 3) := by decide +kernel
theorem dX12_isSign_19 : decode cX12_isSign 19 = .ok (.iload_n 1, 1) := by decide +kernel
theorem dX12_isSign_20 : decode cX12_isSign 20 = .ok (.if_icmp .ne 7, 3) := by decide +kernel
theorem dX12_isSign_23 : decode cX12_isSign 23 = .ok (.iconst 1, 1) := by decide +kernel
theorem dX12_isSign_24 : decode cX12_isSign 24 = .ok (.goto 4, 3) := by decide +kernel
theorem dX12_mustSign_0 : decode cX12_mustSign 0 = .ok (.aload_n 0, 1) := by decide +kernel
theorem dX12_mustSign_1 : decode cX12_mustSign 1 = .ok (.invokevirtual 130, 3) := by decide +kernel
theorem dX12_mustSign_4 : decode cX12_mustSign 4 = .ok (.ifCond .eq 16, 3) := by decide +kernel
theorem dX12_mustSign_7 : decode cX12_mustSign 7 = .ok (.aload_n 0, 1) := by decide +kernel
theorem dX12_mustSign_8 : decode cX12_mustSign 8 = .ok (.iload_n 1, 1) := by decide +kernel
theorem dX12_mustSign_9 : decode cX12_mustSign 9 = .ok (.invokevirtual 134, 3) := by decide +kernel
theorem dX12_mustSign_12 : decode cX12_mustSign 12 = .ok (.ifCond .ne 8, 3) := by decide +kernel
theorem dX12_mustSign_20 : decode cX12_mustSign 20 = .ok (.aload_n 0, 1) := by decide +kernel
theorem dX12_mustSign_21 : decode cX12_mustSign 21 = .ok (.invokevirtual 130, 3) := by decide +kernel
theorem dX12_mustSign_24 : decode cX12_mustSign 24 = .ok (.ifCond .eq 7, 3) := by decide +kernel
theorem dX12_mustSign_27 : decode cX12_mustSign 27 = .ok (.aload_n 0, 1) := by decide +kernel
theorem dX12_mustSign_28 : decode cX12_mustSign 28 = .ok (.invokevirtual 140, 3) := by decide +kernel
theorem dX12_mustSign_31 : decode cX12_mustSign 31 = .ok (.return_, 1) := by decide +kernel
theorem dX12_mustSign_15 : decode cX12_mustSign 15 = .ok (.aload_n 0, 1) := by decide +kernel
theorem dX12_mustSign_16 : decode cX12_mustSign 16 = .ok (.iconst 1, 1) := by decide +kernel
theorem dX12_mustSign_17 : decode cX12_mustSign 17 = .ok (.invokevirtual 137, 3) := by decide +kernel
theorem dX12_mustWord_0 : decode cX12_mustWord 0 = .ok (.aload_n 0, 1) := by decide +kernel
theorem dX12_mustWord_1 : decode cX12_mustWord 1 = .ok (.invokevirtual 130, 3) := by decide +kernel
theorem dX12_mustWord_4 : decode cX12_mustWord 4 = .ok (.ifCond .eq 16, 3) := by decide +kernel
theorem dX12_mustWord_7 : decode cX12_mustWord 7 = .ok (.aload_n 0, 1) := by decide +kernel
theorem dX12_mustWord_8 : decode cX12_mustWord 8 = .ok (.lload_n 1, 1) := by decide +kernel
theorem dX12_mustWord_9 : decode cX12_mustWord 9 = .ok (.invokevirtual 143, 3) := by decide +kernel
theorem dX12_mustWord_12 : decode cX12_mustWord 12 = .ok (.ifCond .ne 8, 3) := by decide +kernel
theorem dX12_mustWord_20 : decode cX12_mustWord 20 = .ok (.aload_n 0, 1) := by decide +kernel
theorem dX12_mustWord_21 : decode cX12_mustWord 21 = .ok (.invokevirtual 130, 3) := by decide +kernel
theorem dX12_mustWord_24 : decode cX12_mustWord 24 = .ok (.ifCond .eq 7, 3) := by decide +kernel
theorem dX12_mustWord_27 : decode cX12_mustWord 27 = .ok (.aload_n 0, 1) := by decide +kernel
theorem dX12_mustWord_28 : decode cX12_mustWord 28 = .ok (.invokevirtual 140, 3) := by decide +kernel
theorem dX12_mustWord_31 : decode cX12_mustWord 31 = .ok (.return_, 1) := by decide +kernel
theorem dX12_mustWord_15 : decode cX12_mustWord 15 = .ok (.aload_n 0, 1) := by decide +kernel
theorem dX12_mustWord_16 : decode cX12_mustWord 16 = .ok (.iconst 1, 1) := by decide +kernel
theorem dX12_mustWord_17 : decode cX12_mustWord 17 = .ok (.invokevirtual 137, 3) := by decide +kernel
theorem dX12_looks_0 : decode cX12_looks 0 = .ok (.aload_n 0, 1) := by decide +kernel
theorem dX12_looks_1 : decode cX12_looks 1 = .ok (.invokevirtual 130, 3) := by decide +kernel
theorem dX12_looks_4 : decode cX12_looks 4 = .ok (.ifCond .eq 16, 3) := by decide +kernel
theorem dX12_looks_7 : decode cX12_looks 7 = .ok (.aload_n 0, 1) := by decide +kernel
theorem dX12_looks_8 : decode cX12_looks 8 = .ok (.getfield 117, 3) := by decide +kernel
theorem dX12_looks_11 : decode cX12_looks 11 = .ok (.iconst 2, 1) := by decide +kernel
theorem dX12_looks_12 : decode cX12_looks 12 = .ok (.if_icmp .eq 8, 3) := by decide +kernel
theorem dX12_looks_20 : decode cX12_looks 20 = .ok (.aload_n 0, 1) := by decide +kernel
theorem dX12_looks_21 : decode cX12_looks 21 = .ok (.invokevirtual 130, 3) := by decide +kernel
theorem dX12_looks_24 : decode cX12_looks 24 = .ok (.ifCond .eq 23, 3) := by decide +kernel
theorem dX12_looks_27 : decode cX12_looks 27 = .ok (.aload_n 0, 1) := by decide +kernel
theorem dX12_looks_28 : decode cX12_looks 28 = .ok (.getfield 114, 3) := by decide +kernel
theorem dX12_looks_31 : decode cX12_looks 31 = .ok (.i2l, 1) := by decide +kernel
theorem dX12_looks_32 : decode cX12_looks 32 = .ok (.iload_n 1, 1) := by decide +kernel
theorem dX12_looks_33 : decode cX12_looks 33 = .ok (.i2l, 1) := by decide +kernel
theorem dX12_looks_34 : decode cX12_looks 34 = .ok (.iload_n 2, 1) := by decide +kernel
theorem dX12_looks_35 : decode cX12_looks 35 = .ok (.i2l, 1) := by decide +kernel
theorem dX12_looks_36 : decode cX12_looks 36 = .ok (.invokestatic 93, 3) := by decide +kernel
theorem dX12_looks_39 : decode cX12_looks 39 = .ok (.ifCond .ne 8, 3) := by decide +kernel
theorem dX12_looks_47 : decode cX12_looks 47 = .ok (.aload_n 0, 1) := by decide +kernel
theorem dX12_looks_48 : decode cX12_looks 48 = .ok (.getfield 114, 3) := by decide +kernel
theorem dX12_looks_51 : decode cX12_looks 51 = .ok (.ireturn, 1) := by decide +kernel
theorem dX12_looks_42 : decode cX12_looks 42 = .ok (.aload_n 0, 1) := by decide +kernel
theorem dX12_looks_43 : decode cX12_looks 43 = .ok (.iconst 2, 1) := by decide +kernel
theorem dX12_looks_44 : decode cX12_looks 44 = .ok (.invokevirtual 137, 3) := by decide +kernel
theorem dX12_looks_15 : decode cX12_looks 15 = .ok (.aload_n 0, 1) := by decide +kernel
theorem dX12_looks_16 : decode cX12_looks 16 = .ok (.iconst 1, 1) := by decide +kernel
theorem dX12_looks_17 : decode cX12_looks 17 = .ok (.invokevirtual 137, 3) := by decide +kernel
theorem dX12_number_0 : decode cX12_number 0 = .ok (.aload_n 0, 1) := by decide +kernel
theorem dX12_number_1 : decode cX12_number 1 = .ok (.iload_n 1, 1) := by decide +kernel
theorem dX12_number_2 : decode cX12_number 2 = .ok (.iload_n 2, 1) := by decide +kernel
theorem dX12_number_3 : decode cX12_number 3 = .ok (.invokevirtual 147, 3) := by decide +kernel
theorem dX12_number_6 : decode cX12_number 6 = .ok (.istore_n 3, 1) := by decide +kernel
theorem dX12_number_7 : decode cX12_number 7 = .ok (.aload_n 0, 1) := by decide +kernel
theorem dX12_number_8 : decode cX12_number 8 = .ok (.invokevirtual 130, 3) := by decide +kernel
theorem dX12_number_11 : decode cX12_number 11 = .ok (.ifCond .eq 7, 3) := by decide +kernel
theorem dX12_number_14 : decode cX12_number 14 = .ok (.aload_n 0, 1) := by decide +kernel
theorem dX12_number_15 : decode cX12_number 15 = .ok (.invokevirtual 140, 3) := by decide +kernel
theorem dX12_number_18 : decode cX12_number 18 = .ok (.iload_n 3, 1) := by decide +kernel
theorem dX12_number_19 : decode cX12_number 19 = .ok (.ireturn, 1) := by decide +kernel
theorem dX12_beginsText_0 : decode cX12_beginsText 0 = .ok (.aload_n 0, 1) := by decide +kernel
theorem dX12_beginsText_1 : decode cX12_beginsText 1 = .ok (.aload_n 0, 1) := by decide +kernel
theorem dX12_beginsText_2 : decode cX12_beginsText 2 = .ok (.getfield 82, 3) := by decide +kernel
theorem dX12_beginsText_5 : decode cX12_beginsText 5 = .ok (.putfield 100, 3) := by decide +kernel
theorem dX12_beginsText_8 : decode cX12_beginsText 8 = .ok (.aload_n 0, 1) := by decide +kernel
theorem dX12_beginsText_9 : decode cX12_beginsText 9 = .ok (.iconst 0, 1) := by decide +kernel
theorem dX12_beginsText_10 : decode cX12_beginsText 10 = .ok (.putfield 82, 3) := by decide +kernel
theorem dX12_beginsText_13 : decode cX12_beginsText 13 = .ok (.aload_n 0, 1) := by decide +kernel
theorem dX12_beginsText_14 : decode cX12_beginsText 14 = .ok (.iconst 0, 1) := by decide +kernel
theorem dX12_beginsText_15 : decode cX12_beginsText 15 = .ok (.putfield 97, 3) := by decide +kernel
theorem dX12_beginsText_18 : decode cX12_beginsText 18 = .ok (.aload_n 0, 1) := by decide +kernel
theorem dX12_beginsText_19 : decode cX12_beginsText 19 = .ok (.iconst 0, 1) := by decide +kernel
theorem dX12_beginsText_20 : decode cX12_beginsText 20 = .ok (.putfield 127, 3) := by decide +kernel
theorem dX12_beginsText_23 : decode cX12_beginsText 23 = .ok (.aload_n 0, 1) := by decide +kernel
theorem dX12_beginsText_24 : decode cX12_beginsText 24 = .ok (.iconst (-1), 1) := by decide +kernel
theorem dX12_beginsText_25 : decode cX12_beginsText 25 = .ok (.putfield 13, 3) := by decide +kernel
theorem dX12_beginsText_28 : decode cX12_beginsText 28 = .ok (.aload_n 0, 1) := by decide +kernel
theorem dX12_beginsText_29 : decode cX12_beginsText 29 = .ok (.invokevirtual 140, 3) := by decide +kernel
theorem dX12_beginsText_32 : decode cX12_beginsText 32 = .ok (.return_, 1) := by decide +kernel
theorem dX12_endsText_0 : decode cX12_endsText 0 = .ok (.aload_n 0, 1) := by decide +kernel
theorem dX12_endsText_1 : decode cX12_endsText 1 = .ok (.aload_n 0, 1) := by decide +kernel
theorem dX12_endsText_2 : decode cX12_endsText 2 = .ok (.getfield 127, 3) := by decide +kernel
theorem dX12_endsText_5 : decode cX12_endsText 5 = .ok (.putfield 151, 3) := by decide +kernel
theorem dX12_endsText_8 : decode cX12_endsText 8 = .ok (.aload_n 0, 1) := by decide +kernel
theorem dX12_endsText_9 : decode cX12_endsText 9 = .ok (.aload_n 0, 1) := by decide +kernel
theorem dX12_endsText_10 : decode cX12_endsText 10 = .ok (.getfield 13, 3) := by decide +kernel
theorem dX12_endsText_13 : decode cX12_endsText 13 = .ok (.putfield 17, 3) := by decide +kernel
theorem dX12_endsText_16 : decode cX12_endsText 16 = .ok (.aload_n 0, 1) := by decide +kernel
theorem dX12_endsText_17 : decode cX12_endsText 17 = .ok (.aload_n 0, 1) := by decide +kernel
theorem dX12_endsText_18 : decode cX12_endsText 18 = .ok (.getfield 127, 3) := by decide +kernel
theorem dX12_endsText_21 : decode cX12_endsText 21 = .ok (.ifCond .ne 7, 3) := by decide +kernel
theorem dX12_endsText_24 : decode cX12_endsText 24 = .ok (.iconst 1, 1) := by decide +kernel
theorem dX12_endsText_25 : decode cX12_endsText 25 = .ok (.goto 4, 3) := by decide +kernel
theorem dX12_endsText_29 : decode cX12_endsText 29 = .ok (.invokevirtual 85, 3) := by decide +kernel
theorem dX12_endsText_32 : decode cX12_endsText 32 = .ok (.ireturn, 1) := by decide +kernel
theorem dX12_endsText_28 : decode cX12_endsText 28 = .ok (.iconst 0, 1) := by decide +kernel
theorem dX12_mustBeWord_0 : decode cX12_mustBeWord 0 = .ok (.aload_n 0, 1) := by decide +kernel
theorem dX12_mustBeWord_1 : decode cX12_mustBeWord 1 = .ok (.invokevirtual 130, 3) := by decide +kernel
theorem dX12_mustBeWord_4 : decode cX12_mustBeWord 4 = .ok (.ifCond .eq 16, 3) := by decide +kernel
theorem dX12_mustBeWord_7 : decode cX12_mustBeWord 7 = .ok (.aload_n 0, 1) := by decide +kernel
theorem dX12_mustBeWord_8 : decode cX12_mustBeWord 8 = .ok (.getfield 117, 3) := by decide +kernel
theorem dX12_mustBeWord_11 : decode cX12_mustBeWord 11 = .ok (.iconst 1, 1) := by decide +kernel
theorem dX12_mustBeWord_12 : decode cX12_mustBeWord 12 = .ok (.if_icmp .eq 8, 3) := by decide +kernel
theorem dX12_mustBeWord_20 : decode cX12_mustBeWord 20 = .ok (.return_, 1) := by decide +kernel
theorem dX12_mustBeWord_15 : decode cX12_mustBeWord 15 = .ok (.aload_n 0, 1) := by decide +kernel
theorem dX12_mustBeWord_16 : decode cX12_mustBeWord 16 = .ok (.iconst 1, 1) := by decide +kernel
theorem dX12_mustBeWord_17 : decode cX12_mustBeWord 17 = .ok (.invokevirtual 137, 3) := by decide +kernel
theorem dX12_named_0 : decode cX12_named 0 = .ok (.iconst (-1), 1) := by decide +kernel
theorem dX12_named_1 : decode cX12_named 1 = .ok (.istore_n 1, 1) := by decide +kernel
theorem dX12_named_2 : decode cX12_named 2 = .ok (.iconst 0, 1) := by decide +kernel
theorem dX12_named_3 : decode cX12_named 3 = .ok (.istore_n 2, 1) := by decide +kernel
theorem dX12_named_4 : decode cX12_named 4 = .ok (.iload_n 2, 1) := by decide +kernel
theorem dX12_named_5 : decode cX12_named 5 = .ok (.aload_n 0, 1) := by decide +kernel
theorem dX12_named_6 : decode cX12_named 6 = .ok (.getfield 20, 3) := by decide +kernel
theorem dX12_named_9 : decode cX12_named 9 = .ok (.iconst 0, 1) := by decide +kernel
theorem dX12_named_10 : decode cX12_named 10 = .ok (.iaload, 1) := by decide +kernel
theorem dX12_named_11 : decode cX12_named 11 = .ok (.if_icmp .ge 29, 3) := by decide +kernel
theorem dX12_named_40 : decode cX12_named 40 = .ok (.iload_n 1, 1) := by decide +kernel
theorem dX12_named_41 : decode cX12_named 41 = .ok (.ireturn, 1) := by decide +kernel
theorem dX12_named_14 : decode cX12_named 14 = .ok (.aload_n 0, 1) := by decide +kernel
theorem dX12_named_15 : decode cX12_named 15 = .ok (.getfield 35, 3) := by decide +kernel
theorem dX12_named_18 : decode cX12_named 18 = .ok (.iload_n 2, 1) := by decide +kernel
theorem dX12_named_19 : decode cX12_named 19 = .ok (.laload, 1) := by decide +kernel
theorem dX12_named_20 : decode cX12_named 20 = .ok (.aload_n 0, 1) := by decide +kernel
theorem dX12_named_21 : decode cX12_named 21 = .ok (.getfield 110, 3) := by decide +kernel
theorem dX12_named_24 : decode cX12_named 24 = .ok (.lcmp, 1) := by decide +kernel
theorem dX12_named_25 : decode cX12_named 25 = .ok (.ifCond .ne 7, 3) := by decide +kernel
theorem dX12_named_32 : decode cX12_named 32 = .ok (.iload_n 1, 1) := by decide +kernel
theorem dX12_named_33 : decode cX12_named 33 = .ok (.istore_n 1, 1) := by decide +kernel
theorem dX12_named_34 : decode cX12_named 34 = .ok (.iinc 2 1, 3) := by decide +kernel
theorem dX12_named_37 : decode cX12_named 37 = .ok (.goto (-33), 3) := by decide +kernel
theorem dX12_named_28 : decode cX12_named 28 = .ok (.iload_n 2, 1) := by decide +kernel
theorem dX12_named_29 : decode cX12_named 29 = .ok (.goto 4, 3) := by decide +kernel
theorem dX12_told_0 : decode cX12_told 0 = .ok (.aload_n 0, 1) := by decide +kernel
theorem dX12_told_1 : decode cX12_told 1 = .ok (.invokevirtual 175, 3) := by decide +kernel
theorem dX12_told_4 : decode cX12_told 4 = .ok (.aload_n 0, 1) := by decide +kernel
theorem dX12_told_5 : decode cX12_told 5 = .ok (.invokevirtual 130, 3) := by decide +kernel
theorem dX12_told_8 : decode cX12_told 8 = .ok (.ifCond .eq 10, 3) := by decide +kernel
theorem dX12_told_11 : decode cX12_told 11 = .ok (.aload_n 0, 1) := by decide +kernel
theorem dX12_told_12 : decode cX12_told 12 = .ok (.invokevirtual 178, 3) := by decide +kernel
theorem dX12_told_15 : decode cX12_told 15 = .ok (.goto 4, 3) := by decide +kernel
theorem dX12_told_19 : decode cX12_told 19 = .ok (.istore_n 1, 1) := by decide +kernel
theorem dX12_told_20 : decode cX12_told 20 = .ok (.aload_n 0, 1) := by decide +kernel
theorem dX12_told_21 : decode cX12_told 21 = .ok (.invokevirtual 130, 3) := by decide +kernel
theorem dX12_told_24 : decode cX12_told 24 = .ok (.ifCond .eq 13, 3) := by decide +kernel
theorem dX12_told_27 : decode cX12_told 27 = .ok (.iload_n 1, 1) := by decide +kernel
theorem dX12_told_28 : decode cX12_told 28 = .ok (.iconst (-1), 1) := by decide +kernel
theorem dX12_told_29 : decode cX12_told 29 = .ok (.if_icmp .ne 8, 3) := by decide +kernel
theorem dX12_told_37 : decode cX12_told 37 = .ok (.aload_n 0, 1) := by decide +kernel
theorem dX12_told_38 : decode cX12_told 38 = .ok (.invokevirtual 130, 3) := by decide +kernel
theorem dX12_told_41 : decode cX12_told 41 = .ok (.ifCond .eq 7, 3) := by decide +kernel
theorem dX12_told_44 : decode cX12_told 44 = .ok (.aload_n 0, 1) := by decide +kernel
theorem dX12_told_45 : decode cX12_told 45 = .ok (.invokevirtual 140, 3) := by decide +kernel
theorem dX12_told_48 : decode cX12_told 48 = .ok (.iload_n 1, 1) := by decide +kernel
theorem dX12_told_49 : decode cX12_told 49 = .ok (.ireturn, 1) := by decide +kernel
theorem dX12_told_32 : decode cX12_told 32 = .ok (.aload_n 0, 1) := by decide +kernel
theorem dX12_told_33 : decode cX12_told 33 = .ok (.iconst 4, 1) := by decide +kernel
theorem dX12_told_34 : decode cX12_told 34 = .ok (.invokevirtual 137, 3) := by decide +kernel
theorem dX12_told_18 : decode cX12_told 18 = .ok (.iconst (-1), 1) := by decide +kernel
theorem dX12_once_0 : decode cX12_once 0 = .ok (.aload_n 0, 1) := by decide +kernel
theorem dX12_once_1 : decode cX12_once 1 = .ok (.getfield 182, 3) := by decide +kernel
theorem dX12_once_4 : decode cX12_once 4 = .ok (.iload_n 1, 1) := by decide +kernel
theorem dX12_once_5 : decode cX12_once 5 = .ok (.invokestatic 185, 3) := by decide +kernel
theorem dX12_once_8 : decode cX12_once 8 = .ok (.ifCond .eq 8, 3) := by decide +kernel
theorem dX12_once_16 : decode cX12_once 16 = .ok (.aload_n 0, 1) := by decide +kernel
theorem dX12_once_17 : decode cX12_once 17 = .ok (.dup, 1) := by decide +kernel
theorem dX12_once_18 : decode cX12_once 18 = .ok (.getfield 182, 3) := by decide +kernel
theorem dX12_once_21 : decode cX12_once 21 = .ok (.iconst 1, 1) := by decide +kernel
theorem dX12_once_22 : decode cX12_once 22 = .ok (.iload_n 1, 1) := by decide +kernel
theorem dX12_once_23 : decode cX12_once 23 = .ok (.ishl, 1) := by decide +kernel
theorem dX12_once_24 : decode cX12_once 24 = .ok (.ior, 1) := by decide +kernel
theorem dX12_once_25 : decode cX12_once 25 = .ok (.putfield 182, 3) := by decide +kernel
theorem dX12_once_28 : decode cX12_once 28 = .ok (.aload_n 0, 1) := by decide +kernel
theorem dX12_once_29 : decode cX12_once 29 = .ok (.invokevirtual 130, 3) := by decide +kernel
theorem dX12_once_32 : decode cX12_once 32 = .ok (.ifCond .eq 7, 3) := by decide +kernel
theorem dX12_once_35 : decode cX12_once 35 = .ok (.aload_n 0, 1) := by decide +kernel
theorem dX12_once_36 : decode cX12_once 36 = .ok (.invokevirtual 140, 3) := by decide +kernel
theorem dX12_once_39 : decode cX12_once 39 = .ok (.return_, 1) := by decide +kernel
theorem dX12_once_11 : decode cX12_once 11 = .ok (.aload_n 0, 1) := by decide +kernel
theorem dX12_once_12 : decode cX12_once 12 = .ok (.iconst 3, 1) := by decide +kernel
theorem dX12_once_13 : decode cX12_once 13 = .ok (.invokevirtual 137, 3) := by decide +kernel
theorem dX12_after_0 : decode cX12_after 0 = .ok (.aload_n 0, 1) := by decide +kernel
theorem dX12_after_1 : decode cX12_after 1 = .ok (.lload_n 1, 1) := by decide +kernel
theorem dX12_after_2 : decode cX12_after 2 = .ok (.invokevirtual 189, 3) := by decide +kernel
theorem dX12_after_5 : decode cX12_after 5 = .ok (.aload_n 0, 1) := by decide +kernel
theorem dX12_after_6 : decode cX12_after 6 = .ok (.iload_n 3, 1) := by decide +kernel
theorem dX12_after_7 : decode cX12_after 7 = .ok (.iload 4, 2) := by decide +kernel
theorem dX12_after_9 : decode cX12_after 9 = .ok (.invokevirtual 193, 3) := by decide +kernel
theorem dX12_after_12 : decode cX12_after 12 = .ok (.ireturn, 1) := by decide +kernel
theorem dX12_setsNode_0 : decode cX12_setsNode 0 = .ok (.aload_n 0, 1) := by decide +kernel
theorem dX12_setsNode_1 : decode cX12_setsNode 1 = .ok (.getfield 20, 3) := by decide +kernel
theorem dX12_setsNode_4 : decode cX12_setsNode 4 = .ok (.iload_n 1, 1) := by decide +kernel
theorem dX12_setsNode_5 : decode cX12_setsNode 5 = .ok (.iload_n 2, 1) := by decide +kernel
theorem dX12_setsNode_6 : decode cX12_setsNode 6 = .ok (.invokestatic 172, 3) := by decide +kernel
theorem dX12_setsNode_9 : decode cX12_setsNode 9 = .ok (.iload_n 3, 1) := by decide +kernel
theorem dX12_setsNode_10 : decode cX12_setsNode 10 = .ok (.iastore, 1) := by decide +kernel
theorem dX12_setsNode_11 : decode cX12_setsNode 11 = .ok (.return_, 1) := by decide +kernel
theorem dX12_ofLink_0 : decode cX12_ofLink 0 = .ok (.aload_n 0, 1) := by decide +kernel
theorem dX12_ofLink_1 : decode cX12_ofLink 1 = .ok (.getfield 20, 3) := by decide +kernel
theorem dX12_ofLink_4 : decode cX12_ofLink 4 = .ok (.bipush 90, 2) := by decide +kernel
theorem dX12_ofLink_6 : decode cX12_ofLink 6 = .ok (.iconst 5, 1) := by decide +kernel
theorem dX12_ofLink_7 : decode cX12_ofLink 7 = .ok (.iload_n 1, 1) := by decide +kernel
theorem dX12_ofLink_8 : decode cX12_ofLink 8 = .ok (.imul, 1) := by decide +kernel
theorem dX12_ofLink_9 : decode cX12_ofLink 9 = .ok (.iadd, 1) := by decide +kernel
theorem dX12_ofLink_10 : decode cX12_ofLink 10 = .ok (.iload_n 2, 1) := by decide +kernel
theorem dX12_ofLink_11 : decode cX12_ofLink 11 = .ok (.iadd, 1) := by decide +kernel
theorem dX12_ofLink_12 : decode cX12_ofLink 12 = .ok (.iaload, 1) := by decide +kernel
theorem dX12_ofLink_13 : decode cX12_ofLink 13 = .ok (.ireturn, 1) := by decide +kernel
theorem dX12_setsLink_0 : decode cX12_setsLink 0 = .ok (.aload_n 0, 1) := by decide +kernel
theorem dX12_setsLink_1 : decode cX12_setsLink 1 = .ok (.getfield 20, 3) := by decide +kernel
theorem dX12_setsLink_4 : decode cX12_setsLink 4 = .ok (.bipush 90, 2) := by decide +kernel
theorem dX12_setsLink_6 : decode cX12_setsLink 6 = .ok (.iconst 5, 1) := by decide +kernel
theorem dX12_setsLink_7 : decode cX12_setsLink 7 = .ok (.iload_n 1, 1) := by decide +kernel
theorem dX12_setsLink_8 : decode cX12_setsLink 8 = .ok (.imul, 1) := by decide +kernel
theorem dX12_setsLink_9 : decode cX12_setsLink 9 = .ok (.iadd, 1) := by decide +kernel
theorem dX12_setsLink_10 : decode cX12_setsLink 10 = .ok (.iload_n 2, 1) := by decide +kernel
theorem dX12_setsLink_11 : decode cX12_setsLink 11 = .ok (.iadd, 1) := by decide +kernel
theorem dX12_setsLink_12 : decode cX12_setsLink 12 = .ok (.iload_n 3, 1) := by decide +kernel
theorem dX12_setsLink_13 : decode cX12_setsLink 13 = .ok (.iastore, 1) := by decide +kernel
theorem dX12_setsLink_14 : decode cX12_setsLink 14 = .ok (.return_, 1) := by decide +kernel
theorem dX12_ofMessage_0 : decode cX12_ofMessage 0 = .ok (.aload_n 0, 1) := by decide +kernel
theorem dX12_ofMessage_1 : decode cX12_ofMessage 1 = .ok (.getfield 20, 3) := by decide +kernel
theorem dX12_ofMessage_4 : decode cX12_ofMessage 4 = .ok (.sipush 170, 3) := by decide +kernel
theorem dX12_ofMessage_7 : decode cX12_ofMessage 7 = .ok (.bipush 8, 2) := by decide +kernel
theorem dX12_ofMessage_9 : decode cX12_ofMessage 9 = .ok (.iload_n 1, 1) := by decide +kernel
theorem dX12_ofMessage_10 : decode cX12_ofMessage 10 = .ok (.imul, 1) := by decide +kernel
theorem dX12_ofMessage_11 : decode cX12_ofMessage 11 = .ok (.iadd, 1) := by decide +kernel
theorem dX12_ofMessage_12 : decode cX12_ofMessage 12 = .ok (.iload_n 2, 1) := by decide +kernel
theorem dX12_ofMessage_13 : decode cX12_ofMessage 13 = .ok (.iadd, 1) := by decide +kernel
theorem dX12_ofMessage_14 : decode cX12_ofMessage 14 = .ok (.iaload, 1) := by decide +kernel
theorem dX12_ofMessage_15 : decode cX12_ofMessage 15 = .ok (.ireturn, 1) := by decide +kernel
theorem dX12_setsMessage_0 : decode cX12_setsMessage 0 = .ok (.aload_n 0, 1) := by decide +kernel
theorem dX12_setsMessage_1 : decode cX12_setsMessage 1 = .ok (.getfield 20, 3) := by decide +kernel
theorem dX12_setsMessage_4 : decode cX12_setsMessage 4 = .ok (.sipush 170, 3) := by decide +kernel
theorem dX12_setsMessage_7 : decode cX12_setsMessage 7 = .ok (.bipush 8, 2) := by decide +kernel
theorem dX12_setsMessage_9 : decode cX12_setsMessage 9 = .ok (.iload_n 1, 1) := by decide +kernel
theorem dX12_setsMessage_10 : decode cX12_setsMessage 10 = .ok (.imul, 1) := by decide +kernel
theorem dX12_setsMessage_11 : decode cX12_setsMessage 11 = .ok (.iadd, 1) := by decide +kernel
theorem dX12_setsMessage_12 : decode cX12_setsMessage 12 = .ok (.iload_n 2, 1) := by decide +kernel
theorem dX12_setsMessage_13 : decode cX12_setsMessage 13 = .ok (.iadd, 1) := by decide +kernel
theorem dX12_setsMessage_14 : decode cX12_setsMessage 14 = .ok (.iload_n 3, 1) := by decide +kernel
theorem dX12_setsMessage_15 : decode cX12_setsMessage 15 = .ok (.iastore, 1) := by decide +kernel
theorem dX12_setsMessage_16 : decode cX12_setsMessage 16 = .ok (.return_, 1) := by decide +kernel
theorem dX12_linkOf_0 : decode cX12_linkOf 0 = .ok (.iconst (-1), 1) := by decide +kernel
theorem dX12_linkOf_1 : decode cX12_linkOf 1 = .ok (.istore_n 3, 1) := by decide +kernel
theorem dX12_linkOf_2 : decode cX12_linkOf 2 = .ok (.iconst 0, 1) := by decide +kernel
theorem dX12_linkOf_3 : decode cX12_linkOf 3 = .ok (.istore 4, 2) := by decide +kernel
theorem dX12_linkOf_5 : decode cX12_linkOf 5 = .ok (.iload 4, 2) := by decide +kernel
theorem dX12_linkOf_7 : decode cX12_linkOf 7 = .ok (.aload_n 0, 1) := by decide +kernel
theorem dX12_linkOf_8 : decode cX12_linkOf 8 = .ok (.getfield 20, 3) := by decide +kernel
theorem dX12_linkOf_11 : decode cX12_linkOf 11 = .ok (.iconst 1, 1) := by decide +kernel
theorem dX12_linkOf_12 : decode cX12_linkOf 12 = .ok (.iaload, 1) := by decide +kernel
theorem dX12_linkOf_13 : decode cX12_linkOf 13 = .ok (.if_icmp .ge 58, 3) := by decide +kernel
theorem dX12_linkOf_71 : decode cX12_linkOf 71 = .ok (.iload_n 3, 1) := by decide +kernel
theorem dX12_linkOf_72 : decode cX12_linkOf 72 = .ok (.ireturn, 1) := by decide +kernel
theorem dX12_linkOf_16 : decode cX12_linkOf 16 = .ok (.aload_n 0, 1) := by decide +kernel
theorem dX12_linkOf_17 : decode cX12_linkOf 17 = .ok (.iload 4, 2) := by decide +kernel
theorem dX12_linkOf_19 : decode cX12_linkOf 19 = .ok (.iconst 0, 1) := by decide +kernel
theorem dX12_linkOf_20 : decode cX12_linkOf 20 = .ok (.invokevirtual 210, 3) := by decide +kernel
theorem dX12_linkOf_23 : decode cX12_linkOf 23 = .ok (.istore 5, 2) := by decide +kernel
theorem dX12_linkOf_25 : decode cX12_linkOf 25 = .ok (.aload_n 0, 1) := by decide +kernel
theorem dX12_linkOf_26 : decode cX12_linkOf 26 = .ok (.iload 4, 2) := by decide +kernel
theorem dX12_linkOf_28 : decode cX12_linkOf 28 = .ok (.iconst 1, 1) := by decide +kernel
theorem dX12_linkOf_29 : decode cX12_linkOf 29 = .ok (.invokevirtual 210, 3) := by decide +kernel
theorem dX12_linkOf_32 : decode cX12_linkOf 32 = .ok (.istore 6, 2) := by decide +kernel
theorem dX12_linkOf_34 : decode cX12_linkOf 34 = .ok (.iload 5, 2) := by decide +kernel
theorem dX12_linkOf_36 : decode cX12_linkOf 36 = .ok (.iload_n 1, 1) := by decide +kernel
theorem dX12_linkOf_37 : decode cX12_linkOf 37 = .ok (.if_icmp .ne 9, 3) := by decide +kernel
theorem dX12_linkOf_46 : decode cX12_linkOf 46 = .ok (.iload 5, 2) := by decide +kernel
theorem dX12_linkOf_48 : decode cX12_linkOf 48 = .ok (.iload_n 2, 1) := by decide +kernel
theorem dX12_linkOf_49 : decode cX12_linkOf 49 = .ok (.if_icmp .ne 14, 3) := by decide +kernel
theorem dX12_linkOf_63 : decode cX12_linkOf 63 = .ok (.iload_n 3, 1) := by decide +kernel
theorem dX12_linkOf_64 : decode cX12_linkOf 64 = .ok (.istore_n 3, 1) := by decide +kernel
theorem dX12_linkOf_65 : decode cX12_linkOf 65 = .ok (.iinc 4 1, 3) := by decide +kernel
theorem dX12_linkOf_68 : decode cX12_linkOf 68 = .ok (.goto (-63), 3) := by decide +kernel
theorem dX12_linkOf_52 : decode cX12_linkOf 52 = .ok (.iload 6, 2) := by decide +kernel
theorem dX12_linkOf_54 : decode cX12_linkOf 54 = .ok (.iload_n 1, 1) := by decide +kernel
theorem dX12_linkOf_55 : decode cX12_linkOf 55 = .ok (.if_icmp .ne 8, 3) := by decide +kernel
theorem dX12_linkOf_58 : decode cX12_linkOf 58 = .ok (.iload 4, 2) := by decide +kernel
theorem dX12_linkOf_60 : decode cX12_linkOf 60 = .ok (.goto 4, 3) := by decide +kernel
theorem dX12_linkOf_40 : decode cX12_linkOf 40 = .ok (.iload 6, 2) := by decide +kernel
theorem dX12_linkOf_42 : decode cX12_linkOf 42 = .ok (.iload_n 2, 1) := by decide +kernel
theorem dX12_linkOf_43 : decode cX12_linkOf 43 = .ok (.if_icmp .eq 15, 3) := by decide +kernel
theorem dX12_readsNode_0 : decode cX12_readsNode 0 = .ok (.aload_n 0, 1) := by decide +kernel
theorem dX12_readsNode_1 : decode cX12_readsNode 1 = .ok (.getfield 20, 3) := by decide +kernel
theorem dX12_readsNode_4 : decode cX12_readsNode 4 = .ok (.iconst 0, 1) := by decide +kernel
theorem dX12_readsNode_5 : decode cX12_readsNode 5 = .ok (.iaload, 1) := by decide +kernel
theorem dX12_readsNode_6 : decode cX12_readsNode 6 = .ok (.istore_n 1, 1) := by decide +kernel
theorem dX12_readsNode_7 : decode cX12_readsNode 7 = .ok (.iload_n 1, 1) := by decide +kernel
theorem dX12_readsNode_8 : decode cX12_readsNode 8 = .ok (.bipush 10, 2) := by decide +kernel
theorem dX12_readsNode_10 : decode cX12_readsNode 10 = .ok (.if_icmp .ne 8, 3) := by decide +kernel
theorem dX12_readsNode_18 : decode cX12_readsNode 18 = .ok (.aload_n 0, 1) := by decide +kernel
theorem dX12_readsNode_19 : decode cX12_readsNode 19 = .ok (.invokevirtual 130, 3) := by decide +kernel
theorem dX12_readsNode_22 : decode cX12_readsNode 22 = .ok (.ifCond .eq 7, 3) := by decide +kernel
theorem dX12_readsNode_25 : decode cX12_readsNode 25 = .ok (.aload_n 0, 1) := by decide +kernel
theorem dX12_readsNode_26 : decode cX12_readsNode 26 = .ok (.invokevirtual 140, 3) := by decide +kernel
theorem dX12_readsNode_29 : decode cX12_readsNode 29 = .ok (.aload_n 0, 1) := by decide +kernel
theorem dX12_readsNode_30 : decode cX12_readsNode 30 = .ok (.invokevirtual 175, 3) := by decide +kernel
theorem dX12_readsNode_33 : decode cX12_readsNode 33 = .ok (.aload_n 0, 1) := by decide +kernel
theorem dX12_readsNode_34 : decode cX12_readsNode 34 = .ok (.invokevirtual 130, 3) := by decide +kernel
theorem dX12_readsNode_37 : decode cX12_readsNode 37 = .ok (.ifCond .eq 16, 3) := by decide +kernel
theorem dX12_readsNode_40 : decode cX12_readsNode 40 = .ok (.aload_n 0, 1) := by decide +kernel
theorem dX12_readsNode_41 : decode cX12_readsNode 41 = .ok (.invokevirtual 178, 3) := by decide +kernel
theorem dX12_readsNode_44 : decode cX12_readsNode 44 = .ok (.iconst (-1), 1) := by decide +kernel
theorem dX12_readsNode_45 : decode cX12_readsNode 45 = .ok (.if_icmp .eq 8, 3) := by decide +kernel
theorem dX12_readsNode_53 : decode cX12_readsNode 53 = .ok (.aload_n 0, 1) := by decide +kernel
theorem dX12_readsNode_54 : decode cX12_readsNode 54 = .ok (.invokevirtual 130, 3) := by decide +kernel
theorem dX12_readsNode_57 : decode cX12_readsNode 57 = .ok (.ifCond .ne 4, 3) := by decide +kernel
theorem dX12_readsNode_61 : decode cX12_readsNode 61 = .ok (.aload_n 0, 1) := by decide +kernel
theorem dX12_readsNode_62 : decode cX12_readsNode 62 = .ok (.getfield 35, 3) := by decide +kernel
theorem dX12_readsNode_65 : decode cX12_readsNode 65 = .ok (.iload_n 1, 1) := by decide +kernel
theorem dX12_readsNode_66 : decode cX12_readsNode 66 = .ok (.aload_n 0, 1) := by decide +kernel
theorem dX12_readsNode_67 : decode cX12_readsNode 67 = .ok (.getfield 110, 3) := by decide +kernel
theorem dX12_readsNode_70 : decode cX12_readsNode 70 = .ok (.lastore, 1) := by decide +kernel
theorem dX12_readsNode_71 : decode cX12_readsNode 71 = .ok (.aload_n 0, 1) := by decide +kernel
theorem dX12_readsNode_72 : decode cX12_readsNode 72 = .ok (.invokevirtual 140, 3) := by decide +kernel
theorem dX12_readsNode_75 : decode cX12_readsNode 75 = .ok (.aload_n 0, 1) := by decide +kernel
theorem dX12_readsNode_76 : decode cX12_readsNode 76 = .ok (.iload_n 1, 1) := by decide +kernel
theorem dX12_readsNode_77 : decode cX12_readsNode 77 = .ok (.iconst 0, 1) := by decide +kernel
theorem dX12_readsNode_78 : decode cX12_readsNode 78 = .ok (.aload_n 0, 1) := by decide +kernel
theorem dX12_readsNode_79 : decode cX12_readsNode 79 = .ok (.ldc2_w 196, 3) := by decide +kernel
theorem dX12_readsNode_82 : decode cX12_readsNode 82 = .ok (.iconst 0, 1) := by decide +kernel
theorem dX12_readsNode_83 : decode cX12_readsNode 83 = .ok (.bipush 59, 2) := by decide +kernel
theorem dX12_readsNode_85 : decode cX12_readsNode 85 = .ok (.invokevirtual 198, 3) := by decide +kernel
theorem dX12_readsNode_88 : decode cX12_readsNode 88 = .ok (.invokevirtual 202, 3) := by decide +kernel
theorem dX12_readsNode_91 : decode cX12_readsNode 91 = .ok (.aload_n 0, 1) := by decide +kernel
theorem dX12_readsNode_92 : decode cX12_readsNode 92 = .ok (.ldc2_w 206, 3) := by decide +kernel
theorem dX12_readsNode_95 : decode cX12_readsNode 95 = .ok (.invokevirtual 143, 3) := by decide +kernel
theorem dX12_readsNode_98 : decode cX12_readsNode 98 = .ok (.istore_n 2, 1) := by decide +kernel
theorem dX12_readsNode_99 : decode cX12_readsNode 99 = .ok (.iload_n 2, 1) := by decide +kernel
theorem dX12_readsNode_100 : decode cX12_readsNode 100 = .ok (.ifCond .eq 7, 3) := by decide +kernel
theorem dX12_readsNode_103 : decode cX12_readsNode 103 = .ok (.aload_n 0, 1) := by decide +kernel
theorem dX12_readsNode_104 : decode cX12_readsNode 104 = .ok (.invokevirtual 140, 3) := by decide +kernel
theorem dX12_readsNode_107 : decode cX12_readsNode 107 = .ok (.aload_n 0, 1) := by decide +kernel
theorem dX12_readsNode_108 : decode cX12_readsNode 108 = .ok (.iload_n 1, 1) := by decide +kernel
theorem dX12_readsNode_109 : decode cX12_readsNode 109 = .ok (.iconst 1, 1) := by decide +kernel
theorem dX12_readsNode_110 : decode cX12_readsNode 110 = .ok (.iload_n 2, 1) := by decide +kernel
theorem dX12_readsNode_111 : decode cX12_readsNode 111 = .ok (.ifCond .eq 13, 3) := by decide +kernel
theorem dX12_readsNode_114 : decode cX12_readsNode 114 = .ok (.aload_n 0, 1) := by decide +kernel
theorem dX12_readsNode_115 : decode cX12_readsNode 115 = .ok (.iconst 0, 1) := by decide +kernel
theorem dX12_readsNode_116 : decode cX12_readsNode 116 = .ok (.bipush 59, 2) := by decide +kernel
theorem dX12_readsNode_118 : decode cX12_readsNode 118 = .ok (.invokevirtual 193, 3) := by decide +kernel
theorem dX12_readsNode_121 : decode cX12_readsNode 121 = .ok (.goto 4, 3) := by decide +kernel
theorem dX12_readsNode_125 : decode cX12_readsNode 125 = .ok (.invokevirtual 202, 3) := by decide +kernel
theorem dX12_readsNode_128 : decode cX12_readsNode 128 = .ok (.aload_n 0, 1) := by decide +kernel
theorem dX12_readsNode_129 : decode cX12_readsNode 129 = .ok (.iload_n 1, 1) := by decide +kernel
theorem dX12_readsNode_130 : decode cX12_readsNode 130 = .ok (.iconst 2, 1) := by decide +kernel
theorem dX12_readsNode_131 : decode cX12_readsNode 131 = .ok (.aload_n 0, 1) := by decide +kernel
theorem dX12_readsNode_132 : decode cX12_readsNode 132 = .ok (.ldc2_w 208, 3) := by decide +kernel
theorem dX12_readsNode_135 : decode cX12_readsNode 135 = .ok (.iconst 1, 1) := by decide +kernel
theorem dX12_readsNode_136 : decode cX12_readsNode 136 = .ok (.sipush 999, 3) := by decide +kernel
theorem dX12_readsNode_139 : decode cX12_readsNode 139 = .ok (.invokevirtual 198, 3) := by decide +kernel
theorem dX12_readsNode_142 : decode cX12_readsNode 142 = .ok (.invokevirtual 202, 3) := by decide +kernel
theorem dX12_readsNode_145 : decode cX12_readsNode 145 = .ok (.aload_n 0, 1) := by decide +kernel
theorem dX12_readsNode_146 : decode cX12_readsNode 146 = .ok (.invokevirtual 130, 3) := by decide +kernel
theorem dX12_readsNode_149 : decode cX12_readsNode 149 = .ok (.ifCond .eq 13, 3) := by decide +kernel
theorem dX12_readsNode_152 : decode cX12_readsNode 152 = .ok (.aload_n 0, 1) := by decide +kernel
theorem dX12_readsNode_153 : decode cX12_readsNode 153 = .ok (.getfield 20, 3) := by decide +kernel
theorem dX12_readsNode_156 : decode cX12_readsNode 156 = .ok (.iconst 0, 1) := by decide +kernel
theorem dX12_readsNode_157 : decode cX12_readsNode 157 = .ok (.dup2, 1) := by decide +kernel
theorem dX12_readsNode_158 : decode cX12_readsNode 158 = .ok (.iaload, 1) := by decide +kernel
theorem dX12_readsNode_159 : decode cX12_readsNode 159 = .ok (.iconst 1, 1) := by decide +kernel
theorem dX12_readsNode_160 : decode cX12_readsNode 160 = .ok (.iadd, 1) := by decide +kernel
theorem dX12_readsNode_161 : decode cX12_readsNode 161 = .ok (.iastore, 1) := by decide +kernel
theorem dX12_readsNode_162 : decode cX12_readsNode 162 = .ok (.return_, 1) := by decide +kernel
theorem dX12_readsNode_124 : decode cX12_readsNode 124 = .ok (.iconst 0, 1) := by decide +kernel
theorem dX12_readsNode_48 : decode cX12_readsNode 48 = .ok (.aload_n 0, 1) := by decide +kernel
theorem dX12_readsNode_49 : decode cX12_readsNode 49 = .ok (.iconst 3, 1) := by decide +kernel
theorem dX12_readsNode_50 : decode cX12_readsNode 50 = .ok (.invokevirtual 137, 3) := by decide +kernel
theorem dX12_readsNode_60 : decode cX12_readsNode 60 = .ok (.return_, 1) := by decide +kernel
theorem dX12_readsNode_13 : decode cX12_readsNode 13 = .ok (.aload_n 0, 1) := by decide +kernel
theorem dX12_readsNode_14 : decode cX12_readsNode 14 = .ok (.iconst 5, 1) := by decide +kernel
theorem dX12_readsNode_15 : decode cX12_readsNode 15 = .ok (.invokevirtual 137, 3) := by decide +kernel
theorem dX12_readsLink_0 : decode cX12_readsLink 0 = .ok (.aload_n 0, 1) := by decide +kernel
theorem dX12_readsLink_1 : decode cX12_readsLink 1 = .ok (.getfield 20, 3) := by decide +kernel
theorem dX12_readsLink_4 : decode cX12_readsLink 4 = .ok (.iconst 1, 1) := by decide +kernel
theorem dX12_readsLink_5 : decode cX12_readsLink 5 = .ok (.iaload, 1) := by decide +kernel
theorem dX12_readsLink_6 : decode cX12_readsLink 6 = .ok (.istore_n 1, 1) := by decide +kernel
theorem dX12_readsLink_7 : decode cX12_readsLink 7 = .ok (.iload_n 1, 1) := by decide +kernel
theorem dX12_readsLink_8 : decode cX12_readsLink 8 = .ok (.bipush 16, 2) := by decide +kernel
theorem dX12_readsLink_10 : decode cX12_readsLink 10 = .ok (.if_icmp .ne 8, 3) := by decide +kernel
theorem dX12_readsLink_18 : decode cX12_readsLink 18 = .ok (.aload_n 0, 1) := by decide +kernel
theorem dX12_readsLink_19 : decode cX12_readsLink 19 = .ok (.invokevirtual 130, 3) := by decide +kernel
theorem dX12_readsLink_22 : decode cX12_readsLink 22 = .ok (.ifCond .eq 7, 3) := by decide +kernel
theorem dX12_readsLink_25 : decode cX12_readsLink 25 = .ok (.aload_n 0, 1) := by decide +kernel
theorem dX12_readsLink_26 : decode cX12_readsLink 26 = .ok (.invokevirtual 140, 3) := by decide +kernel
theorem dX12_readsLink_29 : decode cX12_readsLink 29 = .ok (.aload_n 0, 1) := by decide +kernel
theorem dX12_readsLink_30 : decode cX12_readsLink 30 = .ok (.invokevirtual 213, 3) := by decide +kernel
theorem dX12_readsLink_33 : decode cX12_readsLink 33 = .ok (.istore_n 2, 1) := by decide +kernel
theorem dX12_readsLink_34 : decode cX12_readsLink 34 = .ok (.aload_n 0, 1) := by decide +kernel
theorem dX12_readsLink_35 : decode cX12_readsLink 35 = .ok (.invokevirtual 175, 3) := by decide +kernel
theorem dX12_readsLink_38 : decode cX12_readsLink 38 = .ok (.aload_n 0, 1) := by decide +kernel
theorem dX12_readsLink_39 : decode cX12_readsLink 39 = .ok (.invokevirtual 130, 3) := by decide +kernel
theorem dX12_readsLink_42 : decode cX12_readsLink 42 = .ok (.ifCond .eq 10, 3) := by decide +kernel
theorem dX12_readsLink_45 : decode cX12_readsLink 45 = .ok (.aload_n 0, 1) := by decide +kernel
theorem dX12_readsLink_46 : decode cX12_readsLink 46 = .ok (.invokevirtual 178, 3) := by decide +kernel
theorem dX12_readsLink_49 : decode cX12_readsLink 49 = .ok (.goto 4, 3) := by decide +kernel
theorem dX12_readsLink_53 : decode cX12_readsLink 53 = .ok (.istore_n 3, 1) := by decide +kernel
theorem dX12_readsLink_54 : decode cX12_readsLink 54 = .ok (.aload_n 0, 1) := by decide +kernel
theorem dX12_readsLink_55 : decode cX12_readsLink 55 = .ok (.invokevirtual 130, 3) := by decide +kernel
theorem dX12_readsLink_58 : decode cX12_readsLink 58 = .ok (.ifCond .eq 28, 3) := by decide +kernel
theorem dX12_readsLink_61 : decode cX12_readsLink 61 = .ok (.iload_n 3, 1) := by decide +kernel
theorem dX12_readsLink_62 : decode cX12_readsLink 62 = .ok (.iconst (-1), 1) := by decide +kernel
theorem dX12_readsLink_63 : decode cX12_readsLink 63 = .ok (.if_icmp .eq 23, 3) := by decide +kernel
theorem dX12_readsLink_86 : decode cX12_readsLink 86 = .ok (.aload_n 0, 1) := by decide +kernel
theorem dX12_readsLink_87 : decode cX12_readsLink 87 = .ok (.invokevirtual 130, 3) := by decide +kernel
theorem dX12_readsLink_90 : decode cX12_readsLink 90 = .ok (.ifCond .eq 13, 3) := by decide +kernel
theorem dX12_readsLink_93 : decode cX12_readsLink 93 = .ok (.iload_n 3, 1) := by decide +kernel
theorem dX12_readsLink_94 : decode cX12_readsLink 94 = .ok (.iconst (-1), 1) := by decide +kernel
theorem dX12_readsLink_95 : decode cX12_readsLink 95 = .ok (.if_icmp .ne 8, 3) := by decide +kernel
theorem dX12_readsLink_98 : decode cX12_readsLink 98 = .ok (.aload_n 0, 1) := by decide +kernel
theorem dX12_readsLink_99 : decode cX12_readsLink 99 = .ok (.iconst 4, 1) := by decide +kernel
theorem dX12_readsLink_100 : decode cX12_readsLink 100 = .ok (.invokevirtual 137, 3) := by decide +kernel
theorem dX12_readsLink_103 : decode cX12_readsLink 103 = .ok (.aload_n 0, 1) := by decide +kernel
theorem dX12_readsLink_104 : decode cX12_readsLink 104 = .ok (.invokevirtual 130, 3) := by decide +kernel
theorem dX12_readsLink_107 : decode cX12_readsLink 107 = .ok (.ifCond .ne 4, 3) := by decide +kernel
theorem dX12_readsLink_110 : decode cX12_readsLink 110 = .ok (.return_, 1) := by decide +kernel
theorem dX12_readsLink_66 : decode cX12_readsLink 66 = .ok (.iload_n 3, 1) := by decide +kernel
theorem dX12_readsLink_67 : decode cX12_readsLink 67 = .ok (.iload_n 2, 1) := by decide +kernel
theorem dX12_readsLink_68 : decode cX12_readsLink 68 = .ok (.if_icmp .eq 13, 3) := by decide +kernel
theorem dX12_readsLink_81 : decode cX12_readsLink 81 = .ok (.aload_n 0, 1) := by decide +kernel
theorem dX12_readsLink_82 : decode cX12_readsLink 82 = .ok (.iconst 3, 1) := by decide +kernel
theorem dX12_readsLink_83 : decode cX12_readsLink 83 = .ok (.invokevirtual 137, 3) := by decide +kernel
theorem dX12_readsLink_71 : decode cX12_readsLink 71 = .ok (.aload_n 0, 1) := by decide +kernel
theorem dX12_readsLink_72 : decode cX12_readsLink 72 = .ok (.iload_n 2, 1) := by decide +kernel
theorem dX12_readsLink_73 : decode cX12_readsLink 73 = .ok (.iload_n 3, 1) := by decide +kernel
theorem dX12_readsLink_74 : decode cX12_readsLink 74 = .ok (.invokevirtual 216, 3) := by decide +kernel
theorem dX12_readsLink_77 : decode cX12_readsLink 77 = .ok (.iconst (-1), 1) := by decide +kernel
theorem dX12_readsLink_78 : decode cX12_readsLink 78 = .ok (.if_icmp .eq 8, 3) := by decide +kernel
theorem dX12_readsLink_111 : decode cX12_readsLink 111 = .ok (.aload_n 0, 1) := by decide +kernel
theorem dX12_readsLink_112 : decode cX12_readsLink 112 = .ok (.invokevirtual 140, 3) := by decide +kernel
theorem dX12_readsLink_115 : decode cX12_readsLink 115 = .ok (.aload_n 0, 1) := by decide +kernel
theorem dX12_readsLink_116 : decode cX12_readsLink 116 = .ok (.iload_n 1, 1) := by decide +kernel
theorem dX12_readsLink_117 : decode cX12_readsLink 117 = .ok (.iconst 0, 1) := by decide +kernel
theorem dX12_readsLink_118 : decode cX12_readsLink 118 = .ok (.iload_n 2, 1) := by decide +kernel
theorem dX12_readsLink_119 : decode cX12_readsLink 119 = .ok (.invokevirtual 219, 3) := by decide +kernel
theorem dX12_readsLink_122 : decode cX12_readsLink 122 = .ok (.aload_n 0, 1) := by decide +kernel
theorem dX12_readsLink_123 : decode cX12_readsLink 123 = .ok (.iload_n 1, 1) := by decide +kernel
theorem dX12_readsLink_124 : decode cX12_readsLink 124 = .ok (.iconst 1, 1) := by decide +kernel
theorem dX12_readsLink_125 : decode cX12_readsLink 125 = .ok (.iload_n 3, 1) := by decide +kernel
theorem dX12_readsLink_126 : decode cX12_readsLink 126 = .ok (.invokevirtual 219, 3) := by decide +kernel
theorem dX12_readsLink_129 : decode cX12_readsLink 129 = .ok (.aload_n 0, 1) := by decide +kernel
theorem dX12_readsLink_130 : decode cX12_readsLink 130 = .ok (.getfield 20, 3) := by decide +kernel
theorem dX12_readsLink_133 : decode cX12_readsLink 133 = .ok (.iconst 1, 1) := by decide +kernel
theorem dX12_readsLink_134 : decode cX12_readsLink 134 = .ok (.dup2, 1) := by decide +kernel
theorem dX12_readsLink_135 : decode cX12_readsLink 135 = .ok (.iaload, 1) := by decide +kernel
theorem dX12_readsLink_136 : decode cX12_readsLink 136 = .ok (.iconst 1, 1) := by decide +kernel
theorem dX12_readsLink_137 : decode cX12_readsLink 137 = .ok (.iadd, 1) := by decide +kernel
theorem dX12_readsLink_138 : decode cX12_readsLink 138 = .ok (.iastore, 1) := by decide +kernel
theorem dX12_readsLink_139 : decode cX12_readsLink 139 = .ok (.return_, 1) := by decide +kernel
theorem dX12_readsLink_52 : decode cX12_readsLink 52 = .ok (.iconst (-1), 1) := by decide +kernel
theorem dX12_readsLink_13 : decode cX12_readsLink 13 = .ok (.aload_n 0, 1) := by decide +kernel
theorem dX12_readsLink_14 : decode cX12_readsLink 14 = .ok (.iconst 5, 1) := by decide +kernel
theorem dX12_readsLink_15 : decode cX12_readsLink 15 = .ok (.invokevirtual 137, 3) := by decide +kernel
theorem dX12_statement_0 : decode cX12_statement 0 = .ok (.aload_n 0, 1) := by decide +kernel
theorem dX12_statement_1 : decode cX12_statement 1 = .ok (.ldc2_w 222, 3) := by decide +kernel
theorem dX12_statement_4 : decode cX12_statement 4 = .ok (.invokevirtual 143, 3) := by decide +kernel
theorem dX12_statement_7 : decode cX12_statement 7 = .ok (.ifCond .eq 24, 3) := by decide +kernel
theorem dX12_statement_10 : decode cX12_statement 10 = .ok (.aload_n 0, 1) := by decide +kernel
theorem dX12_statement_11 : decode cX12_statement 11 = .ok (.iconst 0, 1) := by decide +kernel
theorem dX12_statement_12 : decode cX12_statement 12 = .ok (.invokevirtual 224, 3) := by decide +kernel
theorem dX12_statement_15 : decode cX12_statement 15 = .ok (.aload_n 0, 1) := by decide +kernel
theorem dX12_statement_16 : decode cX12_statement 16 = .ok (.getfield 20, 3) := by decide +kernel
theorem dX12_statement_19 : decode cX12_statement 19 = .ok (.iconst 2, 1) := by decide +kernel
theorem dX12_statement_20 : decode cX12_statement 20 = .ok (.aload_n 0, 1) := by decide +kernel
theorem dX12_statement_21 : decode cX12_statement 21 = .ok (.iconst 4, 1) := by decide +kernel
theorem dX12_statement_22 : decode cX12_statement 22 = .ok (.bipush 60, 2) := by decide +kernel
theorem dX12_statement_24 : decode cX12_statement 24 = .ok (.invokevirtual 193, 3) := by decide +kernel
theorem dX12_statement_27 : decode cX12_statement 27 = .ok (.iastore, 1) := by decide +kernel
theorem dX12_statement_28 : decode cX12_statement 28 = .ok (.goto 133, 3) := by decide +kernel
theorem dX12_statement_161 : decode cX12_statement 161 = .ok (.aload_n 0, 1) := by decide +kernel
theorem dX12_statement_162 : decode cX12_statement 162 = .ok (.bipush 59, 2) := by decide +kernel
theorem dX12_statement_164 : decode cX12_statement 164 = .ok (.invokevirtual 241, 3) := by decide +kernel
theorem dX12_statement_167 : decode cX12_statement 167 = .ok (.return_, 1) := by decide +kernel
theorem dX12_statement_31 : decode cX12_statement 31 = .ok (.aload_n 0, 1) := by decide +kernel
theorem dX12_statement_32 : decode cX12_statement 32 = .ok (.ldc2_w 227, 3) := by decide +kernel
theorem dX12_statement_35 : decode cX12_statement 35 = .ok (.invokevirtual 143, 3) := by decide +kernel
theorem dX12_statement_38 : decode cX12_statement 38 = .ok (.ifCond .eq 52, 3) := by decide +kernel
theorem dX12_statement_41 : decode cX12_statement 41 = .ok (.aload_n 0, 1) := by decide +kernel
theorem dX12_statement_42 : decode cX12_statement 42 = .ok (.iconst 1, 1) := by decide +kernel
theorem dX12_statement_43 : decode cX12_statement 43 = .ok (.invokevirtual 224, 3) := by decide +kernel
theorem dX12_statement_46 : decode cX12_statement 46 = .ok (.aload_n 0, 1) := by decide +kernel
theorem dX12_statement_47 : decode cX12_statement 47 = .ok (.getfield 20, 3) := by decide +kernel
theorem dX12_statement_50 : decode cX12_statement 50 = .ok (.iconst 5, 1) := by decide +kernel
theorem dX12_statement_51 : decode cX12_statement 51 = .ok (.aload_n 0, 1) := by decide +kernel
theorem dX12_statement_52 : decode cX12_statement 52 = .ok (.iconst 0, 1) := by decide +kernel
theorem dX12_statement_53 : decode cX12_statement 53 = .ok (.bipush 99, 2) := by decide +kernel
theorem dX12_statement_55 : decode cX12_statement 55 = .ok (.invokevirtual 193, 3) := by decide +kernel
theorem dX12_statement_58 : decode cX12_statement 58 = .ok (.iastore, 1) := by decide +kernel
theorem dX12_statement_59 : decode cX12_statement 59 = .ok (.aload_n 0, 1) := by decide +kernel
theorem dX12_statement_60 : decode cX12_statement 60 = .ok (.getfield 20, 3) := by decide +kernel
theorem dX12_statement_63 : decode cX12_statement 63 = .ok (.bipush 6, 2) := by decide +kernel
theorem dX12_statement_65 : decode cX12_statement 65 = .ok (.aload_n 0, 1) := by decide +kernel
theorem dX12_statement_66 : decode cX12_statement 66 = .ok (.iconst 0, 1) := by decide +kernel
theorem dX12_statement_67 : decode cX12_statement 67 = .ok (.bipush 99, 2) := by decide +kernel
theorem dX12_statement_69 : decode cX12_statement 69 = .ok (.invokevirtual 193, 3) := by decide +kernel
theorem dX12_statement_72 : decode cX12_statement 72 = .ok (.iastore, 1) := by decide +kernel
theorem dX12_statement_73 : decode cX12_statement 73 = .ok (.aload_n 0, 1) := by decide +kernel
theorem dX12_statement_74 : decode cX12_statement 74 = .ok (.getfield 20, 3) := by decide +kernel
theorem dX12_statement_77 : decode cX12_statement 77 = .ok (.bipush 7, 2) := by decide +kernel
theorem dX12_statement_79 : decode cX12_statement 79 = .ok (.aload_n 0, 1) := by decide +kernel
theorem dX12_statement_80 : decode cX12_statement 80 = .ok (.iconst 0, 1) := by decide +kernel
theorem dX12_statement_81 : decode cX12_statement 81 = .ok (.bipush 99, 2) := by decide +kernel
theorem dX12_statement_83 : decode cX12_statement 83 = .ok (.invokevirtual 193, 3) := by decide +kernel
theorem dX12_statement_86 : decode cX12_statement 86 = .ok (.iastore, 1) := by decide +kernel
theorem dX12_statement_87 : decode cX12_statement 87 = .ok (.goto 74, 3) := by decide +kernel
theorem dX12_statement_90 : decode cX12_statement 90 = .ok (.aload_n 0, 1) := by decide +kernel
theorem dX12_statement_91 : decode cX12_statement 91 = .ok (.ldc2_w 229, 3) := by decide +kernel
theorem dX12_statement_94 : decode cX12_statement 94 = .ok (.invokevirtual 143, 3) := by decide +kernel
theorem dX12_statement_97 : decode cX12_statement 97 = .ok (.ifCond .eq 25, 3) := by decide +kernel
theorem dX12_statement_100 : decode cX12_statement 100 = .ok (.aload_n 0, 1) := by decide +kernel
theorem dX12_statement_101 : decode cX12_statement 101 = .ok (.iconst 2, 1) := by decide +kernel
theorem dX12_statement_102 : decode cX12_statement 102 = .ok (.invokevirtual 224, 3) := by decide +kernel
theorem dX12_statement_105 : decode cX12_statement 105 = .ok (.aload_n 0, 1) := by decide +kernel
theorem dX12_statement_106 : decode cX12_statement 106 = .ok (.getfield 20, 3) := by decide +kernel
theorem dX12_statement_109 : decode cX12_statement 109 = .ok (.bipush 8, 2) := by decide +kernel
theorem dX12_statement_111 : decode cX12_statement 111 = .ok (.aload_n 0, 1) := by decide +kernel
theorem dX12_statement_112 : decode cX12_statement 112 = .ok (.iconst 1, 1) := by decide +kernel
theorem dX12_statement_113 : decode cX12_statement 113 = .ok (.bipush 9, 2) := by decide +kernel
theorem dX12_statement_115 : decode cX12_statement 115 = .ok (.invokevirtual 193, 3) := by decide +kernel
theorem dX12_statement_118 : decode cX12_statement 118 = .ok (.iastore, 1) := by decide +kernel
theorem dX12_statement_119 : decode cX12_statement 119 = .ok (.goto 42, 3) := by decide +kernel
theorem dX12_statement_122 : decode cX12_statement 122 = .ok (.aload_n 0, 1) := by decide +kernel
theorem dX12_statement_123 : decode cX12_statement 123 = .ok (.ldc2_w 231, 3) := by decide +kernel
theorem dX12_statement_126 : decode cX12_statement 126 = .ok (.invokevirtual 143, 3) := by decide +kernel
theorem dX12_statement_129 : decode cX12_statement 129 = .ok (.ifCond .eq 10, 3) := by decide +kernel
theorem dX12_statement_132 : decode cX12_statement 132 = .ok (.aload_n 0, 1) := by decide +kernel
theorem dX12_statement_133 : decode cX12_statement 133 = .ok (.invokevirtual 233, 3) := by decide +kernel
theorem dX12_statement_136 : decode cX12_statement 136 = .ok (.goto 25, 3) := by decide +kernel
theorem dX12_statement_139 : decode cX12_statement 139 = .ok (.aload_n 0, 1) := by decide +kernel
theorem dX12_statement_140 : decode cX12_statement 140 = .ok (.ldc2_w 236, 3) := by decide +kernel
theorem dX12_statement_143 : decode cX12_statement 143 = .ok (.invokevirtual 143, 3) := by decide +kernel
