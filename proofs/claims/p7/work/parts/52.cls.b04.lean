theorem dX9_readCosts_29 : decode cX9_readCosts 29 = .ok (.ifCond .ne 5, 3) := by decide +kernel
theorem dX9_readCosts_34 : decode cX9_readCosts 34 = .ok (.aload_n 2, 1) := by decide +kernel
theorem dX9_readCosts_35 : decode cX9_readCosts 35 = .ok (.aload_n 1, 1) := by decide +kernel
theorem dX9_readCosts_36 : decode cX9_readCosts 36 = .ok (.getfield 85, 3) := by decide +kernel
theorem dX9_readCosts_39 : decode cX9_readCosts 39 = .ok (.putfield 91, 3) := by decide +kernel
theorem dX9_readCosts_42 : decode cX9_readCosts 42 = .ok (.aload_n 1, 1) := by decide +kernel
theorem dX9_readCosts_43 : decode cX9_readCosts 43 = .ok (.iconst 0, 1) := by decide +kernel
theorem dX9_readCosts_44 : decode cX9_readCosts 44 = .ok (.bipush 99, 2) := by decide +kernel
theorem dX9_readCosts_46 : decode cX9_readCosts 46 = .ok (.invokevirtual 81, 3) := by decide +kernel
theorem dX9_readCosts_49 : decode cX9_readCosts 49 = .ok (.ifCond .ne 5, 3) := by decide +kernel
theorem dX9_readCosts_54 : decode cX9_readCosts 54 = .ok (.aload_n 2, 1) := by decide +kernel
theorem dX9_readCosts_55 : decode cX9_readCosts 55 = .ok (.aload_n 1, 1) := by decide +kernel
theorem dX9_readCosts_56 : decode cX9_readCosts 56 = .ok (.getfield 85, 3) := by decide +kernel
theorem dX9_readCosts_59 : decode cX9_readCosts 59 = .ok (.putfield 94, 3) := by decide +kernel
theorem dX9_readCosts_62 : decode cX9_readCosts 62 = .ok (.aload_n 1, 1) := by decide +kernel
theorem dX9_readCosts_63 : decode cX9_readCosts 63 = .ok (.iconst 0, 1) := by decide +kernel
theorem dX9_readCosts_64 : decode cX9_readCosts 64 = .ok (.bipush 99, 2) := by decide +kernel
theorem dX9_readCosts_66 : decode cX9_readCosts 66 = .ok (.invokevirtual 81, 3) := by decide +kernel
theorem dX9_readCosts_69 : decode cX9_readCosts 69 = .ok (.ifCond .ne 5, 3) := by decide +kernel
theorem dX9_readCosts_74 : decode cX9_readCosts 74 = .ok (.aload_n 2, 1) := by decide +kernel
theorem dX9_readCosts_75 : decode cX9_readCosts 75 = .ok (.aload_n 1, 1) := by decide +kernel
theorem dX9_readCosts_76 : decode cX9_readCosts 76 = .ok (.getfield 85, 3) := by decide +kernel
theorem dX9_readCosts_79 : decode cX9_readCosts 79 = .ok (.putfield 97, 3) := by decide +kernel
theorem dX9_readCosts_82 : decode cX9_readCosts 82 = .ok (.iconst 1, 1) := by decide +kernel
theorem dX9_readCosts_83 : decode cX9_readCosts 83 = .ok (.ireturn, 1) := by decide +kernel
theorem dX9_readCosts_72 : decode cX9_readCosts 72 = .ok (.iconst 0, 1) := by decide +kernel
theorem dX9_readCosts_73 : decode cX9_readCosts 73 = .ok (.ireturn, 1) := by decide +kernel
theorem dX9_readCosts_52 : decode cX9_readCosts 52 = .ok (.iconst 0, 1) := by decide +kernel
theorem dX9_readCosts_53 : decode cX9_readCosts 53 = .ok (.ireturn, 1) := by decide +kernel
theorem dX9_readCosts_32 : decode cX9_readCosts 32 = .ok (.iconst 0, 1) := by decide +kernel
theorem dX9_readCosts_33 : decode cX9_readCosts 33 = .ok (.ireturn, 1) := by decide +kernel
theorem dX9_readCosts_7 : decode cX9_readCosts 7 = .ok (.aload_n 1, 1) := by decide +kernel
theorem dX9_readCosts_8 : decode cX9_readCosts 8 = .ok (.iconst 3, 1) := by decide +kernel
theorem dX9_readCosts_9 : decode cX9_readCosts 9 = .ok (.invokevirtual 75, 3) := by decide +kernel
theorem dX9_readCosts_12 : decode cX9_readCosts 12 = .ok (.ireturn, 1) := by decide +kernel
theorem dX9_readMiss_0 : decode cX9_readMiss 0 = .ok (.aload_n 0, 1) := by decide +kernel
theorem dX9_readMiss_1 : decode cX9_readMiss 1 = .ok (.getfield 18, 3) := by decide +kernel
theorem dX9_readMiss_4 : decode cX9_readMiss 4 = .ok (.ifCond .eq 9, 3) := by decide +kernel
theorem dX9_readMiss_13 : decode cX9_readMiss 13 = .ok (.aload_n 0, 1) := by decide +kernel
theorem dX9_readMiss_14 : decode cX9_readMiss 14 = .ok (.iconst 1, 1) := by decide +kernel
theorem dX9_readMiss_15 : decode cX9_readMiss 15 = .ok (.putfield 18, 3) := by decide +kernel
theorem dX9_readMiss_18 : decode cX9_readMiss 18 = .ok (.aload_n 1, 1) := by decide +kernel
theorem dX9_readMiss_19 : decode cX9_readMiss 19 = .ok (.invokevirtual 78, 3) := by decide +kernel
theorem dX9_readMiss_22 : decode cX9_readMiss 22 = .ok (.aload_n 1, 1) := by decide +kernel
theorem dX9_readMiss_23 : decode cX9_readMiss 23 = .ok (.iconst 1, 1) := by decide +kernel
theorem dX9_readMiss_24 : decode cX9_readMiss 24 = .ok (.bipush 9, 2) := by decide +kernel
theorem dX9_readMiss_26 : decode cX9_readMiss 26 = .ok (.invokevirtual 81, 3) := by decide +kernel
theorem dX9_readMiss_29 : decode cX9_readMiss 29 = .ok (.ifCond .ne 5, 3) := by decide +kernel
theorem dX9_readMiss_34 : decode cX9_readMiss 34 = .ok (.aload_n 2, 1) := by decide +kernel
theorem dX9_readMiss_35 : decode cX9_readMiss 35 = .ok (.aload_n 1, 1) := by decide +kernel
theorem dX9_readMiss_36 : decode cX9_readMiss 36 = .ok (.getfield 85, 3) := by decide +kernel
theorem dX9_readMiss_39 : decode cX9_readMiss 39 = .ok (.putfield 100, 3) := by decide +kernel
theorem dX9_readMiss_42 : decode cX9_readMiss 42 = .ok (.iconst 1, 1) := by decide +kernel
theorem dX9_readMiss_43 : decode cX9_readMiss 43 = .ok (.ireturn, 1) := by decide +kernel
theorem dX9_readMiss_32 : decode cX9_readMiss 32 = .ok (.iconst 0, 1) := by decide +kernel
theorem dX9_readMiss_33 : decode cX9_readMiss 33 = .ok (.ireturn, 1) := by decide +kernel
theorem dX9_readMiss_7 : decode cX9_readMiss 7 = .ok (.aload_n 1, 1) := by decide +kernel
theorem dX9_readMiss_8 : decode cX9_readMiss 8 = .ok (.iconst 3, 1) := by decide +kernel
theorem dX9_readMiss_9 : decode cX9_readMiss 9 = .ok (.invokevirtual 75, 3) := by decide +kernel
theorem dX9_readMiss_12 : decode cX9_readMiss 12 = .ok (.ireturn, 1) := by decide +kernel
theorem dX10_addNode_0 : decode cX10_addNode 0 = .ok (.aload_n 0, 1) := by decide +kernel
theorem dX10_addNode_1 : decode cX10_addNode 1 = .ok (.getfield 35, 3) := by decide +kernel
theorem dX10_addNode_4 : decode cX10_addNode 4 = .ok (.aload_n 0, 1) := by decide +kernel
theorem dX10_addNode_5 : decode cX10_addNode 5 = .ok (.getfield 13, 3) := by decide +kernel
theorem dX10_addNode_8 : decode cX10_addNode 8 = .ok (.arraylength, 1) := by decide +kernel
theorem dX10_addNode_9 : decode cX10_addNode 9 = .ok (.if_icmp .lt 4, 3) := by decide +kernel
theorem dX10_addNode_13 : decode cX10_addNode 13 = .ok (.aload_n 0, 1) := by decide +kernel
theorem dX10_addNode_14 : decode cX10_addNode 14 = .ok (.aload_n 0, 1) := by decide +kernel
theorem dX10_addNode_15 : decode cX10_addNode 15 = .ok (.getfield 35, 3) := by decide +kernel
theorem dX10_addNode_18 : decode cX10_addNode 18 = .ok (.invokevirtual 66, 3) := by decide +kernel
theorem dX10_addNode_21 : decode cX10_addNode 21 = .ok (.astore 6, 2) := by decide +kernel
theorem dX10_addNode_23 : decode cX10_addNode 23 = .ok (.aload 6, 2) := by decide +kernel
theorem dX10_addNode_25 : decode cX10_addNode 25 = .ok (.lload_n 1, 1) := by decide +kernel
theorem dX10_addNode_26 : decode cX10_addNode 26 = .ok (.putfield 88, 3) := by decide +kernel
theorem dX10_addNode_29 : decode cX10_addNode 29 = .ok (.aload 6, 2) := by decide +kernel
theorem dX10_addNode_31 : decode cX10_addNode 31 = .ok (.lconst 0, 1) := by decide +kernel
theorem dX10_addNode_32 : decode cX10_addNode 32 = .ok (.putfield 92, 3) := by decide +kernel
theorem dX10_addNode_35 : decode cX10_addNode 35 = .ok (.aload 6, 2) := by decide +kernel
theorem dX10_addNode_37 : decode cX10_addNode 37 = .ok (.iload_n 3, 1) := by decide +kernel
theorem dX10_addNode_38 : decode cX10_addNode 38 = .ok (.putfield 95, 3) := by decide +kernel
theorem dX10_addNode_41 : decode cX10_addNode 41 = .ok (.aload 6, 2) := by decide +kernel
theorem dX10_addNode_43 : decode cX10_addNode 43 = .ok (.iload 4, 2) := by decide +kernel
theorem dX10_addNode_45 : decode cX10_addNode 45 = .ok (.putfield 98, 3) := by decide +kernel
theorem dX10_addNode_48 : decode cX10_addNode 48 = .ok (.aload 6, 2) := by decide +kernel
theorem dX10_addNode_50 : decode cX10_addNode 50 = .ok (.iload 5, 2) := by decide +kernel
theorem dX10_addNode_52 : decode cX10_addNode 52 = .ok (.putfield 101, 3) := by decide +kernel
theorem dX10_addNode_55 : decode cX10_addNode 55 = .ok (.aload 6, 2) := by decide +kernel
theorem dX10_addNode_57 : decode cX10_addNode 57 = .ok (.iconst 0, 1) := by decide +kernel
theorem dX10_addNode_58 : decode cX10_addNode 58 = .ok (.putfield 104, 3) := by decide +kernel
theorem dX10_addNode_61 : decode cX10_addNode 61 = .ok (.aload 6, 2) := by decide +kernel
theorem dX10_addNode_63 : decode cX10_addNode 63 = .ok (.iconst 0, 1) := by decide +kernel
theorem dX10_addNode_64 : decode cX10_addNode 64 = .ok (.putfield 107, 3) := by decide +kernel
theorem dX10_addNode_67 : decode cX10_addNode 67 = .ok (.aload 6, 2) := by decide +kernel
theorem dX10_addNode_69 : decode cX10_addNode 69 = .ok (.iconst 0, 1) := by decide +kernel
theorem dX10_addNode_70 : decode cX10_addNode 70 = .ok (.putfield 110, 3) := by decide +kernel
theorem dX10_addNode_73 : decode cX10_addNode 73 = .ok (.aload 6, 2) := by decide +kernel
theorem dX10_addNode_75 : decode cX10_addNode 75 = .ok (.iconst 0, 1) := by decide +kernel
theorem dX10_addNode_76 : decode cX10_addNode 76 = .ok (.putfield 113, 3) := by decide +kernel
theorem dX10_addNode_79 : decode cX10_addNode 79 = .ok (.aload_n 0, 1) := by decide +kernel
theorem dX10_addNode_80 : decode cX10_addNode 80 = .ok (.dup, 1) := by decide +kernel
theorem dX10_addNode_81 : decode cX10_addNode 81 = .ok (.getfield 35, 3) := by decide +kernel
theorem dX10_addNode_84 : decode cX10_addNode 84 = .ok (.iconst 1, 1) := by decide +kernel
theorem dX10_addNode_85 : decode cX10_addNode 85 = .ok (.iadd, 1) := by decide +kernel
theorem dX10_addNode_86 : decode cX10_addNode 86 = .ok (.putfield 35, 3) := by decide +kernel
theorem dX10_addNode_89 : decode cX10_addNode 89 = .ok (.return_, 1) := by decide +kernel
theorem dX10_addNode_12 : decode cX10_addNode 12 = .ok (.return_, 1) := by decide +kernel
theorem dX10_addLink_0 : decode cX10_addLink 0 = .ok (.aload_n 0, 1) := by decide +kernel
theorem dX10_addLink_1 : decode cX10_addLink 1 = .ok (.getfield 39, 3) := by decide +kernel
theorem dX10_addLink_4 : decode cX10_addLink 4 = .ok (.aload_n 0, 1) := by decide +kernel
theorem dX10_addLink_5 : decode cX10_addLink 5 = .ok (.getfield 19, 3) := by decide +kernel
theorem dX10_addLink_8 : decode cX10_addLink 8 = .ok (.arraylength, 1) := by decide +kernel
theorem dX10_addLink_9 : decode cX10_addLink 9 = .ok (.if_icmp .lt 4, 3) := by decide +kernel
theorem dX10_addLink_13 : decode cX10_addLink 13 = .ok (.aload_n 0, 1) := by decide +kernel
theorem dX10_addLink_14 : decode cX10_addLink 14 = .ok (.aload_n 0, 1) := by decide +kernel
theorem dX10_addLink_15 : decode cX10_addLink 15 = .ok (.getfield 39, 3) := by decide +kernel
theorem dX10_addLink_18 : decode cX10_addLink 18 = .ok (.invokevirtual 74, 3) := by decide +kernel
theorem dX10_addLink_21 : decode cX10_addLink 21 = .ok (.astore_n 3, 1) := by decide +kernel
theorem dX10_addLink_22 : decode cX10_addLink 22 = .ok (.aload_n 3, 1) := by decide +kernel
theorem dX10_addLink_23 : decode cX10_addLink 23 = .ok (.iload_n 1, 1) := by decide +kernel
theorem dX10_addLink_24 : decode cX10_addLink 24 = .ok (.putfield 116, 3) := by decide +kernel
theorem dX10_addLink_27 : decode cX10_addLink 27 = .ok (.aload_n 3, 1) := by decide +kernel
theorem dX10_addLink_28 : decode cX10_addLink 28 = .ok (.iload_n 2, 1) := by decide +kernel
theorem dX10_addLink_29 : decode cX10_addLink 29 = .ok (.putfield 119, 3) := by decide +kernel
theorem dX10_addLink_32 : decode cX10_addLink 32 = .ok (.aload_n 3, 1) := by decide +kernel
theorem dX10_addLink_33 : decode cX10_addLink 33 = .ok (.iconst 0, 1) := by decide +kernel
theorem dX10_addLink_34 : decode cX10_addLink 34 = .ok (.putfield 122, 3) := by decide +kernel
theorem dX10_addLink_37 : decode cX10_addLink 37 = .ok (.aload_n 3, 1) := by decide +kernel
theorem dX10_addLink_38 : decode cX10_addLink 38 = .ok (.iconst 0, 1) := by decide +kernel
theorem dX10_addLink_39 : decode cX10_addLink 39 = .ok (.putfield 125, 3) := by decide +kernel
theorem dX10_addLink_42 : decode cX10_addLink 42 = .ok (.aload_n 3, 1) := by decide +kernel
theorem dX10_addLink_43 : decode cX10_addLink 43 = .ok (.iconst 0, 1) := by decide +kernel
theorem dX10_addLink_44 : decode cX10_addLink 44 = .ok (.putfield 128, 3) := by decide +kernel
theorem dX10_addLink_47 : decode cX10_addLink 47 = .ok (.aload_n 0, 1) := by decide +kernel
theorem dX10_addLink_48 : decode cX10_addLink 48 = .ok (.iload_n 1, 1) := by decide +kernel
theorem dX10_addLink_49 : decode cX10_addLink 49 = .ok (.invokevirtual 66, 3) := by decide +kernel
theorem dX10_addLink_52 : decode cX10_addLink 52 = .ok (.dup, 1) := by decide +kernel
theorem dX10_addLink_53 : decode cX10_addLink 53 = .ok (.getfield 104, 3) := by decide +kernel
theorem dX10_addLink_56 : decode cX10_addLink 56 = .ok (.iconst 1, 1) := by decide +kernel
theorem dX10_addLink_57 : decode cX10_addLink 57 = .ok (.iload_n 2, 1) := by decide +kernel
theorem dX10_addLink_58 : decode cX10_addLink 58 = .ok (.ishl, 1) := by decide +kernel
theorem dX10_addLink_59 : decode cX10_addLink 59 = .ok (.ior, 1) := by decide +kernel
theorem dX10_addLink_60 : decode cX10_addLink 60 = .ok (.putfield 104, 3) := by decide +kernel
theorem dX10_addLink_63 : decode cX10_addLink 63 = .ok (.aload_n 0, 1) := by decide +kernel
theorem dX10_addLink_64 : decode cX10_addLink 64 = .ok (.iload_n 2, 1) := by decide +kernel
theorem dX10_addLink_65 : decode cX10_addLink 65 = .ok (.invokevirtual 66, 3) := by decide +kernel
theorem dX10_addLink_68 : decode cX10_addLink 68 = .ok (.dup, 1) := by decide +kernel
theorem dX10_addLink_69 : decode cX10_addLink 69 = .ok (.getfield 104, 3) := by decide +kernel
theorem dX10_addLink_72 : decode cX10_addLink 72 = .ok (.iconst 1, 1) := by decide +kernel
theorem dX10_addLink_73 : decode cX10_addLink 73 = .ok (.iload_n 1, 1) := by decide +kernel
theorem dX10_addLink_74 : decode cX10_addLink 74 = .ok (.ishl, 1) := by decide +kernel
theorem dX10_addLink_75 : decode cX10_addLink 75 = .ok (.ior, 1) := by decide +kernel
theorem dX10_addLink_76 : decode cX10_addLink 76 = .ok (.putfield 104, 3) := by decide +kernel
theorem dX10_addLink_79 : decode cX10_addLink 79 = .ok (.aload_n 0, 1) := by decide +kernel
theorem dX10_addLink_80 : decode cX10_addLink 80 = .ok (.dup, 1) := by decide +kernel
theorem dX10_addLink_81 : decode cX10_addLink 81 = .ok (.getfield 39, 3) := by decide +kernel
theorem dX10_addLink_84 : decode cX10_addLink 84 = .ok (.iconst 1, 1) := by decide +kernel
theorem dX10_addLink_85 : decode cX10_addLink 85 = .ok (.iadd, 1) := by decide +kernel
theorem dX10_addLink_86 : decode cX10_addLink 86 = .ok (.putfield 39, 3) := by decide +kernel
theorem dX10_addLink_89 : decode cX10_addLink 89 = .ok (.return_, 1) := by decide +kernel
theorem dX10_addLink_12 : decode cX10_addLink 12 = .ok (.return_, 1) := by decide +kernel
theorem dX9_readLink_0 : decode cX9_readLink 0 = .ok (.aload_n 2, 1) := by decide +kernel
theorem dX9_readLink_1 : decode cX9_readLink 1 = .ok (.getfield 130, 3) := by decide +kernel
theorem dX9_readLink_4 : decode cX9_readLink 4 = .ok (.bipush 16, 2) := by decide +kernel
theorem dX9_readLink_6 : decode cX9_readLink 6 = .ok (.if_icmp .lt 9, 3) := by decide +kernel
theorem dX9_readLink_15 : decode cX9_readLink 15 = .ok (.aload_n 1, 1) := by decide +kernel
theorem dX9_readLink_16 : decode cX9_readLink 16 = .ok (.invokevirtual 78, 3) := by decide +kernel
theorem dX9_readLink_19 : decode cX9_readLink 19 = .ok (.aload_n 1, 1) := by decide +kernel
theorem dX9_readLink_20 : decode cX9_readLink 20 = .ok (.aload_n 2, 1) := by decide +kernel
theorem dX9_readLink_21 : decode cX9_readLink 21 = .ok (.invokevirtual 133, 3) := by decide +kernel
theorem dX9_readLink_24 : decode cX9_readLink 24 = .ok (.istore_n 3, 1) := by decide +kernel
theorem dX9_readLink_25 : decode cX9_readLink 25 = .ok (.iload_n 3, 1) := by decide +kernel
theorem dX9_readLink_26 : decode cX9_readLink 26 = .ok (.iconst (-1), 1) := by decide +kernel
theorem dX9_readLink_27 : decode cX9_readLink 27 = .ok (.if_icmp .ne 5, 3) := by decide +kernel
theorem dX9_readLink_32 : decode cX9_readLink 32 = .ok (.aload_n 1, 1) := by decide +kernel
theorem dX9_readLink_33 : decode cX9_readLink 33 = .ok (.invokevirtual 78, 3) := by decide +kernel
theorem dX9_readLink_36 : decode cX9_readLink 36 = .ok (.aload_n 1, 1) := by decide +kernel
theorem dX9_readLink_37 : decode cX9_readLink 37 = .ok (.aload_n 2, 1) := by decide +kernel
theorem dX9_readLink_38 : decode cX9_readLink 38 = .ok (.invokevirtual 133, 3) := by decide +kernel
theorem dX9_readLink_41 : decode cX9_readLink 41 = .ok (.istore 4, 2) := by decide +kernel
theorem dX9_readLink_43 : decode cX9_readLink 43 = .ok (.iload 4, 2) := by decide +kernel
theorem dX9_readLink_45 : decode cX9_readLink 45 = .ok (.iconst (-1), 1) := by decide +kernel
theorem dX9_readLink_46 : decode cX9_readLink 46 = .ok (.if_icmp .ne 5, 3) := by decide +kernel
theorem dX9_readLink_51 : decode cX9_readLink 51 = .ok (.iload 4, 2) := by decide +kernel
theorem dX9_readLink_53 : decode cX9_readLink 53 = .ok (.iload_n 3, 1) := by decide +kernel
theorem dX9_readLink_54 : decode cX9_readLink 54 = .ok (.if_icmp .eq 19, 3) := by decide +kernel
theorem dX9_readLink_57 : decode cX9_readLink 57 = .ok (.aload_n 2, 1) := by decide +kernel
theorem dX9_readLink_58 : decode cX9_readLink 58 = .ok (.iload_n 3, 1) := by decide +kernel
theorem dX9_readLink_59 : decode cX9_readLink 59 = .ok (.invokevirtual 137, 3) := by decide +kernel
theorem dX9_readLink_62 : decode cX9_readLink 62 = .ok (.getfield 141, 3) := by decide +kernel
theorem dX9_readLink_65 : decode cX9_readLink 65 = .ok (.iload 4, 2) := by decide +kernel
theorem dX9_readLink_67 : decode cX9_readLink 67 = .ok (.invokestatic 146, 3) := by decide +kernel
theorem dX9_readLink_70 : decode cX9_readLink 70 = .ok (.ifCond .eq 9, 3) := by decide +kernel
theorem dX9_readLink_79 : decode cX9_readLink 79 = .ok (.aload_n 1, 1) := by decide +kernel
theorem dX9_readLink_80 : decode cX9_readLink 80 = .ok (.invokevirtual 78, 3) := by decide +kernel
theorem dX9_readLink_83 : decode cX9_readLink 83 = .ok (.aload_n 2, 1) := by decide +kernel
theorem dX9_readLink_84 : decode cX9_readLink 84 = .ok (.iload_n 3, 1) := by decide +kernel
theorem dX9_readLink_85 : decode cX9_readLink 85 = .ok (.iload 4, 2) := by decide +kernel
theorem dX9_readLink_87 : decode cX9_readLink 87 = .ok (.invokevirtual 149, 3) := by decide +kernel
theorem dX9_readLink_90 : decode cX9_readLink 90 = .ok (.iconst 1, 1) := by decide +kernel
theorem dX9_readLink_91 : decode cX9_readLink 91 = .ok (.ireturn, 1) := by decide +kernel
theorem dX9_readLink_49 : decode cX9_readLink 49 = .ok (.iconst 0, 1) := by decide +kernel
theorem dX9_readLink_50 : decode cX9_readLink 50 = .ok (.ireturn, 1) := by decide +kernel
theorem dX9_readLink_30 : decode cX9_readLink 30 = .ok (.iconst 0, 1) := by decide +kernel
theorem dX9_readLink_31 : decode cX9_readLink 31 = .ok (.ireturn, 1) := by decide +kernel
theorem dX9_readLink_9 : decode cX9_readLink 9 = .ok (.aload_n 1, 1) := by decide +kernel
theorem dX9_readLink_10 : decode cX9_readLink 10 = .ok (.iconst 5, 1) := by decide +kernel
theorem dX9_readLink_11 : decode cX9_readLink 11 = .ok (.invokevirtual 75, 3) := by decide +kernel
theorem dX9_readLink_14 : decode cX9_readLink 14 = .ok (.ireturn, 1) := by decide +kernel
theorem dX9_readLink_73 : decode cX9_readLink 73 = .ok (.aload_n 1, 1) := by decide +kernel
theorem dX9_readLink_74 : decode cX9_readLink 74 = .ok (.iconst 3, 1) := by decide +kernel
theorem dX9_readLink_75 : decode cX9_readLink 75 = .ok (.invokevirtual 75, 3) := by decide +kernel
theorem dX9_readLink_78 : decode cX9_readLink 78 = .ok (.ireturn, 1) := by decide +kernel
theorem dX10_foldDays_0 : decode cX10_foldDays 0 = .ok (.iconst 0, 1) := by decide +kernel
theorem dX10_foldDays_1 : decode cX10_foldDays 1 = .ok (.istore_n 1, 1) := by decide +kernel
theorem dX10_foldDays_2 : decode cX10_foldDays 2 = .ok (.iload_n 1, 1) := by decide +kernel
theorem dX10_foldDays_3 : decode cX10_foldDays 3 = .ok (.aload_n 0, 1) := by decide +kernel
theorem dX10_foldDays_4 : decode cX10_foldDays 4 = .ok (.getfield 35, 3) := by decide +kernel
theorem dX10_foldDays_7 : decode cX10_foldDays 7 = .ok (.if_icmp .ge 49, 3) := by decide +kernel
theorem dX10_foldDays_56 : decode cX10_foldDays 56 = .ok (.return_, 1) := by decide +kernel
theorem dX10_foldDays_10 : decode cX10_foldDays 10 = .ok (.aload_n 0, 1) := by decide +kernel
theorem dX10_foldDays_11 : decode cX10_foldDays 11 = .ok (.iload_n 1, 1) := by decide +kernel
theorem dX10_foldDays_12 : decode cX10_foldDays 12 = .ok (.invokevirtual 66, 3) := by decide +kernel
theorem dX10_foldDays_15 : decode cX10_foldDays 15 = .ok (.aload_n 0, 1) := by decide +kernel
theorem dX10_foldDays_16 : decode cX10_foldDays 16 = .ok (.aload_n 0, 1) := by decide +kernel
theorem dX10_foldDays_17 : decode cX10_foldDays 17 = .ok (.iload_n 1, 1) := by decide +kernel
theorem dX10_foldDays_18 : decode cX10_foldDays 18 = .ok (.invokevirtual 66, 3) := by decide +kernel
theorem dX10_foldDays_21 : decode cX10_foldDays 21 = .ok (.getfield 95, 3) := by decide +kernel
theorem dX10_foldDays_24 : decode cX10_foldDays 24 = .ok (.invokevirtual 156, 3) := by decide +kernel
theorem dX10_foldDays_27 : decode cX10_foldDays 27 = .ok (.putfield 95, 3) := by decide +kernel
theorem dX10_foldDays_30 : decode cX10_foldDays 30 = .ok (.aload_n 0, 1) := by decide +kernel
theorem dX10_foldDays_31 : decode cX10_foldDays 31 = .ok (.iload_n 1, 1) := by decide +kernel
theorem dX10_foldDays_32 : decode cX10_foldDays 32 = .ok (.invokevirtual 66, 3) := by decide +kernel
theorem dX10_foldDays_35 : decode cX10_foldDays 35 = .ok (.aload_n 0, 1) := by decide +kernel
theorem dX10_foldDays_36 : decode cX10_foldDays 36 = .ok (.aload_n 0, 1) := by decide +kernel
theorem dX10_foldDays_37 : decode cX10_foldDays 37 = .ok (.iload_n 1, 1) := by decide +kernel
theorem dX10_foldDays_38 : decode cX10_foldDays 38 = .ok (.invokevirtual 66, 3) := by decide +kernel
theorem dX10_foldDays_41 : decode cX10_foldDays 41 = .ok (.getfield 98, 3) := by decide +kernel
theorem dX10_foldDays_44 : decode cX10_foldDays 44 = .ok (.invokevirtual 156, 3) := by decide +kernel
theorem dX10_foldDays_47 : decode cX10_foldDays 47 = .ok (.putfield 98, 3) := by decide +kernel
theorem dX10_foldDays_50 : decode cX10_foldDays 50 = .ok (.iinc 1 1, 3) := by decide +kernel
theorem dX10_foldDays_53 : decode cX10_foldDays 53 = .ok (.goto (-51), 3) := by decide +kernel
theorem dX10_energySum_0 : decode cX10_energySum 0 = .ok (.iconst 0, 1) := by decide +kernel
theorem dX10_energySum_1 : decode cX10_energySum 1 = .ok (.istore_n 1, 1) := by decide +kernel
theorem dX10_energySum_2 : decode cX10_energySum 2 = .ok (.iconst 0, 1) := by decide +kernel
theorem dX10_energySum_3 : decode cX10_energySum 3 = .ok (.istore_n 2, 1) := by decide +kernel
theorem dX10_energySum_4 : decode cX10_energySum 4 = .ok (.iload_n 2, 1) := by decide +kernel
theorem dX10_energySum_5 : decode cX10_energySum 5 = .ok (.aload_n 0, 1) := by decide +kernel
theorem dX10_energySum_6 : decode cX10_energySum 6 = .ok (.getfield 35, 3) := by decide +kernel
theorem dX10_energySum_9 : decode cX10_energySum 9 = .ok (.if_icmp .ge 20, 3) := by decide +kernel
theorem dX10_energySum_29 : decode cX10_energySum 29 = .ok (.iload_n 1, 1) := by decide +kernel
theorem dX10_energySum_30 : decode cX10_energySum 30 = .ok (.ireturn, 1) := by decide +kernel
theorem dX10_energySum_12 : decode cX10_energySum 12 = .ok (.iload_n 1, 1) := by decide +kernel
theorem dX10_energySum_13 : decode cX10_energySum 13 = .ok (.aload_n 0, 1) := by decide +kernel
theorem dX10_energySum_14 : decode cX10_energySum 14 = .ok (.iload_n 2, 1) := by decide +kernel
theorem dX10_energySum_15 : decode cX10_energySum 15 = .ok (.invokevirtual 66, 3) := by decide +kernel
theorem dX10_energySum_18 : decode cX10_energySum 18 = .ok (.getfield 101, 3) := by decide +kernel
theorem dX10_energySum_21 : decode cX10_energySum 21 = .ok (.iadd, 1) := by decide +kernel
theorem dX10_energySum_22 : decode cX10_energySum 22 = .ok (.istore_n 1, 1) := by decide +kernel
theorem dX10_energySum_23 : decode cX10_energySum 23 = .ok (.iinc 2 1, 3) := by decide +kernel
theorem dX10_energySum_26 : decode cX10_energySum 26 = .ok (.goto (-22), 3) := by decide +kernel
theorem dX10_messagesInState_0 : decode cX10_messagesInState 0 = .ok (.iconst 0, 1) := by decide +kernel
theorem dX10_messagesInState_1 : decode cX10_messagesInState 1 = .ok (.istore_n 2, 1) := by decide +kernel
theorem dX10_messagesInState_2 : decode cX10_messagesInState 2 = .ok (.iconst 0, 1) := by decide +kernel
theorem dX10_messagesInState_3 : decode cX10_messagesInState 3 = .ok (.istore_n 3, 1) := by decide +kernel
theorem dX10_messagesInState_4 : decode cX10_messagesInState 4 = .ok (.iload_n 3, 1) := by decide +kernel
theorem dX10_messagesInState_5 : decode cX10_messagesInState 5 = .ok (.aload_n 0, 1) := by decide +kernel
theorem dX10_messagesInState_6 : decode cX10_messagesInState 6 = .ok (.getfield 42, 3) := by decide +kernel
theorem dX10_messagesInState_9 : decode cX10_messagesInState 9 = .ok (.if_icmp .ge 24, 3) := by decide +kernel
theorem dX10_messagesInState_33 : decode cX10_messagesInState 33 = .ok (.iload_n 2, 1) := by decide +kernel
theorem dX10_messagesInState_34 : decode cX10_messagesInState 34 = .ok (.ireturn, 1) := by decide +kernel
theorem dX10_messagesInState_12 : decode cX10_messagesInState 12 = .ok (.aload_n 0, 1) := by decide +kernel
theorem dX10_messagesInState_13 : decode cX10_messagesInState 13 = .ok (.iload_n 3, 1) := by decide +kernel
theorem dX10_messagesInState_14 : decode cX10_messagesInState 14 = .ok (.invokevirtual 81, 3) := by decide +kernel
theorem dX10_messagesInState_17 : decode cX10_messagesInState 17 = .ok (.getfield 140, 3) := by decide +kernel
theorem dX10_messagesInState_20 : decode cX10_messagesInState 20 = .ok (.iload_n 1, 1) := by decide +kernel
theorem dX10_messagesInState_21 : decode cX10_messagesInState 21 = .ok (.if_icmp .ne 6, 3) := by decide +kernel
theorem dX10_messagesInState_24 : decode cX10_messagesInState 24 = .ok (.iinc 2 1, 3) := by decide +kernel
theorem dX10_messagesInState_27 : decode cX10_messagesInState 27 = .ok (.iinc 3 1, 3) := by decide +kernel
theorem dX10_messagesInState_30 : decode cX10_messagesInState 30 = .ok (.goto (-26), 3) := by decide +kernel
theorem dX10_messagesInTime_0 : decode cX10_messagesInTime 0 = .ok (.iconst 0, 1) := by decide +kernel
theorem dX10_messagesInTime_1 : decode cX10_messagesInTime 1 = .ok (.istore_n 1, 1) := by decide +kernel
theorem dX10_messagesInTime_2 : decode cX10_messagesInTime 2 = .ok (.iconst 0, 1) := by decide +kernel
theorem dX10_messagesInTime_3 : decode cX10_messagesInTime 3 = .ok (.istore_n 2, 1) := by decide +kernel
theorem dX10_messagesInTime_4 : decode cX10_messagesInTime 4 = .ok (.iload_n 2, 1) := by decide +kernel
theorem dX10_messagesInTime_5 : decode cX10_messagesInTime 5 = .ok (.aload_n 0, 1) := by decide +kernel
theorem dX10_messagesInTime_6 : decode cX10_messagesInTime 6 = .ok (.getfield 42, 3) := by decide +kernel
theorem dX10_messagesInTime_9 : decode cX10_messagesInTime 9 = .ok (.if_icmp .ge 37, 3) := by decide +kernel
theorem dX10_messagesInTime_46 : decode cX10_messagesInTime 46 = .ok (.iload_n 1, 1) := by decide +kernel
theorem dX10_messagesInTime_47 : decode cX10_messagesInTime 47 = .ok (.ireturn, 1) := by decide +kernel
theorem dX10_messagesInTime_12 : decode cX10_messagesInTime 12 = .ok (.aload_n 0, 1) := by decide +kernel
theorem dX10_messagesInTime_13 : decode cX10_messagesInTime 13 = .ok (.iload_n 2, 1) := by decide +kernel
theorem dX10_messagesInTime_14 : decode cX10_messagesInTime 14 = .ok (.invokevirtual 81, 3) := by decide +kernel
theorem dX10_messagesInTime_17 : decode cX10_messagesInTime 17 = .ok (.astore_n 3, 1) := by decide +kernel
theorem dX10_messagesInTime_18 : decode cX10_messagesInTime 18 = .ok (.aload_n 3, 1) := by decide +kernel
theorem dX10_messagesInTime_19 : decode cX10_messagesInTime 19 = .ok (.getfield 140, 3) := by decide +kernel
theorem dX10_messagesInTime_22 : decode cX10_messagesInTime 22 = .ok (.iconst 1, 1) := by decide +kernel
theorem dX10_messagesInTime_23 : decode cX10_messagesInTime 23 = .ok (.if_icmp .ne 17, 3) := by decide +kernel
theorem dX10_messagesInTime_26 : decode cX10_messagesInTime 26 = .ok (.aload_n 3, 1) := by decide +kernel
theorem dX10_messagesInTime_27 : decode cX10_messagesInTime 27 = .ok (.getfield 146, 3) := by decide +kernel
theorem dX10_messagesInTime_30 : decode cX10_messagesInTime 30 = .ok (.aload_n 3, 1) := by decide +kernel
theorem dX10_messagesInTime_31 : decode cX10_messagesInTime 31 = .ok (.getfield 143, 3) := by decide +kernel
theorem dX10_messagesInTime_34 : decode cX10_messagesInTime 34 = .ok (.if_icmp .gt 6, 3) := by decide +kernel
theorem dX10_messagesInTime_37 : decode cX10_messagesInTime 37 = .ok (.iinc 1 1, 3) := by decide +kernel
theorem dX10_messagesInTime_40 : decode cX10_messagesInTime 40 = .ok (.iinc 2 1, 3) := by decide +kernel
theorem dX10_messagesInTime_43 : decode cX10_messagesInTime 43 = .ok (.goto (-39), 3) := by decide +kernel
theorem dX10_messagesWaitingAt_0 : decode cX10_messagesWaitingAt 0 = .ok (.iconst 0, 1) := by decide +kernel
theorem dX10_messagesWaitingAt_1 : decode cX10_messagesWaitingAt 1 = .ok (.istore_n 2, 1) := by decide +kernel
theorem dX10_messagesWaitingAt_2 : decode cX10_messagesWaitingAt 2 = .ok (.iconst 0, 1) := by decide +kernel
theorem dX10_messagesWaitingAt_3 : decode cX10_messagesWaitingAt 3 = .ok (.istore_n 3, 1) := by decide +kernel
theorem dX10_messagesWaitingAt_4 : decode cX10_messagesWaitingAt 4 = .ok (.iload_n 3, 1) := by decide +kernel
theorem dX10_messagesWaitingAt_5 : decode cX10_messagesWaitingAt 5 = .ok (.aload_n 0, 1) := by decide +kernel
theorem dX10_messagesWaitingAt_6 : decode cX10_messagesWaitingAt 6 = .ok (.getfield 42, 3) := by decide +kernel
theorem dX10_messagesWaitingAt_9 : decode cX10_messagesWaitingAt 9 = .ok (.if_icmp .ge 21, 3) := by decide +kernel
theorem dX10_messagesWaitingAt_30 : decode cX10_messagesWaitingAt 30 = .ok (.iload_n 2, 1) := by decide +kernel
theorem dX10_messagesWaitingAt_31 : decode cX10_messagesWaitingAt 31 = .ok (.ireturn, 1) := by decide +kernel
theorem dX10_messagesWaitingAt_12 : decode cX10_messagesWaitingAt 12 = .ok (.aload_n 0, 1) := by decide +kernel
theorem dX10_messagesWaitingAt_13 : decode cX10_messagesWaitingAt 13 = .ok (.iload_n 3, 1) := by decide +kernel
theorem dX10_messagesWaitingAt_14 : decode cX10_messagesWaitingAt 14 = .ok (.iload_n 1, 1) := by decide +kernel
theorem dX10_messagesWaitingAt_15 : decode cX10_messagesWaitingAt 15 = .ok (.invokevirtual 185, 3) := by decide +kernel
theorem dX10_messagesWaitingAt_18 : decode cX10_messagesWaitingAt 18 = .ok (.ifCond .eq 6, 3) := by decide +kernel
theorem dX10_messagesWaitingAt_21 : decode cX10_messagesWaitingAt 21 = .ok (.iinc 2 1, 3) := by decide +kernel
theorem dX10_messagesWaitingAt_24 : decode cX10_messagesWaitingAt 24 = .ok (.iinc 3 1, 3) := by decide +kernel
theorem dX10_messagesWaitingAt_27 : decode cX10_messagesWaitingAt 27 = .ok (.goto (-23), 3) := by decide +kernel
theorem dX10_figure_0 : decode cX10_figure 0 = .ok (.iload_n 1, 1) := by decide +kernel
theorem dX10_figure_1 : decode cX10_figure 1 = .ok (.tableswitch 101 0 8 #[51, 56, 61, 66, 71, 76, 82, 87, 93], 51) := by decide +kernel
theorem dX10_figure_52 : decode cX10_figure 52 = .ok (.aload_n 0, 1) := by decide +kernel
theorem dX10_figure_53 : decode cX10_figure 53 = .ok (.getfield 35, 3) := by decide +kernel
theorem dX10_figure_56 : decode cX10_figure 56 = .ok (.ireturn, 1) := by decide +kernel
theorem dX10_figure_57 : decode cX10_figure 57 = .ok (.aload_n 0, 1) := by decide +kernel
theorem dX10_figure_58 : decode cX10_figure 58 = .ok (.getfield 39, 3) := by decide +kernel
theorem dX10_figure_61 : decode cX10_figure 61 = .ok (.ireturn, 1) := by decide +kernel
theorem dX10_figure_62 : decode cX10_figure 62 = .ok (.aload_n 0, 1) := by decide +kernel
theorem dX10_figure_63 : decode cX10_figure 63 = .ok (.getfield 45, 3) := by decide +kernel
theorem dX10_figure_66 : decode cX10_figure 66 = .ok (.ireturn, 1) := by decide +kernel
theorem dX10_figure_67 : decode cX10_figure 67 = .ok (.aload_n 0, 1) := by decide +kernel
theorem dX10_figure_68 : decode cX10_figure 68 = .ok (.getfield 60, 3) := by decide +kernel
theorem dX10_figure_71 : decode cX10_figure 71 = .ok (.ireturn, 1) := by decide +kernel
theorem dX10_figure_72 : decode cX10_figure 72 = .ok (.aload_n 0, 1) := by decide +kernel
theorem dX10_figure_73 : decode cX10_figure 73 = .ok (.getfield 42, 3) := by decide +kernel
theorem dX10_figure_76 : decode cX10_figure 76 = .ok (.ireturn, 1) := by decide +kernel
theorem dX10_figure_77 : decode cX10_figure 77 = .ok (.aload_n 0, 1) := by decide +kernel
theorem dX10_figure_78 : decode cX10_figure 78 = .ok (.iconst 1, 1) := by decide +kernel
theorem dX10_figure_79 : decode cX10_figure 79 = .ok (.invokevirtual 188, 3) := by decide +kernel
theorem dX10_figure_82 : decode cX10_figure 82 = .ok (.ireturn, 1) := by decide +kernel
theorem dX10_figure_83 : decode cX10_figure 83 = .ok (.aload_n 0, 1) := by decide +kernel
theorem dX10_figure_84 : decode cX10_figure 84 = .ok (.invokevirtual 191, 3) := by decide +kernel
theorem dX10_figure_87 : decode cX10_figure 87 = .ok (.ireturn, 1) := by decide +kernel
theorem dX10_figure_88 : decode cX10_figure 88 = .ok (.aload_n 0, 1) := by decide +kernel
theorem dX10_figure_89 : decode cX10_figure 89 = .ok (.iconst 2, 1) := by decide +kernel
theorem dX10_figure_90 : decode cX10_figure 90 = .ok (.invokevirtual 188, 3) := by decide +kernel
theorem dX10_figure_93 : decode cX10_figure 93 = .ok (.ireturn, 1) := by decide +kernel
theorem dX10_figure_94 : decode cX10_figure 94 = .ok (.aload_n 0, 1) := by decide +kernel
theorem dX10_figure_95 : decode cX10_figure 95 = .ok (.invokevirtual 195, 3) := by decide +kernel
theorem dX10_figure_98 : decode cX10_figure 98 = .ok (.invokestatic 198, 3) := by decide +kernel
theorem dX10_figure_101 : decode cX10_figure 101 = .ok (.ireturn, 1) := by decide +kernel
theorem dX10_figure_102 : decode cX10_figure 102 = .ok (.aload_n 0, 1) := by decide +kernel
theorem dX10_figure_103 : decode cX10_figure 103 = .ok (.getfield 63, 3) := by decide +kernel
theorem dX10_figure_106 : decode cX10_figure 106 = .ok (.ireturn, 1) := by decide +kernel
theorem dX10_nodeFigure_0 : decode cX10_nodeFigure 0 = .ok (.aload_n 0, 1) := by decide +kernel
theorem dX10_nodeFigure_1 : decode cX10_nodeFigure 1 = .ok (.iload_n 1, 1) := by decide +kernel
theorem dX10_nodeFigure_2 : decode cX10_nodeFigure 2 = .ok (.invokevirtual 66, 3) := by decide +kernel
theorem dX10_nodeFigure_5 : decode cX10_nodeFigure 5 = .ok (.astore_n 3, 1) := by decide +kernel
theorem dX10_nodeFigure_6 : decode cX10_nodeFigure 6 = .ok (.iload_n 2, 1) := by decide +kernel
theorem dX10_nodeFigure_7 : decode cX10_nodeFigure 7 = .ok (.tableswitch 117 0 9 #[53, 58, 63, 68, 74, 88, 93, 98, 103, 108], 53) := by decide +kernel
theorem dX10_nodeFigure_60 : decode cX10_nodeFigure 60 = .ok (.aload_n 3, 1) := by decide +kernel
theorem dX10_nodeFigure_61 : decode cX10_nodeFigure 61 = .ok (.getfield 95, 3) := by decide +kernel
theorem dX10_nodeFigure_64 : decode cX10_nodeFigure 64 = .ok (.ireturn, 1) := by decide +kernel
theorem dX10_nodeFigure_65 : decode cX10_nodeFigure 65 = .ok (.aload_n 3, 1) := by decide +kernel
theorem dX10_nodeFigure_66 : decode cX10_nodeFigure 66 = .ok (.getfield 98, 3) := by decide +kernel
theorem dX10_nodeFigure_69 : decode cX10_nodeFigure 69 = .ok (.ireturn, 1) := by decide +kernel
theorem dX10_nodeFigure_70 : decode cX10_nodeFigure 70 = .ok (.aload_n 3, 1) := by decide +kernel
theorem dX10_nodeFigure_71 : decode cX10_nodeFigure 71 = .ok (.getfield 101, 3) := by decide +kernel
theorem dX10_nodeFigure_74 : decode cX10_nodeFigure 74 = .ok (.ireturn, 1) := by decide +kernel
theorem dX10_nodeFigure_75 : decode cX10_nodeFigure 75 = .ok (.aload_n 0, 1) := by decide +kernel
theorem dX10_nodeFigure_76 : decode cX10_nodeFigure 76 = .ok (.iload_n 1, 1) := by decide +kernel
theorem dX10_nodeFigure_77 : decode cX10_nodeFigure 77 = .ok (.invokevirtual 178, 3) := by decide +kernel
theorem dX10_nodeFigure_80 : decode cX10_nodeFigure 80 = .ok (.ireturn, 1) := by decide +kernel
theorem dX10_nodeFigure_81 : decode cX10_nodeFigure 81 = .ok (.aload_n 0, 1) := by decide +kernel
theorem dX10_nodeFigure_82 : decode cX10_nodeFigure 82 = .ok (.iload_n 1, 1) := by decide +kernel
theorem dX10_nodeFigure_83 : decode cX10_nodeFigure 83 = .ok (.invokevirtual 203, 3) := by decide +kernel
theorem dX10_nodeFigure_86 : decode cX10_nodeFigure 86 = .ok (.ifCond .eq 7, 3) := by decide +kernel
theorem dX10_nodeFigure_93 : decode cX10_nodeFigure 93 = .ok (.iconst 0, 1) := by decide +kernel
theorem dX10_nodeFigure_89 : decode cX10_nodeFigure 89 = .ok (.iconst 1, 1) := by decide +kernel
theorem dX10_nodeFigure_90 : decode cX10_nodeFigure 90 = .ok (.goto 4, 3) := by decide +kernel
theorem dX10_nodeFigure_95 : decode cX10_nodeFigure 95 = .ok (.aload_n 3, 1) := by decide +kernel
theorem dX10_nodeFigure_96 : decode cX10_nodeFigure 96 = .ok (.getfield 104, 3) := by decide +kernel
theorem dX10_nodeFigure_99 : decode cX10_nodeFigure 99 = .ok (.ireturn, 1) := by decide +kernel
theorem dX10_nodeFigure_100 : decode cX10_nodeFigure 100 = .ok (.aload_n 3, 1) := by decide +kernel
theorem dX10_nodeFigure_101 : decode cX10_nodeFigure 101 = .ok (.getfield 107, 3) := by decide +kernel
theorem dX10_nodeFigure_104 : decode cX10_nodeFigure 104 = .ok (.ireturn, 1) := by decide +kernel
theorem dX10_nodeFigure_105 : decode cX10_nodeFigure 105 = .ok (.aload_n 3, 1) := by decide +kernel
theorem dX10_nodeFigure_106 : decode cX10_nodeFigure 106 = .ok (.getfield 110, 3) := by decide +kernel
theorem dX10_nodeFigure_109 : decode cX10_nodeFigure 109 = .ok (.ireturn, 1) := by decide +kernel
theorem dX10_nodeFigure_110 : decode cX10_nodeFigure 110 = .ok (.aload_n 3, 1) := by decide +kernel
theorem dX10_nodeFigure_111 : decode cX10_nodeFigure 111 = .ok (.getfield 113, 3) := by decide +kernel
theorem dX10_nodeFigure_114 : decode cX10_nodeFigure 114 = .ok (.ireturn, 1) := by decide +kernel
theorem dX10_nodeFigure_115 : decode cX10_nodeFigure 115 = .ok (.aload_n 0, 1) := by decide +kernel
theorem dX10_nodeFigure_116 : decode cX10_nodeFigure 116 = .ok (.iload_n 1, 1) := by decide +kernel
theorem dX10_nodeFigure_117 : decode cX10_nodeFigure 117 = .ok (.invokevirtual 174, 3) := by decide +kernel
theorem dX10_nodeFigure_120 : decode cX10_nodeFigure 120 = .ok (.invokestatic 206, 3) := by decide +kernel
theorem dX10_nodeFigure_123 : decode cX10_nodeFigure 123 = .ok (.ireturn, 1) := by decide +kernel
theorem dX10_nodeFigure_124 : decode cX10_nodeFigure 124 = .ok (.aload_n 0, 1) := by decide +kernel
theorem dX10_nodeFigure_125 : decode cX10_nodeFigure 125 = .ok (.iload_n 1, 1) := by decide +kernel
theorem dX10_nodeFigure_126 : decode cX10_nodeFigure 126 = .ok (.invokevirtual 211, 3) := by decide +kernel
theorem dX10_nodeFigure_129 : decode cX10_nodeFigure 129 = .ok (.ireturn, 1) := by decide +kernel
theorem dX10_nodeFigure_94 : decode cX10_nodeFigure 94 = .ok (.ireturn, 1) := by decide +kernel
theorem dX10_wakesAfter_0 : decode cX10_wakesAfter 0 = .ok (.aload_n 0, 1) := by decide +kernel
theorem dX10_wakesAfter_1 : decode cX10_wakesAfter 1 = .ok (.iload_n 1, 1) := by decide +kernel
theorem dX10_wakesAfter_2 : decode cX10_wakesAfter 2 = .ok (.invokevirtual 160, 3) := by decide +kernel
theorem dX10_wakesAfter_5 : decode cX10_wakesAfter 5 = .ok (.ifCond .ne 30, 3) := by decide +kernel
theorem dX10_wakesAfter_8 : decode cX10_wakesAfter 8 = .ok (.aload_n 0, 1) := by decide +kernel
theorem dX10_wakesAfter_9 : decode cX10_wakesAfter 9 = .ok (.iload_n 1, 1) := by decide +kernel
theorem dX10_wakesAfter_10 : decode cX10_wakesAfter 10 = .ok (.invokevirtual 174, 3) := by decide +kernel
theorem dX10_wakesAfter_13 : decode cX10_wakesAfter 13 = .ok (.aload_n 0, 1) := by decide +kernel
theorem dX10_wakesAfter_14 : decode cX10_wakesAfter 14 = .ok (.aload_n 0, 1) := by decide +kernel
theorem dX10_wakesAfter_15 : decode cX10_wakesAfter 15 = .ok (.getfield 60, 3) := by decide +kernel
theorem dX10_wakesAfter_18 : decode cX10_wakesAfter 18 = .ok (.iload_n 3, 1) := by decide +kernel
theorem dX10_wakesAfter_19 : decode cX10_wakesAfter 19 = .ok (.iadd, 1) := by decide +kernel
theorem dX10_wakesAfter_20 : decode cX10_wakesAfter 20 = .ok (.iload_n 2, 1) := by decide +kernel
theorem dX10_wakesAfter_21 : decode cX10_wakesAfter 21 = .ok (.iadd, 1) := by decide +kernel
theorem dX10_wakesAfter_22 : decode cX10_wakesAfter 22 = .ok (.invokevirtual 156, 3) := by decide +kernel
theorem dX10_wakesAfter_25 : decode cX10_wakesAfter 25 = .ok (.invokestatic 170, 3) := by decide +kernel
theorem dX10_wakesAfter_28 : decode cX10_wakesAfter 28 = .ok (.ifCond .eq 7, 3) := by decide +kernel
theorem dX10_wakesAfter_31 : decode cX10_wakesAfter 31 = .ok (.iconst 1, 1) := by decide +kernel
theorem dX10_wakesAfter_32 : decode cX10_wakesAfter 32 = .ok (.goto 4, 3) := by decide +kernel
theorem dX10_wakesAfter_35 : decode cX10_wakesAfter 35 = .ok (.iconst 0, 1) := by decide +kernel
theorem dX10_wakesAfter_36 : decode cX10_wakesAfter 36 = .ok (.ireturn, 1) := by decide +kernel
theorem dX10_awakeAfter_0 : decode cX10_awakeAfter 0 = .ok (.iconst 0, 1) := by decide +kernel
theorem dX10_awakeAfter_1 : decode cX10_awakeAfter 1 = .ok (.istore_n 2, 1) := by decide +kernel
theorem dX10_awakeAfter_2 : decode cX10_awakeAfter 2 = .ok (.iconst 0, 1) := by decide +kernel
theorem dX10_awakeAfter_3 : decode cX10_awakeAfter 3 = .ok (.istore_n 3, 1) := by decide +kernel
theorem dX10_awakeAfter_4 : decode cX10_awakeAfter 4 = .ok (.iload_n 3, 1) := by decide +kernel
theorem dX10_awakeAfter_5 : decode cX10_awakeAfter 5 = .ok (.aload_n 0, 1) := by decide +kernel
theorem dX10_awakeAfter_6 : decode cX10_awakeAfter 6 = .ok (.getfield 35, 3) := by decide +kernel
theorem dX10_awakeAfter_9 : decode cX10_awakeAfter 9 = .ok (.if_icmp .ge 32, 3) := by decide +kernel
theorem dX10_awakeAfter_41 : decode cX10_awakeAfter 41 = .ok (.iload_n 2, 1) := by decide +kernel
theorem dX10_awakeAfter_42 : decode cX10_awakeAfter 42 = .ok (.ireturn, 1) := by decide +kernel
theorem dX10_awakeAfter_12 : decode cX10_awakeAfter 12 = .ok (.aload_n 0, 1) := by decide +kernel
theorem dX10_awakeAfter_13 : decode cX10_awakeAfter 13 = .ok (.iload_n 3, 1) := by decide +kernel
theorem dX10_awakeAfter_14 : decode cX10_awakeAfter 14 = .ok (.aload_n 0, 1) := by decide +kernel
theorem dX10_awakeAfter_15 : decode cX10_awakeAfter 15 = .ok (.iload_n 3, 1) := by decide +kernel
theorem dX10_awakeAfter_16 : decode cX10_awakeAfter 16 = .ok (.invokevirtual 66, 3) := by decide +kernel
theorem dX10_awakeAfter_19 : decode cX10_awakeAfter 19 = .ok (.getfield 98, 3) := by decide +kernel
theorem dX10_awakeAfter_22 : decode cX10_awakeAfter 22 = .ok (.iload_n 1, 1) := by decide +kernel
theorem dX10_awakeAfter_23 : decode cX10_awakeAfter 23 = .ok (.invokevirtual 214, 3) := by decide +kernel
theorem dX10_awakeAfter_26 : decode cX10_awakeAfter 26 = .ok (.ifCond .eq 9, 3) := by decide +kernel
theorem dX10_awakeAfter_29 : decode cX10_awakeAfter 29 = .ok (.iload_n 2, 1) := by decide +kernel
theorem dX10_awakeAfter_30 : decode cX10_awakeAfter 30 = .ok (.iconst 1, 1) := by decide +kernel
theorem dX10_awakeAfter_31 : decode cX10_awakeAfter 31 = .ok (.iload_n 3, 1) := by decide +kernel
theorem dX10_awakeAfter_32 : decode cX10_awakeAfter 32 = .ok (.ishl, 1) := by decide +kernel
theorem dX10_awakeAfter_33 : decode cX10_awakeAfter 33 = .ok (.ior, 1) := by decide +kernel
theorem dX10_awakeAfter_34 : decode cX10_awakeAfter 34 = .ok (.istore_n 2, 1) := by decide +kernel
theorem dX10_awakeAfter_35 : decode cX10_awakeAfter 35 = .ok (.iinc 3 1, 3) := by decide +kernel
theorem dX10_awakeAfter_38 : decode cX10_awakeAfter 38 = .ok (.goto (-34), 3) := by decide +kernel
theorem dX10_meetingIn_0 : decode cX10_meetingIn 0 = .ok (.iconst 1, 1) := by decide +kernel
theorem dX10_meetingIn_1 : decode cX10_meetingIn 1 = .ok (.istore 4, 2) := by decide +kernel
theorem dX10_meetingIn_3 : decode cX10_meetingIn 3 = .ok (.iload 4, 2) := by decide +kernel
theorem dX10_meetingIn_5 : decode cX10_meetingIn 5 = .ok (.aload_n 0, 1) := by decide +kernel
theorem dX10_meetingIn_6 : decode cX10_meetingIn 6 = .ok (.getfield 45, 3) := by decide +kernel
theorem dX10_meetingIn_9 : decode cX10_meetingIn 9 = .ok (.if_icmp .gt 41, 3) := by decide +kernel
theorem dX10_meetingIn_12 : decode cX10_meetingIn 12 = .ok (.aload_n 0, 1) := by decide +kernel
theorem dX10_meetingIn_13 : decode cX10_meetingIn 13 = .ok (.iload_n 1, 1) := by decide +kernel
theorem dX10_meetingIn_14 : decode cX10_meetingIn 14 = .ok (.iload_n 2, 1) := by decide +kernel
theorem dX10_meetingIn_15 : decode cX10_meetingIn 15 = .ok (.iload 4, 2) := by decide +kernel
theorem dX10_meetingIn_17 : decode cX10_meetingIn 17 = .ok (.invokevirtual 214, 3) := by decide +kernel
theorem dX10_meetingIn_20 : decode cX10_meetingIn 20 = .ok (.ifCond .eq 24, 3) := by decide +kernel
theorem dX10_meetingIn_23 : decode cX10_meetingIn 23 = .ok (.aload_n 0, 1) := by decide +kernel
theorem dX10_meetingIn_24 : decode cX10_meetingIn 24 = .ok (.iload_n 3, 1) := by decide +kernel
theorem dX10_meetingIn_25 : decode cX10_meetingIn 25 = .ok (.aload_n 0, 1) := by decide +kernel
theorem dX10_meetingIn_26 : decode cX10_meetingIn 26 = .ok (.iload_n 3, 1) := by decide +kernel
theorem dX10_meetingIn_27 : decode cX10_meetingIn 27 = .ok (.invokevirtual 66, 3) := by decide +kernel
theorem dX10_meetingIn_30 : decode cX10_meetingIn 30 = .ok (.getfield 98, 3) := by decide +kernel
theorem dX10_meetingIn_33 : decode cX10_meetingIn 33 = .ok (.iload 4, 2) := by decide +kernel
theorem dX10_meetingIn_35 : decode cX10_meetingIn 35 = .ok (.invokevirtual 214, 3) := by decide +kernel
theorem dX10_meetingIn_38 : decode cX10_meetingIn 38 = .ok (.ifCond .eq 6, 3) := by decide +kernel
theorem dX10_meetingIn_41 : decode cX10_meetingIn 41 = .ok (.iload 4, 2) := by decide +kernel
theorem dX10_meetingIn_43 : decode cX10_meetingIn 43 = .ok (.ireturn, 1) := by decide +kernel
theorem dX10_meetingIn_44 : decode cX10_meetingIn 44 = .ok (.iinc 4 1, 3) := by decide +kernel
theorem dX10_meetingIn_47 : decode cX10_meetingIn 47 = .ok (.goto (-44), 3) := by decide +kernel
theorem dX10_meetingIn_50 : decode cX10_meetingIn 50 = .ok (.iconst (-1), 1) := by decide +kernel
theorem dX10_meetingIn_51 : decode cX10_meetingIn 51 = .ok (.ireturn, 1) := by decide +kernel
theorem dX10_lateness_0 : decode cX10_lateness 0 = .ok (.aload_n 0, 1) := by decide +kernel
theorem dX10_lateness_1 : decode cX10_lateness 1 = .ok (.iload_n 1, 1) := by decide +kernel
theorem dX10_lateness_2 : decode cX10_lateness 2 = .ok (.iload_n 2, 1) := by decide +kernel
theorem dX10_lateness_3 : decode cX10_lateness 3 = .ok (.iload_n 3, 1) := by decide +kernel
theorem dX10_lateness_4 : decode cX10_lateness 4 = .ok (.invokevirtual 218, 3) := by decide +kernel
theorem dX10_lateness_7 : decode cX10_lateness 7 = .ok (.istore 4, 2) := by decide +kernel
theorem dX10_lateness_9 : decode cX10_lateness 9 = .ok (.iload 4, 2) := by decide +kernel
theorem dX10_lateness_11 : decode cX10_lateness 11 = .ok (.iconst (-1), 1) := by decide +kernel
theorem dX10_lateness_12 : decode cX10_lateness 12 = .ok (.if_icmp .ne 12, 3) := by decide +kernel
theorem dX10_lateness_24 : decode cX10_lateness 24 = .ok (.iload 4, 2) := by decide +kernel
theorem dX10_lateness_15 : decode cX10_lateness 15 = .ok (.aload_n 0, 1) := by decide +kernel
theorem dX10_lateness_16 : decode cX10_lateness 16 = .ok (.getfield 45, 3) := by decide +kernel
theorem dX10_lateness_19 : decode cX10_lateness 19 = .ok (.iconst 1, 1) := by decide +kernel
theorem dX10_lateness_20 : decode cX10_lateness 20 = .ok (.iadd, 1) := by decide +kernel
theorem dX10_lateness_21 : decode cX10_lateness 21 = .ok (.goto 5, 3) := by decide +kernel
theorem dX10_lateness_26 : decode cX10_lateness 26 = .ok (.ireturn, 1) := by decide +kernel
theorem dX10_latestMeetingLink_0 : decode cX10_latestMeetingLink 0 = .ok (.iconst (-1), 1) := by decide +kernel
theorem dX10_latestMeetingLink_1 : decode cX10_latestMeetingLink 1 = .ok (.istore_n 1, 1) := by decide +kernel
theorem dX10_latestMeetingLink_2 : decode cX10_latestMeetingLink 2 = .ok (.iconst 0, 1) := by decide +kernel
theorem dX10_latestMeetingLink_3 : decode cX10_latestMeetingLink 3 = .ok (.istore_n 2, 1) := by decide +kernel
theorem dX10_latestMeetingLink_4 : decode cX10_latestMeetingLink 4 = .ok (.iconst 0, 1) := by decide +kernel
theorem dX10_latestMeetingLink_5 : decode cX10_latestMeetingLink 5 = .ok (.istore_n 3, 1) := by decide +kernel
theorem dX10_latestMeetingLink_6 : decode cX10_latestMeetingLink 6 = .ok (.iload_n 3, 1) := by decide +kernel
theorem dX10_latestMeetingLink_7 : decode cX10_latestMeetingLink 7 = .ok (.aload_n 0, 1) := by decide +kernel
theorem dX10_latestMeetingLink_8 : decode cX10_latestMeetingLink 8 = .ok (.getfield 39, 3) := by decide +kernel
theorem dX10_latestMeetingLink_11 : decode cX10_latestMeetingLink 11 = .ok (.if_icmp .ge 55, 3) := by decide +kernel
theorem dX10_latestMeetingLink_66 : decode cX10_latestMeetingLink 66 = .ok (.iload_n 1, 1) := by decide +kernel
theorem dX10_latestMeetingLink_67 : decode cX10_latestMeetingLink 67 = .ok (.ireturn, 1) := by decide +kernel
theorem dX10_latestMeetingLink_14 : decode cX10_latestMeetingLink 14 = .ok (.aload_n 0, 1) := by decide +kernel
theorem dX10_latestMeetingLink_15 : decode cX10_latestMeetingLink 15 = .ok (.iload_n 3, 1) := by decide +kernel
theorem dX10_latestMeetingLink_16 : decode cX10_latestMeetingLink 16 = .ok (.invokevirtual 74, 3) := by decide +kernel
theorem dX10_latestMeetingLink_19 : decode cX10_latestMeetingLink 19 = .ok (.getfield 116, 3) := by decide +kernel
theorem dX10_latestMeetingLink_22 : decode cX10_latestMeetingLink 22 = .ok (.istore 4, 2) := by decide +kernel
theorem dX10_latestMeetingLink_24 : decode cX10_latestMeetingLink 24 = .ok (.aload_n 0, 1) := by decide +kernel
theorem dX10_latestMeetingLink_25 : decode cX10_latestMeetingLink 25 = .ok (.iload 4, 2) := by decide +kernel
theorem dX10_latestMeetingLink_27 : decode cX10_latestMeetingLink 27 = .ok (.aload_n 0, 1) := by decide +kernel
theorem dX10_latestMeetingLink_28 : decode cX10_latestMeetingLink 28 = .ok (.iload 4, 2) := by decide +kernel
theorem dX10_latestMeetingLink_30 : decode cX10_latestMeetingLink 30 = .ok (.invokevirtual 66, 3) := by decide +kernel
theorem dX10_latestMeetingLink_33 : decode cX10_latestMeetingLink 33 = .ok (.getfield 98, 3) := by decide +kernel
theorem dX10_latestMeetingLink_36 : decode cX10_latestMeetingLink 36 = .ok (.aload_n 0, 1) := by decide +kernel
theorem dX10_latestMeetingLink_37 : decode cX10_latestMeetingLink 37 = .ok (.iload_n 3, 1) := by decide +kernel
theorem dX10_latestMeetingLink_38 : decode cX10_latestMeetingLink 38 = .ok (.invokevirtual 74, 3) := by decide +kernel
theorem dX10_latestMeetingLink_41 : decode cX10_latestMeetingLink 41 = .ok (.getfield 119, 3) := by decide +kernel
theorem dX10_latestMeetingLink_44 : decode cX10_latestMeetingLink 44 = .ok (.invokevirtual 222, 3) := by decide +kernel
theorem dX10_latestMeetingLink_47 : decode cX10_latestMeetingLink 47 = .ok (.istore 5, 2) := by decide +kernel
theorem dX10_latestMeetingLink_49 : decode cX10_latestMeetingLink 49 = .ok (.iload 5, 2) := by decide +kernel
theorem dX10_latestMeetingLink_51 : decode cX10_latestMeetingLink 51 = .ok (.iload_n 2, 1) := by decide +kernel
theorem dX10_latestMeetingLink_52 : decode cX10_latestMeetingLink 52 = .ok (.if_icmp .le 8, 3) := by decide +kernel
theorem dX10_latestMeetingLink_55 : decode cX10_latestMeetingLink 55 = .ok (.iload_n 3, 1) := by decide +kernel
theorem dX10_latestMeetingLink_56 : decode cX10_latestMeetingLink 56 = .ok (.istore_n 1, 1) := by decide +kernel
theorem dX10_latestMeetingLink_57 : decode cX10_latestMeetingLink 57 = .ok (.iload 5, 2) := by decide +kernel
theorem dX10_latestMeetingLink_59 : decode cX10_latestMeetingLink 59 = .ok (.istore_n 2, 1) := by decide +kernel
theorem dX10_latestMeetingLink_60 : decode cX10_latestMeetingLink 60 = .ok (.iinc 3 1, 3) := by decide +kernel
theorem dX10_latestMeetingLink_63 : decode cX10_latestMeetingLink 63 = .ok (.goto (-57), 3) := by decide +kernel
theorem dX10_ticksToMostAwake_0 : decode cX10_ticksToMostAwake 0 = .ok (.iconst 1, 1) := by decide +kernel
theorem dX10_ticksToMostAwake_1 : decode cX10_ticksToMostAwake 1 = .ok (.istore_n 1, 1) := by decide +kernel
theorem dX10_ticksToMostAwake_2 : decode cX10_ticksToMostAwake 2 = .ok (.iconst 0, 1) := by decide +kernel
theorem dX10_ticksToMostAwake_3 : decode cX10_ticksToMostAwake 3 = .ok (.istore_n 2, 1) := by decide +kernel
theorem dX10_ticksToMostAwake_4 : decode cX10_ticksToMostAwake 4 = .ok (.iconst 1, 1) := by decide +kernel
theorem dX10_ticksToMostAwake_5 : decode cX10_ticksToMostAwake 5 = .ok (.istore_n 3, 1) := by decide +kernel
theorem dX10_ticksToMostAwake_6 : decode cX10_ticksToMostAwake 6 = .ok (.iload_n 3, 1) := by decide +kernel
theorem dX10_ticksToMostAwake_7 : decode cX10_ticksToMostAwake 7 = .ok (.aload_n 0, 1) := by decide +kernel
theorem dX10_ticksToMostAwake_8 : decode cX10_ticksToMostAwake 8 = .ok (.getfield 45, 3) := by decide +kernel
theorem dX10_ticksToMostAwake_11 : decode cX10_ticksToMostAwake 11 = .ok (.if_icmp .gt 30, 3) := by decide +kernel
theorem dX10_ticksToMostAwake_14 : decode cX10_ticksToMostAwake 14 = .ok (.aload_n 0, 1) := by decide +kernel
theorem dX10_ticksToMostAwake_15 : decode cX10_ticksToMostAwake 15 = .ok (.iload_n 3, 1) := by decide +kernel
theorem dX10_ticksToMostAwake_16 : decode cX10_ticksToMostAwake 16 = .ok (.invokevirtual 225, 3) := by decide +kernel
theorem dX10_ticksToMostAwake_19 : decode cX10_ticksToMostAwake 19 = .ok (.invokestatic 198, 3) := by decide +kernel
theorem dX10_ticksToMostAwake_22 : decode cX10_ticksToMostAwake 22 = .ok (.istore 4, 2) := by decide +kernel
theorem dX10_ticksToMostAwake_24 : decode cX10_ticksToMostAwake 24 = .ok (.iload 4, 2) := by decide +kernel
theorem dX10_ticksToMostAwake_26 : decode cX10_ticksToMostAwake 26 = .ok (.iload_n 2, 1) := by decide +kernel
theorem dX10_ticksToMostAwake_27 : decode cX10_ticksToMostAwake 27 = .ok (.if_icmp .le 8, 3) := by decide +kernel
theorem dX10_ticksToMostAwake_30 : decode cX10_ticksToMostAwake 30 = .ok (.iload_n 3, 1) := by decide +kernel
theorem dX10_ticksToMostAwake_31 : decode cX10_ticksToMostAwake 31 = .ok (.istore_n 1, 1) := by decide +kernel
theorem dX10_ticksToMostAwake_32 : decode cX10_ticksToMostAwake 32 = .ok (.iload 4, 2) := by decide +kernel
theorem dX10_ticksToMostAwake_34 : decode cX10_ticksToMostAwake 34 = .ok (.istore_n 2, 1) := by decide +kernel
theorem dX10_ticksToMostAwake_35 : decode cX10_ticksToMostAwake 35 = .ok (.iinc 3 1, 3) := by decide +kernel
theorem dX10_ticksToMostAwake_38 : decode cX10_ticksToMostAwake 38 = .ok (.goto (-32), 3) := by decide +kernel
theorem dX10_ticksToMostAwake_41 : decode cX10_ticksToMostAwake 41 = .ok (.iload_n 1, 1) := by decide +kernel
theorem dX10_ticksToMostAwake_42 : decode cX10_ticksToMostAwake 42 = .ok (.ireturn, 1) := by decide +kernel
theorem dX10_greatestLateness_0 : decode cX10_greatestLateness 0 = .ok (.iconst 0, 1) := by decide +kernel
theorem dX10_greatestLateness_1 : decode cX10_greatestLateness 1 = .ok (.istore_n 3, 1) := by decide +kernel
theorem dX10_greatestLateness_2 : decode cX10_greatestLateness 2 = .ok (.iconst 0, 1) := by decide +kernel
theorem dX10_greatestLateness_3 : decode cX10_greatestLateness 3 = .ok (.istore 4, 2) := by decide +kernel
theorem dX10_greatestLateness_5 : decode cX10_greatestLateness 5 = .ok (.iload 4, 2) := by decide +kernel
theorem dX10_greatestLateness_7 : decode cX10_greatestLateness 7 = .ok (.aload_n 0, 1) := by decide +kernel
theorem dX10_greatestLateness_8 : decode cX10_greatestLateness 8 = .ok (.getfield 35, 3) := by decide +kernel
theorem dX10_greatestLateness_11 : decode cX10_greatestLateness 11 = .ok (.if_icmp .ge 38, 3) := by decide +kernel
theorem dX10_greatestLateness_49 : decode cX10_greatestLateness 49 = .ok (.iload_n 3, 1) := by decide +kernel
theorem dX10_greatestLateness_50 : decode cX10_greatestLateness 50 = .ok (.ireturn, 1) := by decide +kernel
theorem dX10_greatestLateness_14 : decode cX10_greatestLateness 14 = .ok (.aload_n 0, 1) := by decide +kernel
theorem dX10_greatestLateness_15 : decode cX10_greatestLateness 15 = .ok (.iload_n 1, 1) := by decide +kernel
theorem dX10_greatestLateness_16 : decode cX10_greatestLateness 16 = .ok (.invokevirtual 66, 3) := by decide +kernel
theorem dX10_greatestLateness_19 : decode cX10_greatestLateness 19 = .ok (.getfield 104, 3) := by decide +kernel
theorem dX10_greatestLateness_22 : decode cX10_greatestLateness 22 = .ok (.iload 4, 2) := by decide +kernel
theorem dX10_greatestLateness_24 : decode cX10_greatestLateness 24 = .ok (.invokestatic 181, 3) := by decide +kernel
theorem dX10_greatestLateness_27 : decode cX10_greatestLateness 27 = .ok (.ifCond .eq 16, 3) := by decide +kernel
theorem dX10_greatestLateness_30 : decode cX10_greatestLateness 30 = .ok (.iload_n 3, 1) := by decide +kernel
theorem dX10_greatestLateness_31 : decode cX10_greatestLateness 31 = .ok (.aload_n 0, 1) := by decide +kernel
theorem dX10_greatestLateness_32 : decode cX10_greatestLateness 32 = .ok (.iload_n 1, 1) := by decide +kernel
theorem dX10_greatestLateness_33 : decode cX10_greatestLateness 33 = .ok (.iload_n 2, 1) := by decide +kernel
theorem dX10_greatestLateness_34 : decode cX10_greatestLateness 34 = .ok (.iload 4, 2) := by decide +kernel
theorem dX10_greatestLateness_36 : decode cX10_greatestLateness 36 = .ok (.invokevirtual 222, 3) := by decide +kernel
theorem dX10_greatestLateness_39 : decode cX10_greatestLateness 39 = .ok (.invokestatic 228, 3) := by decide +kernel
theorem dX10_greatestLateness_42 : decode cX10_greatestLateness 42 = .ok (.istore_n 3, 1) := by decide +kernel
theorem dX10_greatestLateness_43 : decode cX10_greatestLateness 43 = .ok (.iinc 4 1, 3) := by decide +kernel
theorem dX10_greatestLateness_46 : decode cX10_greatestLateness 46 = .ok (.goto (-41), 3) := by decide +kernel
theorem dX10_shiftToMeetSoonest_0 : decode cX10_shiftToMeetSoonest 0 = .ok (.aload_n 0, 1) := by decide +kernel
theorem dX10_shiftToMeetSoonest_1 : decode cX10_shiftToMeetSoonest 1 = .ok (.iload_n 1, 1) := by decide +kernel
theorem dX10_shiftToMeetSoonest_2 : decode cX10_shiftToMeetSoonest 2 = .ok (.invokevirtual 66, 3) := by decide +kernel
theorem dX10_shiftToMeetSoonest_5 : decode cX10_shiftToMeetSoonest 5 = .ok (.getfield 104, 3) := by decide +kernel
theorem dX10_shiftToMeetSoonest_8 : decode cX10_shiftToMeetSoonest 8 = .ok (.ifCond .ne 5, 3) := by decide +kernel
theorem dX10_shiftToMeetSoonest_13 : decode cX10_shiftToMeetSoonest 13 = .ok (.iconst 0, 1) := by decide +kernel
theorem dX10_shiftToMeetSoonest_14 : decode cX10_shiftToMeetSoonest 14 = .ok (.istore_n 2, 1) := by decide +kernel
theorem dX10_shiftToMeetSoonest_15 : decode cX10_shiftToMeetSoonest 15 = .ok (.aload_n 0, 1) := by decide +kernel
theorem dX10_shiftToMeetSoonest_16 : decode cX10_shiftToMeetSoonest 16 = .ok (.iload_n 1, 1) := by decide +kernel
theorem dX10_shiftToMeetSoonest_17 : decode cX10_shiftToMeetSoonest 17 = .ok (.iconst 0, 1) := by decide +kernel
theorem dX10_shiftToMeetSoonest_18 : decode cX10_shiftToMeetSoonest 18 = .ok (.invokevirtual 231, 3) := by decide +kernel
theorem dX10_shiftToMeetSoonest_21 : decode cX10_shiftToMeetSoonest 21 = .ok (.istore_n 3, 1) := by decide +kernel
