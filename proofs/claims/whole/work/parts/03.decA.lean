theorem dX0_init_0 : decode cX0_init 0 = .ok (.aload_n 0, 1) := by decide +kernel
theorem dX0_init_1 : decode cX0_init 1 = .ok (.invokespecial 3, 3) := by decide +kernel
theorem dX0_init_4 : decode cX0_init 4 = .ok (.aload_n 0, 1) := by decide +kernel
theorem dX0_init_5 : decode cX0_init 5 = .ok (.bipush 6, 2) := by decide +kernel
theorem dX0_init_7 : decode cX0_init 7 = .ok (.bipush 6, 2) := by decide +kernel
theorem dX0_init_9 : decode cX0_init 9 = .ok (.multianewarray 9 2, 4) := by decide +kernel
theorem dX0_init_13 : decode cX0_init 13 = .ok (.putfield 11, 3) := by decide +kernel
theorem dX0_init_16 : decode cX0_init 16 = .ok (.aload_n 0, 1) := by decide +kernel
theorem dX0_init_17 : decode cX0_init 17 = .ok (.bipush 64, 2) := by decide +kernel
theorem dX0_init_19 : decode cX0_init 19 = .ok (.newarray .int, 2) := by decide +kernel
theorem dX0_init_21 : decode cX0_init 21 = .ok (.putfield 16, 3) := by decide +kernel
theorem dX0_init_24 : decode cX0_init 24 = .ok (.aload_n 0, 1) := by decide +kernel
theorem dX0_init_25 : decode cX0_init 25 = .ok (.bipush 64, 2) := by decide +kernel
theorem dX0_init_27 : decode cX0_init 27 = .ok (.newarray .int, 2) := by decide +kernel
theorem dX0_init_29 : decode cX0_init 29 = .ok (.putfield 20, 3) := by decide +kernel
theorem dX0_init_32 : decode cX0_init 32 = .ok (.aload_n 0, 1) := by decide +kernel
theorem dX0_init_33 : decode cX0_init 33 = .ok (.bipush 6, 2) := by decide +kernel
theorem dX0_init_35 : decode cX0_init 35 = .ok (.newarray .int, 2) := by decide +kernel
theorem dX0_init_37 : decode cX0_init 37 = .ok (.putfield 23, 3) := by decide +kernel
theorem dX0_init_40 : decode cX0_init 40 = .ok (.return_, 1) := by decide +kernel
theorem dX0_append_0 : decode cX0_append 0 = .ok (.aload_n 0, 1) := by decide +kernel
theorem dX0_append_1 : decode cX0_append 1 = .ok (.getfield 11, 3) := by decide +kernel
theorem dX0_append_4 : decode cX0_append 4 = .ok (.iload_n 1, 1) := by decide +kernel
theorem dX0_append_5 : decode cX0_append 5 = .ok (.aaload, 1) := by decide +kernel
theorem dX0_append_6 : decode cX0_append 6 = .ok (.iload_n 2, 1) := by decide +kernel
theorem dX0_append_7 : decode cX0_append 7 = .ok (.dup2, 1) := by decide +kernel
theorem dX0_append_8 : decode cX0_append 8 = .ok (.iaload, 1) := by decide +kernel
theorem dX0_append_9 : decode cX0_append 9 = .ok (.iload_n 3, 1) := by decide +kernel
theorem dX0_append_10 : decode cX0_append 10 = .ok (.iadd, 1) := by decide +kernel
theorem dX0_append_11 : decode cX0_append 11 = .ok (.iastore, 1) := by decide +kernel
theorem dX0_append_12 : decode cX0_append 12 = .ok (.aload_n 0, 1) := by decide +kernel
theorem dX0_append_13 : decode cX0_append 13 = .ok (.dup, 1) := by decide +kernel
theorem dX0_append_14 : decode cX0_append 14 = .ok (.getfield 26, 3) := by decide +kernel
theorem dX0_append_17 : decode cX0_append 17 = .ok (.iconst 1, 1) := by decide +kernel
theorem dX0_append_18 : decode cX0_append 18 = .ok (.iadd, 1) := by decide +kernel
theorem dX0_append_19 : decode cX0_append 19 = .ok (.putfield 26, 3) := by decide +kernel
theorem dX0_append_22 : decode cX0_append 22 = .ok (.return_, 1) := by decide +kernel
theorem dX0_clear_0 : decode cX0_clear 0 = .ok (.iconst 0, 1) := by decide +kernel
theorem dX0_clear_1 : decode cX0_clear 1 = .ok (.istore_n 1, 1) := by decide +kernel
theorem dX0_clear_2 : decode cX0_clear 2 = .ok (.iload_n 1, 1) := by decide +kernel
theorem dX0_clear_3 : decode cX0_clear 3 = .ok (.bipush 6, 2) := by decide +kernel
theorem dX0_clear_5 : decode cX0_clear 5 = .ok (.if_icmp .ge 19, 3) := by decide +kernel
theorem dX0_clear_8 : decode cX0_clear 8 = .ok (.aload_n 0, 1) := by decide +kernel
theorem dX0_clear_9 : decode cX0_clear 9 = .ok (.getfield 11, 3) := by decide +kernel
theorem dX0_clear_12 : decode cX0_clear 12 = .ok (.iload_n 1, 1) := by decide +kernel
theorem dX0_clear_13 : decode cX0_clear 13 = .ok (.aaload, 1) := by decide +kernel
theorem dX0_clear_14 : decode cX0_clear 14 = .ok (.iconst 0, 1) := by decide +kernel
theorem dX0_clear_15 : decode cX0_clear 15 = .ok (.invokestatic 30, 3) := by decide +kernel
theorem dX0_clear_18 : decode cX0_clear 18 = .ok (.iinc 1 1, 3) := by decide +kernel
theorem dX0_clear_21 : decode cX0_clear 21 = .ok (.goto (-19), 3) := by decide +kernel
theorem dX0_clear_24 : decode cX0_clear 24 = .ok (.aload_n 0, 1) := by decide +kernel
theorem dX0_clear_25 : decode cX0_clear 25 = .ok (.iconst 0, 1) := by decide +kernel
theorem dX0_clear_26 : decode cX0_clear 26 = .ok (.putfield 26, 3) := by decide +kernel
theorem dX0_clear_29 : decode cX0_clear 29 = .ok (.return_, 1) := by decide +kernel
theorem dX0_quarrel_0 : decode cX0_quarrel 0 = .ok (.aload_n 0, 1) := by decide +kernel
theorem dX0_quarrel_1 : decode cX0_quarrel 1 = .ok (.getfield 16, 3) := by decide +kernel
theorem dX0_quarrel_4 : decode cX0_quarrel 4 = .ok (.iconst 0, 1) := by decide +kernel
theorem dX0_quarrel_5 : decode cX0_quarrel 5 = .ok (.iaload, 1) := by decide +kernel
theorem dX0_quarrel_6 : decode cX0_quarrel 6 = .ok (.ireturn, 1) := by decide +kernel
theorem dX0_rivals_0 : decode cX0_rivals 0 = .ok (.aload_n 0, 1) := by decide +kernel
theorem dX0_rivals_1 : decode cX0_rivals 1 = .ok (.getfield 20, 3) := by decide +kernel
theorem dX0_rivals_4 : decode cX0_rivals 4 = .ok (.iconst 0, 1) := by decide +kernel
theorem dX0_rivals_5 : decode cX0_rivals 5 = .ok (.iaload, 1) := by decide +kernel
theorem dX0_rivals_6 : decode cX0_rivals 6 = .ok (.ireturn, 1) := by decide +kernel
theorem dX0_findOrder_0 : decode cX0_findOrder 0 = .ok (.iconst 1, 1) := by decide +kernel
theorem dX0_findOrder_1 : decode cX0_findOrder 1 = .ok (.iload_n 1, 1) := by decide +kernel
theorem dX0_findOrder_2 : decode cX0_findOrder 2 = .ok (.ishl, 1) := by decide +kernel
theorem dX0_findOrder_3 : decode cX0_findOrder 3 = .ok (.iconst 1, 1) := by decide +kernel
theorem dX0_findOrder_4 : decode cX0_findOrder 4 = .ok (.isub, 1) := by decide +kernel
theorem dX0_findOrder_5 : decode cX0_findOrder 5 = .ok (.istore_n 2, 1) := by decide +kernel
theorem dX0_findOrder_6 : decode cX0_findOrder 6 = .ok (.aload_n 0, 1) := by decide +kernel
theorem dX0_findOrder_7 : decode cX0_findOrder 7 = .ok (.getfield 16, 3) := by decide +kernel
theorem dX0_findOrder_10 : decode cX0_findOrder 10 = .ok (.iload_n 2, 1) := by decide +kernel
theorem dX0_findOrder_11 : decode cX0_findOrder 11 = .ok (.iconst 0, 1) := by decide +kernel
theorem dX0_findOrder_12 : decode cX0_findOrder 12 = .ok (.iastore, 1) := by decide +kernel
theorem dX0_findOrder_13 : decode cX0_findOrder 13 = .ok (.aload_n 0, 1) := by decide +kernel
theorem dX0_findOrder_14 : decode cX0_findOrder 14 = .ok (.getfield 20, 3) := by decide +kernel
theorem dX0_findOrder_17 : decode cX0_findOrder 17 = .ok (.iload_n 2, 1) := by decide +kernel
theorem dX0_findOrder_18 : decode cX0_findOrder 18 = .ok (.iconst 1, 1) := by decide +kernel
theorem dX0_findOrder_19 : decode cX0_findOrder 19 = .ok (.iastore, 1) := by decide +kernel
theorem dX0_findOrder_20 : decode cX0_findOrder 20 = .ok (.iload_n 2, 1) := by decide +kernel
theorem dX0_findOrder_21 : decode cX0_findOrder 21 = .ok (.iconst 1, 1) := by decide +kernel
theorem dX0_findOrder_22 : decode cX0_findOrder 22 = .ok (.isub, 1) := by decide +kernel
theorem dX0_findOrder_23 : decode cX0_findOrder 23 = .ok (.istore_n 3, 1) := by decide +kernel
theorem dX0_findOrder_24 : decode cX0_findOrder 24 = .ok (.iload_n 3, 1) := by decide +kernel
theorem dX0_findOrder_25 : decode cX0_findOrder 25 = .ok (.ifCond .lt 15, 3) := by decide +kernel
theorem dX0_findOrder_28 : decode cX0_findOrder 28 = .ok (.aload_n 0, 1) := by decide +kernel
theorem dX0_findOrder_29 : decode cX0_findOrder 29 = .ok (.iload_n 1, 1) := by decide +kernel
theorem dX0_findOrder_30 : decode cX0_findOrder 30 = .ok (.iload_n 3, 1) := by decide +kernel
theorem dX0_findOrder_31 : decode cX0_findOrder 31 = .ok (.invokevirtual 36, 3) := by decide +kernel
theorem dX0_findOrder_34 : decode cX0_findOrder 34 = .ok (.iinc 3 (-1), 3) := by decide +kernel
theorem dX0_findOrder_37 : decode cX0_findOrder 37 = .ok (.goto (-13), 3) := by decide +kernel
theorem dX0_findOrder_40 : decode cX0_findOrder 40 = .ok (.iconst 0, 1) := by decide +kernel
theorem dX0_findOrder_41 : decode cX0_findOrder 41 = .ok (.istore_n 3, 1) := by decide +kernel
theorem dX0_findOrder_42 : decode cX0_findOrder 42 = .ok (.iconst 0, 1) := by decide +kernel
theorem dX0_findOrder_43 : decode cX0_findOrder 43 = .ok (.istore 4, 2) := by decide +kernel
theorem dX0_findOrder_45 : decode cX0_findOrder 45 = .ok (.iload 4, 2) := by decide +kernel
theorem dX0_findOrder_47 : decode cX0_findOrder 47 = .ok (.iload_n 1, 1) := by decide +kernel
theorem dX0_findOrder_48 : decode cX0_findOrder 48 = .ok (.if_icmp .ge 34, 3) := by decide +kernel
theorem dX0_findOrder_51 : decode cX0_findOrder 51 = .ok (.aload_n 0, 1) := by decide +kernel
theorem dX0_findOrder_52 : decode cX0_findOrder 52 = .ok (.getfield 23, 3) := by decide +kernel
theorem dX0_findOrder_55 : decode cX0_findOrder 55 = .ok (.iload 4, 2) := by decide +kernel
theorem dX0_findOrder_57 : decode cX0_findOrder 57 = .ok (.aload_n 0, 1) := by decide +kernel
theorem dX0_findOrder_58 : decode cX0_findOrder 58 = .ok (.iload_n 1, 1) := by decide +kernel
theorem dX0_findOrder_59 : decode cX0_findOrder 59 = .ok (.iload_n 3, 1) := by decide +kernel
theorem dX0_findOrder_60 : decode cX0_findOrder 60 = .ok (.invokevirtual 40, 3) := by decide +kernel
theorem dX0_findOrder_63 : decode cX0_findOrder 63 = .ok (.iastore, 1) := by decide +kernel
theorem dX0_findOrder_64 : decode cX0_findOrder 64 = .ok (.iload_n 3, 1) := by decide +kernel
theorem dX0_findOrder_65 : decode cX0_findOrder 65 = .ok (.iconst 1, 1) := by decide +kernel
theorem dX0_findOrder_66 : decode cX0_findOrder 66 = .ok (.aload_n 0, 1) := by decide +kernel
theorem dX0_findOrder_67 : decode cX0_findOrder 67 = .ok (.getfield 23, 3) := by decide +kernel
theorem dX0_findOrder_70 : decode cX0_findOrder 70 = .ok (.iload 4, 2) := by decide +kernel
theorem dX0_findOrder_72 : decode cX0_findOrder 72 = .ok (.iaload, 1) := by decide +kernel
theorem dX0_findOrder_73 : decode cX0_findOrder 73 = .ok (.ishl, 1) := by decide +kernel
theorem dX0_findOrder_74 : decode cX0_findOrder 74 = .ok (.ior, 1) := by decide +kernel
theorem dX0_findOrder_75 : decode cX0_findOrder 75 = .ok (.istore_n 3, 1) := by decide +kernel
theorem dX0_findOrder_76 : decode cX0_findOrder 76 = .ok (.iinc 4 1, 3) := by decide +kernel
theorem dX0_findOrder_79 : decode cX0_findOrder 79 = .ok (.goto (-34), 3) := by decide +kernel
theorem dX0_findOrder_82 : decode cX0_findOrder 82 = .ok (.return_, 1) := by decide +kernel
theorem dX0_weighSet_0 : decode cX0_weighSet 0 = .ok (.aload_n 0, 1) := by decide +kernel
theorem dX0_weighSet_1 : decode cX0_weighSet 1 = .ok (.getfield 16, 3) := by decide +kernel
theorem dX0_weighSet_4 : decode cX0_weighSet 4 = .ok (.iload_n 2, 1) := by decide +kernel
theorem dX0_weighSet_5 : decode cX0_weighSet 5 = .ok (.ldc 44, 2) := by decide +kernel
theorem dX0_weighSet_7 : decode cX0_weighSet 7 = .ok (.iastore, 1) := by decide +kernel
theorem dX0_weighSet_8 : decode cX0_weighSet 8 = .ok (.aload_n 0, 1) := by decide +kernel
theorem dX0_weighSet_9 : decode cX0_weighSet 9 = .ok (.getfield 20, 3) := by decide +kernel
theorem dX0_weighSet_12 : decode cX0_weighSet 12 = .ok (.iload_n 2, 1) := by decide +kernel
theorem dX0_weighSet_13 : decode cX0_weighSet 13 = .ok (.iconst 0, 1) := by decide +kernel
theorem dX0_weighSet_14 : decode cX0_weighSet 14 = .ok (.iastore, 1) := by decide +kernel
theorem dX0_weighSet_15 : decode cX0_weighSet 15 = .ok (.iconst 0, 1) := by decide +kernel
theorem dX0_weighSet_16 : decode cX0_weighSet 16 = .ok (.istore_n 3, 1) := by decide +kernel
theorem dX0_weighSet_17 : decode cX0_weighSet 17 = .ok (.iload_n 3, 1) := by decide +kernel
theorem dX0_weighSet_18 : decode cX0_weighSet 18 = .ok (.iload_n 1, 1) := by decide +kernel
theorem dX0_weighSet_19 : decode cX0_weighSet 19 = .ok (.if_icmp .ge 82, 3) := by decide +kernel
theorem dX0_weighSet_22 : decode cX0_weighSet 22 = .ok (.iload_n 2, 1) := by decide +kernel
theorem dX0_weighSet_23 : decode cX0_weighSet 23 = .ok (.iload_n 3, 1) := by decide +kernel
theorem dX0_weighSet_24 : decode cX0_weighSet 24 = .ok (.invokestatic 45, 3) := by decide +kernel
theorem dX0_weighSet_27 : decode cX0_weighSet 27 = .ok (.ifCond .ne 68, 3) := by decide +kernel
theorem dX0_weighSet_30 : decode cX0_weighSet 30 = .ok (.aload_n 0, 1) := by decide +kernel
theorem dX0_weighSet_31 : decode cX0_weighSet 31 = .ok (.iload_n 1, 1) := by decide +kernel
theorem dX0_weighSet_32 : decode cX0_weighSet 32 = .ok (.iload_n 2, 1) := by decide +kernel
theorem dX0_weighSet_33 : decode cX0_weighSet 33 = .ok (.iload_n 3, 1) := by decide +kernel
theorem dX0_weighSet_34 : decode cX0_weighSet 34 = .ok (.invokevirtual 49, 3) := by decide +kernel
theorem dX0_weighSet_37 : decode cX0_weighSet 37 = .ok (.istore 4, 2) := by decide +kernel
theorem dX0_weighSet_39 : decode cX0_weighSet 39 = .ok (.iload 4, 2) := by decide +kernel
theorem dX0_weighSet_41 : decode cX0_weighSet 41 = .ok (.aload_n 0, 1) := by decide +kernel
theorem dX0_weighSet_42 : decode cX0_weighSet 42 = .ok (.getfield 16, 3) := by decide +kernel
theorem dX0_weighSet_45 : decode cX0_weighSet 45 = .ok (.iload_n 2, 1) := by decide +kernel
theorem dX0_weighSet_46 : decode cX0_weighSet 46 = .ok (.iaload, 1) := by decide +kernel
theorem dX0_weighSet_47 : decode cX0_weighSet 47 = .ok (.if_icmp .ge 18, 3) := by decide +kernel
theorem dX0_weighSet_50 : decode cX0_weighSet 50 = .ok (.aload_n 0, 1) := by decide +kernel
theorem dX0_weighSet_51 : decode cX0_weighSet 51 = .ok (.getfield 16, 3) := by decide +kernel
theorem dX0_weighSet_54 : decode cX0_weighSet 54 = .ok (.iload_n 2, 1) := by decide +kernel
theorem dX0_weighSet_55 : decode cX0_weighSet 55 = .ok (.iload 4, 2) := by decide +kernel
theorem dX0_weighSet_57 : decode cX0_weighSet 57 = .ok (.iastore, 1) := by decide +kernel
theorem dX0_weighSet_58 : decode cX0_weighSet 58 = .ok (.aload_n 0, 1) := by decide +kernel
theorem dX0_weighSet_59 : decode cX0_weighSet 59 = .ok (.getfield 20, 3) := by decide +kernel
theorem dX0_weighSet_62 : decode cX0_weighSet 62 = .ok (.iload_n 2, 1) := by decide +kernel
theorem dX0_weighSet_63 : decode cX0_weighSet 63 = .ok (.iconst 0, 1) := by decide +kernel
theorem dX0_weighSet_64 : decode cX0_weighSet 64 = .ok (.iastore, 1) := by decide +kernel
theorem dX0_weighSet_65 : decode cX0_weighSet 65 = .ok (.iload 4, 2) := by decide +kernel
theorem dX0_weighSet_67 : decode cX0_weighSet 67 = .ok (.aload_n 0, 1) := by decide +kernel
theorem dX0_weighSet_68 : decode cX0_weighSet 68 = .ok (.getfield 16, 3) := by decide +kernel
theorem dX0_weighSet_71 : decode cX0_weighSet 71 = .ok (.iload_n 2, 1) := by decide +kernel
theorem dX0_weighSet_72 : decode cX0_weighSet 72 = .ok (.iaload, 1) := by decide +kernel
theorem dX0_weighSet_73 : decode cX0_weighSet 73 = .ok (.if_icmp .ne 22, 3) := by decide +kernel
theorem dX0_weighSet_76 : decode cX0_weighSet 76 = .ok (.aload_n 0, 1) := by decide +kernel
theorem dX0_weighSet_77 : decode cX0_weighSet 77 = .ok (.getfield 20, 3) := by decide +kernel
theorem dX0_weighSet_80 : decode cX0_weighSet 80 = .ok (.iload_n 2, 1) := by decide +kernel
theorem dX0_weighSet_81 : decode cX0_weighSet 81 = .ok (.dup2, 1) := by decide +kernel
theorem dX0_weighSet_82 : decode cX0_weighSet 82 = .ok (.iaload, 1) := by decide +kernel
theorem dX0_weighSet_83 : decode cX0_weighSet 83 = .ok (.aload_n 0, 1) := by decide +kernel
theorem dX0_weighSet_84 : decode cX0_weighSet 84 = .ok (.getfield 20, 3) := by decide +kernel
theorem dX0_weighSet_87 : decode cX0_weighSet 87 = .ok (.iload_n 2, 1) := by decide +kernel
theorem dX0_weighSet_88 : decode cX0_weighSet 88 = .ok (.iconst 1, 1) := by decide +kernel
theorem dX0_weighSet_89 : decode cX0_weighSet 89 = .ok (.iload_n 3, 1) := by decide +kernel
theorem dX0_weighSet_90 : decode cX0_weighSet 90 = .ok (.ishl, 1) := by decide +kernel
theorem dX0_weighSet_91 : decode cX0_weighSet 91 = .ok (.ior, 1) := by decide +kernel
theorem dX0_weighSet_92 : decode cX0_weighSet 92 = .ok (.iaload, 1) := by decide +kernel
theorem dX0_weighSet_93 : decode cX0_weighSet 93 = .ok (.iadd, 1) := by decide +kernel
theorem dX0_weighSet_94 : decode cX0_weighSet 94 = .ok (.iastore, 1) := by decide +kernel
theorem dX0_weighSet_95 : decode cX0_weighSet 95 = .ok (.iinc 3 1, 3) := by decide +kernel
theorem dX0_weighSet_98 : decode cX0_weighSet 98 = .ok (.goto (-81), 3) := by decide +kernel
theorem dX0_weighSet_101 : decode cX0_weighSet 101 = .ok (.return_, 1) := by decide +kernel
theorem dX0_lowestNext_0 : decode cX0_lowestNext 0 = .ok (.iconst 0, 1) := by decide +kernel
theorem dX0_lowestNext_1 : decode cX0_lowestNext 1 = .ok (.istore_n 3, 1) := by decide +kernel
theorem dX0_lowestNext_2 : decode cX0_lowestNext 2 = .ok (.iload_n 3, 1) := by decide +kernel
theorem dX0_lowestNext_3 : decode cX0_lowestNext 3 = .ok (.iload_n 1, 1) := by decide +kernel
theorem dX0_lowestNext_4 : decode cX0_lowestNext 4 = .ok (.if_icmp .ge 35, 3) := by decide +kernel
theorem dX0_lowestNext_7 : decode cX0_lowestNext 7 = .ok (.iload_n 2, 1) := by decide +kernel
theorem dX0_lowestNext_8 : decode cX0_lowestNext 8 = .ok (.iload_n 3, 1) := by decide +kernel
theorem dX0_lowestNext_9 : decode cX0_lowestNext 9 = .ok (.invokestatic 45, 3) := by decide +kernel
theorem dX0_lowestNext_12 : decode cX0_lowestNext 12 = .ok (.ifCond .ne 21, 3) := by decide +kernel
theorem dX0_lowestNext_15 : decode cX0_lowestNext 15 = .ok (.aload_n 0, 1) := by decide +kernel
theorem dX0_lowestNext_16 : decode cX0_lowestNext 16 = .ok (.iload_n 1, 1) := by decide +kernel
theorem dX0_lowestNext_17 : decode cX0_lowestNext 17 = .ok (.iload_n 2, 1) := by decide +kernel
theorem dX0_lowestNext_18 : decode cX0_lowestNext 18 = .ok (.iload_n 3, 1) := by decide +kernel
theorem dX0_lowestNext_19 : decode cX0_lowestNext 19 = .ok (.invokevirtual 49, 3) := by decide +kernel
theorem dX0_lowestNext_22 : decode cX0_lowestNext 22 = .ok (.aload_n 0, 1) := by decide +kernel
theorem dX0_lowestNext_23 : decode cX0_lowestNext 23 = .ok (.getfield 16, 3) := by decide +kernel
theorem dX0_lowestNext_26 : decode cX0_lowestNext 26 = .ok (.iload_n 2, 1) := by decide +kernel
theorem dX0_lowestNext_27 : decode cX0_lowestNext 27 = .ok (.iaload, 1) := by decide +kernel
theorem dX0_lowestNext_28 : decode cX0_lowestNext 28 = .ok (.if_icmp .ne 5, 3) := by decide +kernel
theorem dX0_lowestNext_31 : decode cX0_lowestNext 31 = .ok (.iload_n 3, 1) := by decide +kernel
theorem dX0_lowestNext_32 : decode cX0_lowestNext 32 = .ok (.ireturn, 1) := by decide +kernel
theorem dX0_lowestNext_33 : decode cX0_lowestNext 33 = .ok (.iinc 3 1, 3) := by decide +kernel
theorem dX0_lowestNext_36 : decode cX0_lowestNext 36 = .ok (.goto (-34), 3) := by decide +kernel
theorem dX0_lowestNext_39 : decode cX0_lowestNext 39 = .ok (.iconst 0, 1) := by decide +kernel
theorem dX0_lowestNext_40 : decode cX0_lowestNext 40 = .ok (.ireturn, 1) := by decide +kernel
theorem dX0_quarrelWith_0 : decode cX0_quarrelWith 0 = .ok (.aload_n 0, 1) := by decide +kernel
theorem dX0_quarrelWith_1 : decode cX0_quarrelWith 1 = .ok (.getfield 16, 3) := by decide +kernel
theorem dX0_quarrelWith_4 : decode cX0_quarrelWith 4 = .ok (.iload_n 2, 1) := by decide +kernel
theorem dX0_quarrelWith_5 : decode cX0_quarrelWith 5 = .ok (.iconst 1, 1) := by decide +kernel
theorem dX0_quarrelWith_6 : decode cX0_quarrelWith 6 = .ok (.iload_n 3, 1) := by decide +kernel
theorem dX0_quarrelWith_7 : decode cX0_quarrelWith 7 = .ok (.ishl, 1) := by decide +kernel
theorem dX0_quarrelWith_8 : decode cX0_quarrelWith 8 = .ok (.ior, 1) := by decide +kernel
theorem dX0_quarrelWith_9 : decode cX0_quarrelWith 9 = .ok (.iaload, 1) := by decide +kernel
theorem dX0_quarrelWith_10 : decode cX0_quarrelWith 10 = .ok (.istore 4, 2) := by decide +kernel
theorem dX0_quarrelWith_12 : decode cX0_quarrelWith 12 = .ok (.iconst 0, 1) := by decide +kernel
theorem dX0_quarrelWith_13 : decode cX0_quarrelWith 13 = .ok (.istore 5, 2) := by decide +kernel
theorem dX0_quarrelWith_15 : decode cX0_quarrelWith 15 = .ok (.iload 5, 2) := by decide +kernel
theorem dX0_quarrelWith_17 : decode cX0_quarrelWith 17 = .ok (.iload_n 1, 1) := by decide +kernel
theorem dX0_quarrelWith_18 : decode cX0_quarrelWith 18 = .ok (.if_icmp .ge 32, 3) := by decide +kernel
theorem dX0_quarrelWith_21 : decode cX0_quarrelWith 21 = .ok (.iload_n 2, 1) := by decide +kernel
theorem dX0_quarrelWith_22 : decode cX0_quarrelWith 22 = .ok (.iload 5, 2) := by decide +kernel
theorem dX0_quarrelWith_24 : decode cX0_quarrelWith 24 = .ok (.invokestatic 45, 3) := by decide +kernel
theorem dX0_quarrelWith_27 : decode cX0_quarrelWith 27 = .ok (.ifCond .eq 17, 3) := by decide +kernel
theorem dX0_quarrelWith_30 : decode cX0_quarrelWith 30 = .ok (.iload 4, 2) := by decide +kernel
theorem dX0_quarrelWith_32 : decode cX0_quarrelWith 32 = .ok (.aload_n 0, 1) := by decide +kernel
theorem dX0_quarrelWith_33 : decode cX0_quarrelWith 33 = .ok (.getfield 11, 3) := by decide +kernel
theorem dX0_quarrelWith_36 : decode cX0_quarrelWith 36 = .ok (.iload_n 3, 1) := by decide +kernel
theorem dX0_quarrelWith_37 : decode cX0_quarrelWith 37 = .ok (.aaload, 1) := by decide +kernel
theorem dX0_quarrelWith_38 : decode cX0_quarrelWith 38 = .ok (.iload 5, 2) := by decide +kernel
theorem dX0_quarrelWith_40 : decode cX0_quarrelWith 40 = .ok (.iaload, 1) := by decide +kernel
theorem dX0_quarrelWith_41 : decode cX0_quarrelWith 41 = .ok (.iadd, 1) := by decide +kernel
theorem dX0_quarrelWith_42 : decode cX0_quarrelWith 42 = .ok (.istore 4, 2) := by decide +kernel
theorem dX0_quarrelWith_44 : decode cX0_quarrelWith 44 = .ok (.iinc 5 1, 3) := by decide +kernel
theorem dX0_quarrelWith_47 : decode cX0_quarrelWith 47 = .ok (.goto (-32), 3) := by decide +kernel
theorem dX0_quarrelWith_50 : decode cX0_quarrelWith 50 = .ok (.iload 4, 2) := by decide +kernel
theorem dX0_quarrelWith_52 : decode cX0_quarrelWith 52 = .ok (.ireturn, 1) := by decide +kernel
theorem dX0_isIn_0 : decode cX0_isIn 0 = .ok (.iload_n 0, 1) := by decide +kernel
theorem dX0_isIn_1 : decode cX0_isIn 1 = .ok (.iload_n 1, 1) := by decide +kernel
theorem dX0_isIn_2 : decode cX0_isIn 2 = .ok (.ishr, 1) := by decide +kernel
theorem dX0_isIn_3 : decode cX0_isIn 3 = .ok (.iconst 1, 1) := by decide +kernel
theorem dX0_isIn_4 : decode cX0_isIn 4 = .ok (.iand, 1) := by decide +kernel
theorem dX0_isIn_5 : decode cX0_isIn 5 = .ok (.ifCond .eq 7, 3) := by decide +kernel
theorem dX0_isIn_8 : decode cX0_isIn 8 = .ok (.iconst 1, 1) := by decide +kernel
theorem dX0_isIn_9 : decode cX0_isIn 9 = .ok (.goto 4, 3) := by decide +kernel
theorem dX0_isIn_12 : decode cX0_isIn 12 = .ok (.iconst 0, 1) := by decide +kernel
theorem dX0_isIn_13 : decode cX0_isIn 13 = .ok (.ireturn, 1) := by decide +kernel
theorem dX1_init_0 : decode cX1_init 0 = .ok (.aload_n 0, 1) := by decide +kernel
theorem dX1_init_1 : decode cX1_init 1 = .ok (.invokespecial 3, 3) := by decide +kernel
theorem dX1_init_4 : decode cX1_init 4 = .ok (.aload_n 0, 1) := by decide +kernel
theorem dX1_init_5 : decode cX1_init 5 = .ok (.bipush 41, 2) := by decide +kernel
theorem dX1_init_7 : decode cX1_init 7 = .ok (.bipush 41, 2) := by decide +kernel
theorem dX1_init_9 : decode cX1_init 9 = .ok (.multianewarray 9 2, 4) := by decide +kernel
theorem dX1_init_13 : decode cX1_init 13 = .ok (.putfield 11, 3) := by decide +kernel
theorem dX1_init_16 : decode cX1_init 16 = .ok (.aload_n 0, 1) := by decide +kernel
theorem dX1_init_17 : decode cX1_init 17 = .ok (.bipush 40, 2) := by decide +kernel
theorem dX1_init_19 : decode cX1_init 19 = .ok (.newarray .int, 2) := by decide +kernel
theorem dX1_init_21 : decode cX1_init 21 = .ok (.putfield 16, 3) := by decide +kernel
theorem dX1_init_24 : decode cX1_init 24 = .ok (.return_, 1) := by decide +kernel
theorem dX1_cost_0 : decode cX1_cost 0 = .ok (.aload_n 0, 1) := by decide +kernel
theorem dX1_cost_1 : decode cX1_cost 1 = .ok (.getfield 11, 3) := by decide +kernel
theorem dX1_cost_4 : decode cX1_cost 4 = .ok (.iconst 0, 1) := by decide +kernel
theorem dX1_cost_5 : decode cX1_cost 5 = .ok (.aaload, 1) := by decide +kernel
theorem dX1_cost_6 : decode cX1_cost 6 = .ok (.iconst 0, 1) := by decide +kernel
theorem dX1_cost_7 : decode cX1_cost 7 = .ok (.iaload, 1) := by decide +kernel
theorem dX1_cost_8 : decode cX1_cost 8 = .ok (.ireturn, 1) := by decide +kernel
theorem dX1_lineUp_0 : decode cX1_lineUp 0 = .ok (.aload_n 0, 1) := by decide +kernel
theorem dX1_lineUp_1 : decode cX1_lineUp 1 = .ok (.aload_n 1, 1) := by decide +kernel
theorem dX1_lineUp_2 : decode cX1_lineUp 2 = .ok (.iload_n 2, 1) := by decide +kernel
theorem dX1_lineUp_3 : decode cX1_lineUp 3 = .ok (.aload_n 3, 1) := by decide +kernel
theorem dX1_lineUp_4 : decode cX1_lineUp 4 = .ok (.iload 4, 2) := by decide +kernel
theorem dX1_lineUp_6 : decode cX1_lineUp 6 = .ok (.invokevirtual 20, 3) := by decide +kernel
theorem dX1_lineUp_9 : decode cX1_lineUp 9 = .ok (.iconst 0, 1) := by decide +kernel
theorem dX1_lineUp_10 : decode cX1_lineUp 10 = .ok (.istore 5, 2) := by decide +kernel
theorem dX1_lineUp_12 : decode cX1_lineUp 12 = .ok (.iconst 0, 1) := by decide +kernel
theorem dX1_lineUp_13 : decode cX1_lineUp 13 = .ok (.istore 6, 2) := by decide +kernel
theorem dX1_lineUp_15 : decode cX1_lineUp 15 = .ok (.iload 6, 2) := by decide +kernel
theorem dX1_lineUp_17 : decode cX1_lineUp 17 = .ok (.iload_n 2, 1) := by decide +kernel
theorem dX1_lineUp_18 : decode cX1_lineUp 18 = .ok (.if_icmp .ge 87, 3) := by decide +kernel
theorem dX1_lineUp_21 : decode cX1_lineUp 21 = .ok (.iload 5, 2) := by decide +kernel
theorem dX1_lineUp_23 : decode cX1_lineUp 23 = .ok (.iload 4, 2) := by decide +kernel
theorem dX1_lineUp_25 : decode cX1_lineUp 25 = .ok (.if_icmp .ge 33, 3) := by decide +kernel
theorem dX1_lineUp_28 : decode cX1_lineUp 28 = .ok (.aload_n 0, 1) := by decide +kernel
theorem dX1_lineUp_29 : decode cX1_lineUp 29 = .ok (.aload_n 1, 1) := by decide +kernel
theorem dX1_lineUp_30 : decode cX1_lineUp 30 = .ok (.iload 6, 2) := by decide +kernel
theorem dX1_lineUp_32 : decode cX1_lineUp 32 = .ok (.aload_n 3, 1) := by decide +kernel
theorem dX1_lineUp_33 : decode cX1_lineUp 33 = .ok (.iload 5, 2) := by decide +kernel
theorem dX1_lineUp_35 : decode cX1_lineUp 35 = .ok (.invokevirtual 24, 3) := by decide +kernel
theorem dX1_lineUp_38 : decode cX1_lineUp 38 = .ok (.ifCond .ne 20, 3) := by decide +kernel
theorem dX1_lineUp_41 : decode cX1_lineUp 41 = .ok (.aload_n 0, 1) := by decide +kernel
theorem dX1_lineUp_42 : decode cX1_lineUp 42 = .ok (.iload 6, 2) := by decide +kernel
theorem dX1_lineUp_44 : decode cX1_lineUp 44 = .ok (.iload 5, 2) := by decide +kernel
theorem dX1_lineUp_46 : decode cX1_lineUp 46 = .ok (.invokevirtual 28, 3) := by decide +kernel
theorem dX1_lineUp_49 : decode cX1_lineUp 49 = .ok (.ifCond .eq 9, 3) := by decide +kernel
theorem dX1_lineUp_52 : decode cX1_lineUp 52 = .ok (.iinc 5 1, 3) := by decide +kernel
theorem dX1_lineUp_55 : decode cX1_lineUp 55 = .ok (.goto (-34), 3) := by decide +kernel
theorem dX1_lineUp_58 : decode cX1_lineUp 58 = .ok (.aload_n 0, 1) := by decide +kernel
theorem dX1_lineUp_59 : decode cX1_lineUp 59 = .ok (.getfield 16, 3) := by decide +kernel
theorem dX1_lineUp_62 : decode cX1_lineUp 62 = .ok (.iload 6, 2) := by decide +kernel
theorem dX1_lineUp_64 : decode cX1_lineUp 64 = .ok (.bipush (-4), 2) := by decide +kernel
theorem dX1_lineUp_66 : decode cX1_lineUp 66 = .ok (.iastore, 1) := by decide +kernel
theorem dX1_lineUp_67 : decode cX1_lineUp 67 = .ok (.iload 5, 2) := by decide +kernel
theorem dX1_lineUp_69 : decode cX1_lineUp 69 = .ok (.iload 4, 2) := by decide +kernel
theorem dX1_lineUp_71 : decode cX1_lineUp 71 = .ok (.if_icmp .ge 28, 3) := by decide +kernel
theorem dX1_lineUp_74 : decode cX1_lineUp 74 = .ok (.aload_n 0, 1) := by decide +kernel
theorem dX1_lineUp_75 : decode cX1_lineUp 75 = .ok (.aload_n 1, 1) := by decide +kernel
theorem dX1_lineUp_76 : decode cX1_lineUp 76 = .ok (.iload 6, 2) := by decide +kernel
theorem dX1_lineUp_78 : decode cX1_lineUp 78 = .ok (.aload_n 3, 1) := by decide +kernel
theorem dX1_lineUp_79 : decode cX1_lineUp 79 = .ok (.iload 5, 2) := by decide +kernel
theorem dX1_lineUp_81 : decode cX1_lineUp 81 = .ok (.invokevirtual 24, 3) := by decide +kernel
theorem dX1_lineUp_84 : decode cX1_lineUp 84 = .ok (.ifCond .eq 15, 3) := by decide +kernel
theorem dX1_lineUp_87 : decode cX1_lineUp 87 = .ok (.aload_n 0, 1) := by decide +kernel
theorem dX1_lineUp_88 : decode cX1_lineUp 88 = .ok (.getfield 16, 3) := by decide +kernel
theorem dX1_lineUp_91 : decode cX1_lineUp 91 = .ok (.iload 6, 2) := by decide +kernel
theorem dX1_lineUp_93 : decode cX1_lineUp 93 = .ok (.iload 5, 2) := by decide +kernel
theorem dX1_lineUp_95 : decode cX1_lineUp 95 = .ok (.iastore, 1) := by decide +kernel
theorem dX1_lineUp_96 : decode cX1_lineUp 96 = .ok (.iinc 5 1, 3) := by decide +kernel
theorem dX1_lineUp_99 : decode cX1_lineUp 99 = .ok (.iinc 6 1, 3) := by decide +kernel
theorem dX1_lineUp_102 : decode cX1_lineUp 102 = .ok (.goto (-87), 3) := by decide +kernel
theorem dX1_lineUp_105 : decode cX1_lineUp 105 = .ok (.return_, 1) := by decide +kernel
theorem dX1_fillCosts_0 : decode cX1_fillCosts 0 = .ok (.iconst 0, 1) := by decide +kernel
theorem dX1_fillCosts_1 : decode cX1_fillCosts 1 = .ok (.istore 5, 2) := by decide +kernel
theorem dX1_fillCosts_3 : decode cX1_fillCosts 3 = .ok (.iload 5, 2) := by decide +kernel
theorem dX1_fillCosts_5 : decode cX1_fillCosts 5 = .ok (.iload 4, 2) := by decide +kernel
theorem dX1_fillCosts_7 : decode cX1_fillCosts 7 = .ok (.if_icmp .gt 25, 3) := by decide +kernel
theorem dX1_fillCosts_10 : decode cX1_fillCosts 10 = .ok (.aload_n 0, 1) := by decide +kernel
theorem dX1_fillCosts_11 : decode cX1_fillCosts 11 = .ok (.getfield 11, 3) := by decide +kernel
theorem dX1_fillCosts_14 : decode cX1_fillCosts 14 = .ok (.iload_n 2, 1) := by decide +kernel
theorem dX1_fillCosts_15 : decode cX1_fillCosts 15 = .ok (.aaload, 1) := by decide +kernel
theorem dX1_fillCosts_16 : decode cX1_fillCosts 16 = .ok (.iload 5, 2) := by decide +kernel
theorem dX1_fillCosts_18 : decode cX1_fillCosts 18 = .ok (.iconst 3, 1) := by decide +kernel
theorem dX1_fillCosts_19 : decode cX1_fillCosts 19 = .ok (.iload 4, 2) := by decide +kernel
theorem dX1_fillCosts_21 : decode cX1_fillCosts 21 = .ok (.iload 5, 2) := by decide +kernel
theorem dX1_fillCosts_23 : decode cX1_fillCosts 23 = .ok (.isub, 1) := by decide +kernel
theorem dX1_fillCosts_24 : decode cX1_fillCosts 24 = .ok (.imul, 1) := by decide +kernel
theorem dX1_fillCosts_25 : decode cX1_fillCosts 25 = .ok (.iastore, 1) := by decide +kernel
theorem dX1_fillCosts_26 : decode cX1_fillCosts 26 = .ok (.iinc 5 1, 3) := by decide +kernel
theorem dX1_fillCosts_29 : decode cX1_fillCosts 29 = .ok (.goto (-26), 3) := by decide +kernel
theorem dX1_fillCosts_32 : decode cX1_fillCosts 32 = .ok (.iload_n 2, 1) := by decide +kernel
theorem dX1_fillCosts_33 : decode cX1_fillCosts 33 = .ok (.iconst 1, 1) := by decide +kernel
theorem dX1_fillCosts_34 : decode cX1_fillCosts 34 = .ok (.isub, 1) := by decide +kernel
theorem dX1_fillCosts_35 : decode cX1_fillCosts 35 = .ok (.istore 5, 2) := by decide +kernel
theorem dX1_fillCosts_37 : decode cX1_fillCosts 37 = .ok (.iload 5, 2) := by decide +kernel
theorem dX1_fillCosts_39 : decode cX1_fillCosts 39 = .ok (.ifCond .lt 105, 3) := by decide +kernel
theorem dX1_fillCosts_42 : decode cX1_fillCosts 42 = .ok (.aload_n 0, 1) := by decide +kernel
theorem dX1_fillCosts_43 : decode cX1_fillCosts 43 = .ok (.getfield 11, 3) := by decide +kernel
theorem dX1_fillCosts_46 : decode cX1_fillCosts 46 = .ok (.iload 5, 2) := by decide +kernel
theorem dX1_fillCosts_48 : decode cX1_fillCosts 48 = .ok (.aaload, 1) := by decide +kernel
theorem dX1_fillCosts_49 : decode cX1_fillCosts 49 = .ok (.astore 6, 2) := by decide +kernel
theorem dX1_fillCosts_51 : decode cX1_fillCosts 51 = .ok (.aload_n 0, 1) := by decide +kernel
theorem dX1_fillCosts_52 : decode cX1_fillCosts 52 = .ok (.getfield 11, 3) := by decide +kernel
theorem dX1_fillCosts_55 : decode cX1_fillCosts 55 = .ok (.iload 5, 2) := by decide +kernel
theorem dX1_fillCosts_57 : decode cX1_fillCosts 57 = .ok (.iconst 1, 1) := by decide +kernel
theorem dX1_fillCosts_58 : decode cX1_fillCosts 58 = .ok (.iadd, 1) := by decide +kernel
theorem dX1_fillCosts_59 : decode cX1_fillCosts 59 = .ok (.aaload, 1) := by decide +kernel
theorem dX1_fillCosts_60 : decode cX1_fillCosts 60 = .ok (.astore 7, 2) := by decide +kernel
theorem dX1_fillCosts_62 : decode cX1_fillCosts 62 = .ok (.aload 6, 2) := by decide +kernel
theorem dX1_fillCosts_64 : decode cX1_fillCosts 64 = .ok (.iload 4, 2) := by decide +kernel
theorem dX1_fillCosts_66 : decode cX1_fillCosts 66 = .ok (.iconst 3, 1) := by decide +kernel
theorem dX1_fillCosts_67 : decode cX1_fillCosts 67 = .ok (.iload_n 2, 1) := by decide +kernel
theorem dX1_fillCosts_68 : decode cX1_fillCosts 68 = .ok (.iload 5, 2) := by decide +kernel
theorem dX1_fillCosts_70 : decode cX1_fillCosts 70 = .ok (.isub, 1) := by decide +kernel
theorem dX1_fillCosts_71 : decode cX1_fillCosts 71 = .ok (.imul, 1) := by decide +kernel
theorem dX1_fillCosts_72 : decode cX1_fillCosts 72 = .ok (.iastore, 1) := by decide +kernel
theorem dX1_fillCosts_73 : decode cX1_fillCosts 73 = .ok (.iload 4, 2) := by decide +kernel
theorem dX1_fillCosts_75 : decode cX1_fillCosts 75 = .ok (.iconst 1, 1) := by decide +kernel
theorem dX1_fillCosts_76 : decode cX1_fillCosts 76 = .ok (.isub, 1) := by decide +kernel
theorem dX1_fillCosts_77 : decode cX1_fillCosts 77 = .ok (.istore 8, 2) := by decide +kernel
theorem dX1_fillCosts_79 : decode cX1_fillCosts 79 = .ok (.iload 8, 2) := by decide +kernel
theorem dX1_fillCosts_81 : decode cX1_fillCosts 81 = .ok (.ifCond .lt 57, 3) := by decide +kernel
theorem dX1_fillCosts_84 : decode cX1_fillCosts 84 = .ok (.iconst 3, 1) := by decide +kernel
theorem dX1_fillCosts_85 : decode cX1_fillCosts 85 = .ok (.aload 6, 2) := by decide +kernel
theorem dX1_fillCosts_87 : decode cX1_fillCosts 87 = .ok (.iload 8, 2) := by decide +kernel
theorem dX1_fillCosts_89 : decode cX1_fillCosts 89 = .ok (.iconst 1, 1) := by decide +kernel
theorem dX1_fillCosts_90 : decode cX1_fillCosts 90 = .ok (.iadd, 1) := by decide +kernel
theorem dX1_fillCosts_91 : decode cX1_fillCosts 91 = .ok (.iaload, 1) := by decide +kernel
theorem dX1_fillCosts_92 : decode cX1_fillCosts 92 = .ok (.aload 7, 2) := by decide +kernel
theorem dX1_fillCosts_94 : decode cX1_fillCosts 94 = .ok (.iload 8, 2) := by decide +kernel
theorem dX1_fillCosts_96 : decode cX1_fillCosts 96 = .ok (.iaload, 1) := by decide +kernel
theorem dX1_fillCosts_97 : decode cX1_fillCosts 97 = .ok (.invokestatic 32, 3) := by decide +kernel
theorem dX1_fillCosts_100 : decode cX1_fillCosts 100 = .ok (.iadd, 1) := by decide +kernel
theorem dX1_fillCosts_101 : decode cX1_fillCosts 101 = .ok (.istore 9, 2) := by decide +kernel
theorem dX1_fillCosts_103 : decode cX1_fillCosts 103 = .ok (.aload 6, 2) := by decide +kernel
theorem dX1_fillCosts_105 : decode cX1_fillCosts 105 = .ok (.iload 8, 2) := by decide +kernel
theorem dX1_fillCosts_107 : decode cX1_fillCosts 107 = .ok (.iload 9, 2) := by decide +kernel
theorem dX1_fillCosts_109 : decode cX1_fillCosts 109 = .ok (.aload_n 1, 1) := by decide +kernel
theorem dX1_fillCosts_110 : decode cX1_fillCosts 110 = .ok (.iload 5, 2) := by decide +kernel
theorem dX1_fillCosts_112 : decode cX1_fillCosts 112 = .ok (.iaload, 1) := by decide +kernel
theorem dX1_fillCosts_113 : decode cX1_fillCosts 113 = .ok (.aload_n 3, 1) := by decide +kernel
theorem dX1_fillCosts_114 : decode cX1_fillCosts 114 = .ok (.iload 8, 2) := by decide +kernel
theorem dX1_fillCosts_116 : decode cX1_fillCosts 116 = .ok (.iaload, 1) := by decide +kernel
theorem dX1_fillCosts_117 : decode cX1_fillCosts 117 = .ok (.invokestatic 38, 3) := by decide +kernel
theorem dX1_fillCosts_120 : decode cX1_fillCosts 120 = .ok (.aload 7, 2) := by decide +kernel
theorem dX1_fillCosts_122 : decode cX1_fillCosts 122 = .ok (.iload 8, 2) := by decide +kernel
theorem dX1_fillCosts_124 : decode cX1_fillCosts 124 = .ok (.iconst 1, 1) := by decide +kernel
theorem dX1_fillCosts_125 : decode cX1_fillCosts 125 = .ok (.iadd, 1) := by decide +kernel
theorem dX1_fillCosts_126 : decode cX1_fillCosts 126 = .ok (.iaload, 1) := by decide +kernel
theorem dX1_fillCosts_127 : decode cX1_fillCosts 127 = .ok (.iadd, 1) := by decide +kernel
theorem dX1_fillCosts_128 : decode cX1_fillCosts 128 = .ok (.invokestatic 32, 3) := by decide +kernel
theorem dX1_fillCosts_131 : decode cX1_fillCosts 131 = .ok (.iastore, 1) := by decide +kernel
theorem dX1_fillCosts_132 : decode cX1_fillCosts 132 = .ok (.iinc 8 (-1), 3) := by decide +kernel
theorem dX1_fillCosts_135 : decode cX1_fillCosts 135 = .ok (.goto (-56), 3) := by decide +kernel
theorem dX1_fillCosts_138 : decode cX1_fillCosts 138 = .ok (.iinc 5 (-1), 3) := by decide +kernel
theorem dX1_fillCosts_141 : decode cX1_fillCosts 141 = .ok (.goto (-104), 3) := by decide +kernel
theorem dX1_fillCosts_144 : decode cX1_fillCosts 144 = .ok (.return_, 1) := by decide +kernel
theorem dX1_canPair_0 : decode cX1_canPair 0 = .ok (.aload_n 0, 1) := by decide +kernel
theorem dX1_canPair_1 : decode cX1_canPair 1 = .ok (.getfield 11, 3) := by decide +kernel
theorem dX1_canPair_4 : decode cX1_canPair 4 = .ok (.iload_n 2, 1) := by decide +kernel
theorem dX1_canPair_5 : decode cX1_canPair 5 = .ok (.aaload, 1) := by decide +kernel
theorem dX1_canPair_6 : decode cX1_canPair 6 = .ok (.iload 4, 2) := by decide +kernel
theorem dX1_canPair_8 : decode cX1_canPair 8 = .ok (.iaload, 1) := by decide +kernel
theorem dX1_canPair_9 : decode cX1_canPair 9 = .ok (.aload_n 1, 1) := by decide +kernel
theorem dX1_canPair_10 : decode cX1_canPair 10 = .ok (.iload_n 2, 1) := by decide +kernel
theorem dX1_canPair_11 : decode cX1_canPair 11 = .ok (.iaload, 1) := by decide +kernel
theorem dX1_canPair_12 : decode cX1_canPair 12 = .ok (.aload_n 3, 1) := by decide +kernel
theorem dX1_canPair_13 : decode cX1_canPair 13 = .ok (.iload 4, 2) := by decide +kernel
theorem dX1_canPair_15 : decode cX1_canPair 15 = .ok (.iaload, 1) := by decide +kernel
theorem dX1_canPair_16 : decode cX1_canPair 16 = .ok (.invokestatic 38, 3) := by decide +kernel
theorem dX1_canPair_19 : decode cX1_canPair 19 = .ok (.aload_n 0, 1) := by decide +kernel
theorem dX1_canPair_20 : decode cX1_canPair 20 = .ok (.getfield 11, 3) := by decide +kernel
theorem dX1_canPair_23 : decode cX1_canPair 23 = .ok (.iload_n 2, 1) := by decide +kernel
theorem dX1_canPair_24 : decode cX1_canPair 24 = .ok (.iconst 1, 1) := by decide +kernel
theorem dX1_canPair_25 : decode cX1_canPair 25 = .ok (.iadd, 1) := by decide +kernel
theorem dX1_canPair_26 : decode cX1_canPair 26 = .ok (.aaload, 1) := by decide +kernel
theorem dX1_canPair_27 : decode cX1_canPair 27 = .ok (.iload 4, 2) := by decide +kernel
theorem dX1_canPair_29 : decode cX1_canPair 29 = .ok (.iconst 1, 1) := by decide +kernel
theorem dX1_canPair_30 : decode cX1_canPair 30 = .ok (.iadd, 1) := by decide +kernel
theorem dX1_canPair_31 : decode cX1_canPair 31 = .ok (.iaload, 1) := by decide +kernel
theorem dX1_canPair_32 : decode cX1_canPair 32 = .ok (.iadd, 1) := by decide +kernel
theorem dX1_canPair_33 : decode cX1_canPair 33 = .ok (.if_icmp .ne 7, 3) := by decide +kernel
theorem dX1_canPair_36 : decode cX1_canPair 36 = .ok (.iconst 1, 1) := by decide +kernel
theorem dX1_canPair_37 : decode cX1_canPair 37 = .ok (.goto 4, 3) := by decide +kernel
theorem dX1_canPair_40 : decode cX1_canPair 40 = .ok (.iconst 0, 1) := by decide +kernel
theorem dX1_canPair_41 : decode cX1_canPair 41 = .ok (.ireturn, 1) := by decide +kernel
theorem dX1_canLeaveSecond_0 : decode cX1_canLeaveSecond 0 = .ok (.aload_n 0, 1) := by decide +kernel
theorem dX1_canLeaveSecond_1 : decode cX1_canLeaveSecond 1 = .ok (.getfield 11, 3) := by decide +kernel
theorem dX1_canLeaveSecond_4 : decode cX1_canLeaveSecond 4 = .ok (.iload_n 1, 1) := by decide +kernel
theorem dX1_canLeaveSecond_5 : decode cX1_canLeaveSecond 5 = .ok (.aaload, 1) := by decide +kernel
theorem dX1_canLeaveSecond_6 : decode cX1_canLeaveSecond 6 = .ok (.iload_n 2, 1) := by decide +kernel
theorem dX1_canLeaveSecond_7 : decode cX1_canLeaveSecond 7 = .ok (.iaload, 1) := by decide +kernel
theorem dX1_canLeaveSecond_8 : decode cX1_canLeaveSecond 8 = .ok (.iconst 3, 1) := by decide +kernel
theorem dX1_canLeaveSecond_9 : decode cX1_canLeaveSecond 9 = .ok (.aload_n 0, 1) := by decide +kernel
theorem dX1_canLeaveSecond_10 : decode cX1_canLeaveSecond 10 = .ok (.getfield 11, 3) := by decide +kernel
theorem dX1_canLeaveSecond_13 : decode cX1_canLeaveSecond 13 = .ok (.iload_n 1, 1) := by decide +kernel
theorem dX1_canLeaveSecond_14 : decode cX1_canLeaveSecond 14 = .ok (.aaload, 1) := by decide +kernel
theorem dX1_canLeaveSecond_15 : decode cX1_canLeaveSecond 15 = .ok (.iload_n 2, 1) := by decide +kernel
theorem dX1_canLeaveSecond_16 : decode cX1_canLeaveSecond 16 = .ok (.iconst 1, 1) := by decide +kernel
theorem dX1_canLeaveSecond_17 : decode cX1_canLeaveSecond 17 = .ok (.iadd, 1) := by decide +kernel
theorem dX1_canLeaveSecond_18 : decode cX1_canLeaveSecond 18 = .ok (.iaload, 1) := by decide +kernel
theorem dX1_canLeaveSecond_19 : decode cX1_canLeaveSecond 19 = .ok (.iadd, 1) := by decide +kernel
theorem dX1_canLeaveSecond_20 : decode cX1_canLeaveSecond 20 = .ok (.if_icmp .ne 7, 3) := by decide +kernel
theorem dX1_canLeaveSecond_23 : decode cX1_canLeaveSecond 23 = .ok (.iconst 1, 1) := by decide +kernel
theorem dX1_canLeaveSecond_24 : decode cX1_canLeaveSecond 24 = .ok (.goto 4, 3) := by decide +kernel
theorem dX1_canLeaveSecond_27 : decode cX1_canLeaveSecond 27 = .ok (.iconst 0, 1) := by decide +kernel
theorem dX1_canLeaveSecond_28 : decode cX1_canLeaveSecond 28 = .ok (.ireturn, 1) := by decide +kernel
theorem dX1_pairCost_0 : decode cX1_pairCost 0 = .ok (.iconst 5, 1) := by decide +kernel
theorem dX1_pairCost_1 : decode cX1_pairCost 1 = .ok (.iload_n 0, 1) := by decide +kernel
theorem dX1_pairCost_2 : decode cX1_pairCost 2 = .ok (.iload_n 1, 1) := by decide +kernel
theorem dX1_pairCost_3 : decode cX1_pairCost 3 = .ok (.isub, 1) := by decide +kernel
theorem dX1_pairCost_4 : decode cX1_pairCost 4 = .ok (.invokestatic 41, 3) := by decide +kernel
theorem dX1_pairCost_7 : decode cX1_pairCost 7 = .ok (.invokestatic 32, 3) := by decide +kernel
theorem dX1_pairCost_10 : decode cX1_pairCost 10 = .ok (.ireturn, 1) := by decide +kernel
theorem dX2_init_0 : decode cX2_init 0 = .ok (.aload_n 0, 1) := by decide +kernel
theorem dX2_init_1 : decode cX2_init 1 = .ok (.invokespecial 3, 3) := by decide +kernel
theorem dX2_init_4 : decode cX2_init 4 = .ok (.aload_n 0, 1) := by decide +kernel
theorem dX2_init_5 : decode cX2_init 5 = .ok (.bipush 12, 2) := by decide +kernel
theorem dX2_init_7 : decode cX2_init 7 = .ok (.newarray .int, 2) := by decide +kernel
theorem dX2_init_9 : decode cX2_init 9 = .ok (.putfield 9, 3) := by decide +kernel
theorem dX2_init_12 : decode cX2_init 12 = .ok (.aload_n 0, 1) := by decide +kernel
theorem dX2_init_13 : decode cX2_init 13 = .ok (.bipush 12, 2) := by decide +kernel
theorem dX2_init_15 : decode cX2_init 15 = .ok (.newarray .int, 2) := by decide +kernel
theorem dX2_init_17 : decode cX2_init 17 = .ok (.putfield 15, 3) := by decide +kernel
theorem dX2_init_20 : decode cX2_init 20 = .ok (.aload_n 0, 1) := by decide +kernel
theorem dX2_init_21 : decode cX2_init 21 = .ok (.bipush 12, 2) := by decide +kernel
theorem dX2_init_23 : decode cX2_init 23 = .ok (.newarray .int, 2) := by decide +kernel
theorem dX2_init_25 : decode cX2_init 25 = .ok (.putfield 18, 3) := by decide +kernel
theorem dX2_init_28 : decode cX2_init 28 = .ok (.aload_n 0, 1) := by decide +kernel
theorem dX2_init_29 : decode cX2_init 29 = .ok (.bipush 12, 2) := by decide +kernel
theorem dX2_init_31 : decode cX2_init 31 = .ok (.newarray .int, 2) := by decide +kernel
theorem dX2_init_33 : decode cX2_init 33 = .ok (.putfield 21, 3) := by decide +kernel
theorem dX2_init_36 : decode cX2_init 36 = .ok (.return_, 1) := by decide +kernel
theorem dX2_append_0 : decode cX2_append 0 = .ok (.aload_n 0, 1) := by decide +kernel
theorem dX2_append_1 : decode cX2_append 1 = .ok (.getfield 9, 3) := by decide +kernel
theorem dX2_append_4 : decode cX2_append 4 = .ok (.aload_n 0, 1) := by decide +kernel
theorem dX2_append_5 : decode cX2_append 5 = .ok (.getfield 24, 3) := by decide +kernel
theorem dX2_append_8 : decode cX2_append 8 = .ok (.iload_n 1, 1) := by decide +kernel
theorem dX2_append_9 : decode cX2_append 9 = .ok (.iastore, 1) := by decide +kernel
theorem dX2_append_10 : decode cX2_append 10 = .ok (.aload_n 0, 1) := by decide +kernel
theorem dX2_append_11 : decode cX2_append 11 = .ok (.getfield 15, 3) := by decide +kernel
theorem dX2_append_14 : decode cX2_append 14 = .ok (.aload_n 0, 1) := by decide +kernel
theorem dX2_append_15 : decode cX2_append 15 = .ok (.getfield 24, 3) := by decide +kernel
theorem dX2_append_18 : decode cX2_append 18 = .ok (.iload_n 2, 1) := by decide +kernel
theorem dX2_append_19 : decode cX2_append 19 = .ok (.iastore, 1) := by decide +kernel
theorem dX2_append_20 : decode cX2_append 20 = .ok (.aload_n 0, 1) := by decide +kernel
theorem dX2_append_21 : decode cX2_append 21 = .ok (.getfield 18, 3) := by decide +kernel
theorem dX2_append_24 : decode cX2_append 24 = .ok (.aload_n 0, 1) := by decide +kernel
theorem dX2_append_25 : decode cX2_append 25 = .ok (.getfield 24, 3) := by decide +kernel
theorem dX2_append_28 : decode cX2_append 28 = .ok (.iload_n 3, 1) := by decide +kernel
theorem dX2_append_29 : decode cX2_append 29 = .ok (.iastore, 1) := by decide +kernel
theorem dX2_append_30 : decode cX2_append 30 = .ok (.aload_n 0, 1) := by decide +kernel
theorem dX2_append_31 : decode cX2_append 31 = .ok (.getfield 21, 3) := by decide +kernel
theorem dX2_append_34 : decode cX2_append 34 = .ok (.aload_n 0, 1) := by decide +kernel
theorem dX2_append_35 : decode cX2_append 35 = .ok (.getfield 24, 3) := by decide +kernel
theorem dX2_append_38 : decode cX2_append 38 = .ok (.iload 4, 2) := by decide +kernel
theorem dX2_append_40 : decode cX2_append 40 = .ok (.iastore, 1) := by decide +kernel
theorem dX2_append_41 : decode cX2_append 41 = .ok (.aload_n 0, 1) := by decide +kernel
theorem dX2_append_42 : decode cX2_append 42 = .ok (.dup, 1) := by decide +kernel
theorem dX2_append_43 : decode cX2_append 43 = .ok (.getfield 24, 3) := by decide +kernel
theorem dX2_append_46 : decode cX2_append 46 = .ok (.iconst 1, 1) := by decide +kernel
theorem dX2_append_47 : decode cX2_append 47 = .ok (.iadd, 1) := by decide +kernel
theorem dX2_append_48 : decode cX2_append 48 = .ok (.putfield 24, 3) := by decide +kernel
theorem dX2_append_51 : decode cX2_append 51 = .ok (.return_, 1) := by decide +kernel
theorem dX2_tintOf_0 : decode cX2_tintOf 0 = .ok (.aload_n 0, 1) := by decide +kernel
theorem dX2_tintOf_1 : decode cX2_tintOf 1 = .ok (.getfield 24, 3) := by decide +kernel
theorem dX2_tintOf_4 : decode cX2_tintOf 4 = .ok (.iconst 1, 1) := by decide +kernel
theorem dX2_tintOf_5 : decode cX2_tintOf 5 = .ok (.isub, 1) := by decide +kernel
theorem dX2_tintOf_6 : decode cX2_tintOf 6 = .ok (.istore_n 3, 1) := by decide +kernel
theorem dX2_tintOf_7 : decode cX2_tintOf 7 = .ok (.iload_n 3, 1) := by decide +kernel
theorem dX2_tintOf_8 : decode cX2_tintOf 8 = .ok (.ifCond .lt 46, 3) := by decide +kernel
theorem dX2_tintOf_11 : decode cX2_tintOf 11 = .ok (.aload_n 0, 1) := by decide +kernel
theorem dX2_tintOf_12 : decode cX2_tintOf 12 = .ok (.getfield 9, 3) := by decide +kernel
theorem dX2_tintOf_15 : decode cX2_tintOf 15 = .ok (.iload_n 3, 1) := by decide +kernel
theorem dX2_tintOf_16 : decode cX2_tintOf 16 = .ok (.iaload, 1) := by decide +kernel
theorem dX2_tintOf_17 : decode cX2_tintOf 17 = .ok (.iload_n 1, 1) := by decide +kernel
theorem dX2_tintOf_18 : decode cX2_tintOf 18 = .ok (.if_icmp .ne 30, 3) := by decide +kernel
theorem dX2_tintOf_21 : decode cX2_tintOf 21 = .ok (.aload_n 0, 1) := by decide +kernel
theorem dX2_tintOf_22 : decode cX2_tintOf 22 = .ok (.getfield 15, 3) := by decide +kernel
theorem dX2_tintOf_25 : decode cX2_tintOf 25 = .ok (.iload_n 3, 1) := by decide +kernel
theorem dX2_tintOf_26 : decode cX2_tintOf 26 = .ok (.iaload, 1) := by decide +kernel
theorem dX2_tintOf_27 : decode cX2_tintOf 27 = .ok (.iload_n 2, 1) := by decide +kernel
theorem dX2_tintOf_28 : decode cX2_tintOf 28 = .ok (.if_icmp .gt 20, 3) := by decide +kernel
theorem dX2_tintOf_31 : decode cX2_tintOf 31 = .ok (.iload_n 2, 1) := by decide +kernel
theorem dX2_tintOf_32 : decode cX2_tintOf 32 = .ok (.aload_n 0, 1) := by decide +kernel
theorem dX2_tintOf_33 : decode cX2_tintOf 33 = .ok (.getfield 18, 3) := by decide +kernel
theorem dX2_tintOf_36 : decode cX2_tintOf 36 = .ok (.iload_n 3, 1) := by decide +kernel
theorem dX2_tintOf_37 : decode cX2_tintOf 37 = .ok (.iaload, 1) := by decide +kernel
theorem dX2_tintOf_38 : decode cX2_tintOf 38 = .ok (.if_icmp .gt 10, 3) := by decide +kernel
theorem dX2_tintOf_41 : decode cX2_tintOf 41 = .ok (.aload_n 0, 1) := by decide +kernel
theorem dX2_tintOf_42 : decode cX2_tintOf 42 = .ok (.getfield 21, 3) := by decide +kernel
theorem dX2_tintOf_45 : decode cX2_tintOf 45 = .ok (.iload_n 3, 1) := by decide +kernel
theorem dX2_tintOf_46 : decode cX2_tintOf 46 = .ok (.iaload, 1) := by decide +kernel
theorem dX2_tintOf_47 : decode cX2_tintOf 47 = .ok (.ireturn, 1) := by decide +kernel
theorem dX2_tintOf_48 : decode cX2_tintOf 48 = .ok (.iinc 3 (-1), 3) := by decide +kernel
theorem dX2_tintOf_51 : decode cX2_tintOf 51 = .ok (.goto (-44), 3) := by decide +kernel
theorem dX2_tintOf_54 : decode cX2_tintOf 54 = .ok (.iconst 0, 1) := by decide +kernel
theorem dX2_tintOf_55 : decode cX2_tintOf 55 = .ok (.ireturn, 1) := by decide +kernel
theorem dX3_init_0 : decode cX3_init 0 = .ok (.aload_n 0, 1) := by decide +kernel
theorem dX3_init_1 : decode cX3_init 1 = .ok (.invokespecial 3, 3) := by decide +kernel
theorem dX3_init_4 : decode cX3_init 4 = .ok (.aload_n 0, 1) := by decide +kernel
theorem dX3_init_5 : decode cX3_init 5 = .ok (.bipush 40, 2) := by decide +kernel
theorem dX3_init_7 : decode cX3_init 7 = .ok (.newarray .int, 2) := by decide +kernel
theorem dX3_init_9 : decode cX3_init 9 = .ok (.putfield 9, 3) := by decide +kernel
theorem dX3_init_12 : decode cX3_init 12 = .ok (.aload_n 0, 1) := by decide +kernel
theorem dX3_init_13 : decode cX3_init 13 = .ok (.bipush 40, 2) := by decide +kernel
theorem dX3_init_15 : decode cX3_init 15 = .ok (.newarray .int, 2) := by decide +kernel
theorem dX3_init_17 : decode cX3_init 17 = .ok (.putfield 15, 3) := by decide +kernel
theorem dX3_init_20 : decode cX3_init 20 = .ok (.aload_n 0, 1) := by decide +kernel
theorem dX3_init_21 : decode cX3_init 21 = .ok (.bipush 40, 2) := by decide +kernel
theorem dX3_init_23 : decode cX3_init 23 = .ok (.newarray .int, 2) := by decide +kernel
theorem dX3_init_25 : decode cX3_init 25 = .ok (.putfield 18, 3) := by decide +kernel
theorem dX3_init_28 : decode cX3_init 28 = .ok (.return_, 1) := by decide +kernel
theorem dX3_hasRoomFor_0 : decode cX3_hasRoomFor 0 = .ok (.aload_n 0, 1) := by decide +kernel
theorem dX3_hasRoomFor_1 : decode cX3_hasRoomFor 1 = .ok (.getfield 21, 3) := by decide +kernel
theorem dX3_hasRoomFor_4 : decode cX3_hasRoomFor 4 = .ok (.iload_n 1, 1) := by decide +kernel
theorem dX3_hasRoomFor_5 : decode cX3_hasRoomFor 5 = .ok (.iadd, 1) := by decide +kernel
theorem dX3_hasRoomFor_6 : decode cX3_hasRoomFor 6 = .ok (.bipush 40, 2) := by decide +kernel
theorem dX3_hasRoomFor_8 : decode cX3_hasRoomFor 8 = .ok (.if_icmp .gt 7, 3) := by decide +kernel
theorem dX3_hasRoomFor_11 : decode cX3_hasRoomFor 11 = .ok (.iconst 1, 1) := by decide +kernel
theorem dX3_hasRoomFor_12 : decode cX3_hasRoomFor 12 = .ok (.goto 4, 3) := by decide +kernel
theorem dX3_hasRoomFor_15 : decode cX3_hasRoomFor 15 = .ok (.iconst 0, 1) := by decide +kernel
theorem dX3_hasRoomFor_16 : decode cX3_hasRoomFor 16 = .ok (.ireturn, 1) := by decide +kernel
theorem dX3_append_0 : decode cX3_append 0 = .ok (.aload_n 0, 1) := by decide +kernel
theorem dX3_append_1 : decode cX3_append 1 = .ok (.getfield 9, 3) := by decide +kernel
theorem dX3_append_4 : decode cX3_append 4 = .ok (.aload_n 0, 1) := by decide +kernel
theorem dX3_append_5 : decode cX3_append 5 = .ok (.getfield 21, 3) := by decide +kernel
theorem dX3_append_8 : decode cX3_append 8 = .ok (.iload_n 1, 1) := by decide +kernel
theorem dX3_append_9 : decode cX3_append 9 = .ok (.iastore, 1) := by decide +kernel
theorem dX3_append_10 : decode cX3_append 10 = .ok (.aload_n 0, 1) := by decide +kernel
theorem dX3_append_11 : decode cX3_append 11 = .ok (.getfield 15, 3) := by decide +kernel
theorem dX3_append_14 : decode cX3_append 14 = .ok (.aload_n 0, 1) := by decide +kernel
theorem dX3_append_15 : decode cX3_append 15 = .ok (.getfield 21, 3) := by decide +kernel
theorem dX3_append_18 : decode cX3_append 18 = .ok (.iload_n 2, 1) := by decide +kernel
theorem dX3_append_19 : decode cX3_append 19 = .ok (.iastore, 1) := by decide +kernel
theorem dX3_append_20 : decode cX3_append 20 = .ok (.aload_n 0, 1) := by decide +kernel
theorem dX3_append_21 : decode cX3_append 21 = .ok (.getfield 18, 3) := by decide +kernel
theorem dX3_append_24 : decode cX3_append 24 = .ok (.aload_n 0, 1) := by decide +kernel
theorem dX3_append_25 : decode cX3_append 25 = .ok (.getfield 21, 3) := by decide +kernel
theorem dX3_append_28 : decode cX3_append 28 = .ok (.iload_n 3, 1) := by decide +kernel
theorem dX3_append_29 : decode cX3_append 29 = .ok (.iastore, 1) := by decide +kernel
theorem dX3_append_30 : decode cX3_append 30 = .ok (.aload_n 0, 1) := by decide +kernel
theorem dX3_append_31 : decode cX3_append 31 = .ok (.dup, 1) := by decide +kernel
theorem dX3_append_32 : decode cX3_append 32 = .ok (.getfield 21, 3) := by decide +kernel
theorem dX3_append_35 : decode cX3_append 35 = .ok (.iconst 1, 1) := by decide +kernel
theorem dX3_append_36 : decode cX3_append 36 = .ok (.iadd, 1) := by decide +kernel
theorem dX3_append_37 : decode cX3_append 37 = .ok (.putfield 21, 3) := by decide +kernel
theorem dX3_append_40 : decode cX3_append 40 = .ok (.return_, 1) := by decide +kernel
theorem dX4_init_0 : decode cX4_init 0 = .ok (.aload_n 0, 1) := by decide +kernel
theorem dX4_init_1 : decode cX4_init 1 = .ok (.invokespecial 3, 3) := by decide +kernel
theorem dX4_init_4 : decode cX4_init 4 = .ok (.aload_n 0, 1) := by decide +kernel
theorem dX4_init_5 : decode cX4_init 5 = .ok (.bipush 40, 2) := by decide +kernel
theorem dX4_init_7 : decode cX4_init 7 = .ok (.newarray .int, 2) := by decide +kernel
theorem dX4_init_9 : decode cX4_init 9 = .ok (.putfield 9, 3) := by decide +kernel
theorem dX4_init_12 : decode cX4_init 12 = .ok (.aload_n 0, 1) := by decide +kernel
theorem dX4_init_13 : decode cX4_init 13 = .ok (.bipush 40, 2) := by decide +kernel
theorem dX4_init_15 : decode cX4_init 15 = .ok (.newarray .int, 2) := by decide +kernel
theorem dX4_init_17 : decode cX4_init 17 = .ok (.putfield 15, 3) := by decide +kernel
theorem dX4_init_20 : decode cX4_init 20 = .ok (.return_, 1) := by decide +kernel
theorem dX4_has_0 : decode cX4_has 0 = .ok (.iload_n 1, 1) := by decide +kernel
theorem dX4_has_1 : decode cX4_has 1 = .ok (.ifCond .lt 15, 3) := by decide +kernel
theorem dX4_has_4 : decode cX4_has 4 = .ok (.iload_n 1, 1) := by decide +kernel
theorem dX4_has_5 : decode cX4_has 5 = .ok (.aload_n 0, 1) := by decide +kernel
theorem dX4_has_6 : decode cX4_has 6 = .ok (.getfield 18, 3) := by decide +kernel
theorem dX4_has_9 : decode cX4_has 9 = .ok (.if_icmp .ge 7, 3) := by decide +kernel
theorem dX4_has_12 : decode cX4_has 12 = .ok (.iconst 1, 1) := by decide +kernel
theorem dX4_has_13 : decode cX4_has 13 = .ok (.goto 4, 3) := by decide +kernel
theorem dX4_has_16 : decode cX4_has 16 = .ok (.iconst 0, 1) := by decide +kernel
theorem dX4_has_17 : decode cX4_has 17 = .ok (.ireturn, 1) := by decide +kernel
theorem dX4_append_0 : decode cX4_append 0 = .ok (.aload_n 0, 1) := by decide +kernel
theorem dX4_append_1 : decode cX4_append 1 = .ok (.getfield 9, 3) := by decide +kernel
theorem dX4_append_4 : decode cX4_append 4 = .ok (.aload_n 0, 1) := by decide +kernel
theorem dX4_append_5 : decode cX4_append 5 = .ok (.getfield 18, 3) := by decide +kernel
theorem dX4_append_8 : decode cX4_append 8 = .ok (.iload_n 1, 1) := by decide +kernel
theorem dX4_append_9 : decode cX4_append 9 = .ok (.iastore, 1) := by decide +kernel
theorem dX4_append_10 : decode cX4_append 10 = .ok (.aload_n 0, 1) := by decide +kernel
theorem dX4_append_11 : decode cX4_append 11 = .ok (.getfield 15, 3) := by decide +kernel
theorem dX4_append_14 : decode cX4_append 14 = .ok (.aload_n 0, 1) := by decide +kernel
theorem dX4_append_15 : decode cX4_append 15 = .ok (.getfield 18, 3) := by decide +kernel
theorem dX4_append_18 : decode cX4_append 18 = .ok (.iload_n 2, 1) := by decide +kernel
theorem dX4_append_19 : decode cX4_append 19 = .ok (.iastore, 1) := by decide +kernel
theorem dX4_append_20 : decode cX4_append 20 = .ok (.aload_n 0, 1) := by decide +kernel
theorem dX4_append_21 : decode cX4_append 21 = .ok (.dup, 1) := by decide +kernel
theorem dX4_append_22 : decode cX4_append 22 = .ok (.getfield 18, 3) := by decide +kernel
theorem dX4_append_25 : decode cX4_append 25 = .ok (.iconst 1, 1) := by decide +kernel
theorem dX4_append_26 : decode cX4_append 26 = .ok (.iadd, 1) := by decide +kernel
theorem dX4_append_27 : decode cX4_append 27 = .ok (.putfield 18, 3) := by decide +kernel
theorem dX4_append_30 : decode cX4_append 30 = .ok (.return_, 1) := by decide +kernel
theorem dX6_init_0 : decode cX6_init 0 = .ok (.aload_n 0, 1) := by decide +kernel
theorem dX6_init_1 : decode cX6_init 1 = .ok (.invokespecial 3, 3) := by decide +kernel
theorem dX6_init_4 : decode cX6_init 4 = .ok (.aload_n 0, 1) := by decide +kernel
theorem dX6_init_5 : decode cX6_init 5 = .ok (.bipush 30, 2) := by decide +kernel
theorem dX6_init_7 : decode cX6_init 7 = .ok (.newarray .int, 2) := by decide +kernel
theorem dX6_init_9 : decode cX6_init 9 = .ok (.putfield 9, 3) := by decide +kernel
theorem dX6_init_12 : decode cX6_init 12 = .ok (.aload_n 0, 1) := by decide +kernel
theorem dX6_init_13 : decode cX6_init 13 = .ok (.bipush 30, 2) := by decide +kernel
theorem dX6_init_15 : decode cX6_init 15 = .ok (.newarray .int, 2) := by decide +kernel
theorem dX6_init_17 : decode cX6_init 17 = .ok (.putfield 15, 3) := by decide +kernel
theorem dX6_init_20 : decode cX6_init 20 = .ok (.aload_n 0, 1) := by decide +kernel
theorem dX6_init_21 : decode cX6_init 21 = .ok (.bipush 30, 2) := by decide +kernel
theorem dX6_init_23 : decode cX6_init 23 = .ok (.newarray .int, 2) := by decide +kernel
theorem dX6_init_25 : decode cX6_init 25 = .ok (.putfield 18, 3) := by decide +kernel
theorem dX6_init_28 : decode cX6_init 28 = .ok (.return_, 1) := by decide +kernel
theorem dX6_keep_0 : decode cX6_keep 0 = .ok (.aload_n 0, 1) := by decide +kernel
theorem dX6_keep_1 : decode cX6_keep 1 = .ok (.getfield 21, 3) := by decide +kernel
theorem dX6_keep_4 : decode cX6_keep 4 = .ok (.bipush 30, 2) := by decide +kernel
theorem dX6_keep_6 : decode cX6_keep 6 = .ok (.if_icmp .ne 7, 3) := by decide +kernel
theorem dX6_keep_9 : decode cX6_keep 9 = .ok (.aload_n 0, 1) := by decide +kernel
theorem dX6_keep_10 : decode cX6_keep 10 = .ok (.invokevirtual 25, 3) := by decide +kernel
theorem dX6_keep_13 : decode cX6_keep 13 = .ok (.aload_n 0, 1) := by decide +kernel
theorem dX6_keep_14 : decode cX6_keep 14 = .ok (.getfield 9, 3) := by decide +kernel
theorem dX6_keep_17 : decode cX6_keep 17 = .ok (.aload_n 0, 1) := by decide +kernel
theorem dX6_keep_18 : decode cX6_keep 18 = .ok (.getfield 21, 3) := by decide +kernel
theorem dX6_keep_21 : decode cX6_keep 21 = .ok (.iload_n 1, 1) := by decide +kernel
theorem dX6_keep_22 : decode cX6_keep 22 = .ok (.iastore, 1) := by decide +kernel
theorem dX6_keep_23 : decode cX6_keep 23 = .ok (.aload_n 0, 1) := by decide +kernel
theorem dX6_keep_24 : decode cX6_keep 24 = .ok (.getfield 15, 3) := by decide +kernel
theorem dX6_keep_27 : decode cX6_keep 27 = .ok (.aload_n 0, 1) := by decide +kernel
theorem dX6_keep_28 : decode cX6_keep 28 = .ok (.getfield 21, 3) := by decide +kernel
theorem dX6_keep_31 : decode cX6_keep 31 = .ok (.iload_n 2, 1) := by decide +kernel
theorem dX6_keep_32 : decode cX6_keep 32 = .ok (.iastore, 1) := by decide +kernel
theorem dX6_keep_33 : decode cX6_keep 33 = .ok (.aload_n 0, 1) := by decide +kernel
theorem dX6_keep_34 : decode cX6_keep 34 = .ok (.getfield 18, 3) := by decide +kernel
theorem dX6_keep_37 : decode cX6_keep 37 = .ok (.aload_n 0, 1) := by decide +kernel
theorem dX6_keep_38 : decode cX6_keep 38 = .ok (.getfield 21, 3) := by decide +kernel
theorem dX6_keep_41 : decode cX6_keep 41 = .ok (.iload_n 3, 1) := by decide +kernel
theorem dX6_keep_42 : decode cX6_keep 42 = .ok (.iastore, 1) := by decide +kernel
theorem dX6_keep_43 : decode cX6_keep 43 = .ok (.aload_n 0, 1) := by decide +kernel
theorem dX6_keep_44 : decode cX6_keep 44 = .ok (.dup, 1) := by decide +kernel
theorem dX6_keep_45 : decode cX6_keep 45 = .ok (.getfield 21, 3) := by decide +kernel
theorem dX6_keep_48 : decode cX6_keep 48 = .ok (.iconst 1, 1) := by decide +kernel
theorem dX6_keep_49 : decode cX6_keep 49 = .ok (.iadd, 1) := by decide +kernel
theorem dX6_keep_50 : decode cX6_keep 50 = .ok (.putfield 21, 3) := by decide +kernel
theorem dX6_keep_53 : decode cX6_keep 53 = .ok (.return_, 1) := by decide +kernel
theorem dX6_dropOldest_0 : decode cX6_dropOldest 0 = .ok (.aload_n 0, 1) := by decide +kernel
theorem dX6_dropOldest_1 : decode cX6_dropOldest 1 = .ok (.dup, 1) := by decide +kernel
theorem dX6_dropOldest_2 : decode cX6_dropOldest 2 = .ok (.getfield 21, 3) := by decide +kernel
theorem dX6_dropOldest_5 : decode cX6_dropOldest 5 = .ok (.iconst 1, 1) := by decide +kernel
theorem dX6_dropOldest_6 : decode cX6_dropOldest 6 = .ok (.isub, 1) := by decide +kernel
theorem dX6_dropOldest_7 : decode cX6_dropOldest 7 = .ok (.putfield 21, 3) := by decide +kernel
theorem dX6_dropOldest_10 : decode cX6_dropOldest 10 = .ok (.aload_n 0, 1) := by decide +kernel
theorem dX6_dropOldest_11 : decode cX6_dropOldest 11 = .ok (.getfield 9, 3) := by decide +kernel
theorem dX6_dropOldest_14 : decode cX6_dropOldest 14 = .ok (.iconst 1, 1) := by decide +kernel
theorem dX6_dropOldest_15 : decode cX6_dropOldest 15 = .ok (.aload_n 0, 1) := by decide +kernel
theorem dX6_dropOldest_16 : decode cX6_dropOldest 16 = .ok (.getfield 9, 3) := by decide +kernel
theorem dX6_dropOldest_19 : decode cX6_dropOldest 19 = .ok (.iconst 0, 1) := by decide +kernel
theorem dX6_dropOldest_20 : decode cX6_dropOldest 20 = .ok (.aload_n 0, 1) := by decide +kernel
theorem dX6_dropOldest_21 : decode cX6_dropOldest 21 = .ok (.getfield 21, 3) := by decide +kernel
theorem dX6_dropOldest_24 : decode cX6_dropOldest 24 = .ok (.invokestatic 28, 3) := by decide +kernel
theorem dX6_dropOldest_27 : decode cX6_dropOldest 27 = .ok (.aload_n 0, 1) := by decide +kernel
theorem dX6_dropOldest_28 : decode cX6_dropOldest 28 = .ok (.getfield 15, 3) := by decide +kernel
theorem dX6_dropOldest_31 : decode cX6_dropOldest 31 = .ok (.iconst 1, 1) := by decide +kernel
theorem dX6_dropOldest_32 : decode cX6_dropOldest 32 = .ok (.aload_n 0, 1) := by decide +kernel
theorem dX6_dropOldest_33 : decode cX6_dropOldest 33 = .ok (.getfield 15, 3) := by decide +kernel
theorem dX6_dropOldest_36 : decode cX6_dropOldest 36 = .ok (.iconst 0, 1) := by decide +kernel
theorem dX6_dropOldest_37 : decode cX6_dropOldest 37 = .ok (.aload_n 0, 1) := by decide +kernel
theorem dX6_dropOldest_38 : decode cX6_dropOldest 38 = .ok (.getfield 21, 3) := by decide +kernel
theorem dX6_dropOldest_41 : decode cX6_dropOldest 41 = .ok (.invokestatic 28, 3) := by decide +kernel
theorem dX6_dropOldest_44 : decode cX6_dropOldest 44 = .ok (.aload_n 0, 1) := by decide +kernel
theorem dX6_dropOldest_45 : decode cX6_dropOldest 45 = .ok (.getfield 18, 3) := by decide +kernel
theorem dX6_dropOldest_48 : decode cX6_dropOldest 48 = .ok (.iconst 1, 1) := by decide +kernel
theorem dX6_dropOldest_49 : decode cX6_dropOldest 49 = .ok (.aload_n 0, 1) := by decide +kernel
theorem dX6_dropOldest_50 : decode cX6_dropOldest 50 = .ok (.getfield 18, 3) := by decide +kernel
theorem dX6_dropOldest_53 : decode cX6_dropOldest 53 = .ok (.iconst 0, 1) := by decide +kernel
theorem dX6_dropOldest_54 : decode cX6_dropOldest 54 = .ok (.aload_n 0, 1) := by decide +kernel
theorem dX6_dropOldest_55 : decode cX6_dropOldest 55 = .ok (.getfield 21, 3) := by decide +kernel
theorem dX6_dropOldest_58 : decode cX6_dropOldest 58 = .ok (.invokestatic 28, 3) := by decide +kernel
theorem dX6_dropOldest_61 : decode cX6_dropOldest 61 = .ok (.return_, 1) := by decide +kernel
theorem dX7_isTold_0 : decode cX7_isTold 0 = .ok (.iconst 0, 1) := by decide +kernel
theorem dX7_isTold_1 : decode cX7_isTold 1 = .ok (.istore_n 3, 1) := by decide +kernel
theorem dX7_isTold_2 : decode cX7_isTold 2 = .ok (.iload_n 3, 1) := by decide +kernel
theorem dX7_isTold_3 : decode cX7_isTold 3 = .ok (.iload_n 0, 1) := by decide +kernel
theorem dX7_isTold_4 : decode cX7_isTold 4 = .ok (.if_icmp .ge 37, 3) := by decide +kernel
theorem dX7_isTold_7 : decode cX7_isTold 7 = .ok (.iload_n 0, 1) := by decide +kernel
theorem dX7_isTold_8 : decode cX7_isTold 8 = .ok (.lload_n 1, 1) := by decide +kernel
theorem dX7_isTold_9 : decode cX7_isTold 9 = .ok (.iload_n 3, 1) := by decide +kernel
theorem dX7_isTold_10 : decode cX7_isTold 10 = .ok (.invokestatic 9, 3) := by decide +kernel
theorem dX7_isTold_13 : decode cX7_isTold 13 = .ok (.istore 4, 2) := by decide +kernel
theorem dX7_isTold_15 : decode cX7_isTold 15 = .ok (.iload 4, 2) := by decide +kernel
theorem dX7_isTold_17 : decode cX7_isTold 17 = .ok (.bipush 31, 2) := by decide +kernel
theorem dX7_isTold_19 : decode cX7_isTold 19 = .ok (.iand, 1) := by decide +kernel
theorem dX7_isTold_20 : decode cX7_isTold 20 = .ok (.ifCond .ne 13, 3) := by decide +kernel
theorem dX7_isTold_23 : decode cX7_isTold 23 = .ok (.iload 4, 2) := by decide +kernel
theorem dX7_isTold_25 : decode cX7_isTold 25 = .ok (.invokestatic 15, 3) := by decide +kernel
theorem dX7_isTold_28 : decode cX7_isTold 28 = .ok (.bipush 9, 2) := by decide +kernel
theorem dX7_isTold_30 : decode cX7_isTold 30 = .ok (.if_icmp .le 5, 3) := by decide +kernel
theorem dX7_isTold_33 : decode cX7_isTold 33 = .ok (.iconst 0, 1) := by decide +kernel
theorem dX7_isTold_34 : decode cX7_isTold 34 = .ok (.ireturn, 1) := by decide +kernel
theorem dX7_isTold_35 : decode cX7_isTold 35 = .ok (.iinc 3 1, 3) := by decide +kernel
theorem dX7_isTold_38 : decode cX7_isTold 38 = .ok (.goto (-36), 3) := by decide +kernel
theorem dX7_isTold_41 : decode cX7_isTold 41 = .ok (.iconst 1, 1) := by decide +kernel
theorem dX7_isTold_42 : decode cX7_isTold 42 = .ok (.ireturn, 1) := by decide +kernel
theorem dX7_bitsOf_0 : decode cX7_bitsOf 0 = .ok (.lload_n 1, 1) := by decide +kernel
theorem dX7_bitsOf_1 : decode cX7_bitsOf 1 = .ok (.bipush 16, 2) := by decide +kernel
theorem dX7_bitsOf_3 : decode cX7_bitsOf 3 = .ok (.iload_n 0, 1) := by decide +kernel
theorem dX7_bitsOf_4 : decode cX7_bitsOf 4 = .ok (.iconst 1, 1) := by decide +kernel
theorem dX7_bitsOf_5 : decode cX7_bitsOf 5 = .ok (.isub, 1) := by decide +kernel
theorem dX7_bitsOf_6 : decode cX7_bitsOf 6 = .ok (.iload_n 3, 1) := by decide +kernel
theorem dX7_bitsOf_7 : decode cX7_bitsOf 7 = .ok (.isub, 1) := by decide +kernel
theorem dX7_bitsOf_8 : decode cX7_bitsOf 8 = .ok (.imul, 1) := by decide +kernel
theorem dX7_bitsOf_9 : decode cX7_bitsOf 9 = .ok (.lushr, 1) := by decide +kernel
theorem dX7_bitsOf_10 : decode cX7_bitsOf 10 = .ok (.l2i, 1) := by decide +kernel
theorem dX7_bitsOf_11 : decode cX7_bitsOf 11 = .ok (.ldc 19, 2) := by decide +kernel
theorem dX7_bitsOf_13 : decode cX7_bitsOf 13 = .ok (.iand, 1) := by decide +kernel
theorem dX7_bitsOf_14 : decode cX7_bitsOf 14 = .ok (.ireturn, 1) := by decide +kernel
theorem dX7_markIn_0 : decode cX7_markIn 0 = .ok (.iload_n 0, 1) := by decide +kernel
theorem dX7_markIn_1 : decode cX7_markIn 1 = .ok (.bipush 10, 2) := by decide +kernel
theorem dX7_markIn_3 : decode cX7_markIn 3 = .ok (.ishr, 1) := by decide +kernel
theorem dX7_markIn_4 : decode cX7_markIn 4 = .ok (.ireturn, 1) := by decide +kernel
theorem dX7_wearIn_0 : decode cX7_wearIn 0 = .ok (.iload_n 0, 1) := by decide +kernel
theorem dX7_wearIn_1 : decode cX7_wearIn 1 = .ok (.bipush 6, 2) := by decide +kernel
theorem dX7_wearIn_3 : decode cX7_wearIn 3 = .ok (.ishr, 1) := by decide +kernel
theorem dX7_wearIn_4 : decode cX7_wearIn 4 = .ok (.bipush 15, 2) := by decide +kernel
theorem dX7_wearIn_6 : decode cX7_wearIn 6 = .ok (.iand, 1) := by decide +kernel
theorem dX7_wearIn_7 : decode cX7_wearIn 7 = .ok (.ireturn, 1) := by decide +kernel
theorem dX7_cameraIn_0 : decode cX7_cameraIn 0 = .ok (.iload_n 0, 1) := by decide +kernel
theorem dX7_cameraIn_1 : decode cX7_cameraIn 1 = .ok (.iconst 5, 1) := by decide +kernel
theorem dX7_cameraIn_2 : decode cX7_cameraIn 2 = .ok (.ishr, 1) := by decide +kernel
theorem dX7_cameraIn_3 : decode cX7_cameraIn 3 = .ok (.iconst 1, 1) := by decide +kernel
theorem dX7_cameraIn_4 : decode cX7_cameraIn 4 = .ok (.iand, 1) := by decide +kernel
theorem dX7_cameraIn_5 : decode cX7_cameraIn 5 = .ok (.ireturn, 1) := by decide +kernel
theorem dJ7_fill_53178_0 : decode cJ7_fill_53178 0 = .ok (.iconst 0, 1) := by decide +kernel
theorem dJ7_fill_53178_1 : decode cJ7_fill_53178 1 = .ok (.istore_n 2, 1) := by decide +kernel
theorem dJ7_fill_53178_2 : decode cJ7_fill_53178 2 = .ok (.aload_n 0, 1) := by decide +kernel
theorem dJ7_fill_53178_3 : decode cJ7_fill_53178 3 = .ok (.arraylength, 1) := by decide +kernel
theorem dJ7_fill_53178_4 : decode cJ7_fill_53178 4 = .ok (.istore_n 3, 1) := by decide +kernel
theorem dJ7_fill_53178_5 : decode cJ7_fill_53178 5 = .ok (.iload_n 2, 1) := by decide +kernel
theorem dJ7_fill_53178_6 : decode cJ7_fill_53178 6 = .ok (.iload_n 3, 1) := by decide +kernel
theorem dJ7_fill_53178_7 : decode cJ7_fill_53178 7 = .ok (.if_icmp .ge 13, 3) := by decide +kernel
theorem dJ7_fill_53178_10 : decode cJ7_fill_53178 10 = .ok (.aload_n 0, 1) := by decide +kernel
theorem dJ7_fill_53178_11 : decode cJ7_fill_53178 11 = .ok (.iload_n 2, 1) := by decide +kernel
theorem dJ7_fill_53178_12 : decode cJ7_fill_53178 12 = .ok (.iload_n 1, 1) := by decide +kernel
theorem dJ7_fill_53178_13 : decode cJ7_fill_53178 13 = .ok (.iastore, 1) := by decide +kernel
theorem dJ7_fill_53178_14 : decode cJ7_fill_53178 14 = .ok (.iinc 2 1, 3) := by decide +kernel
theorem dJ7_fill_53178_17 : decode cJ7_fill_53178 17 = .ok (.goto (-12), 3) := by decide +kernel
theorem dJ7_fill_53178_20 : decode cJ7_fill_53178 20 = .ok (.return_, 1) := by decide +kernel
