theorem dX5_init_0 : decode cX5_init 0 = .ok (.aload_n 0, 1) := by decide +kernel
theorem dX5_init_1 : decode cX5_init 1 = .ok (.invokespecial 3, 3) := by decide +kernel
theorem dX5_init_4 : decode cX5_init 4 = .ok (.aload_n 0, 1) := by decide +kernel
theorem dX5_init_5 : decode cX5_init 5 = .ok (.bipush 6, 2) := by decide +kernel
theorem dX5_init_7 : decode cX5_init 7 = .ok (.bipush 40, 2) := by decide +kernel
theorem dX5_init_9 : decode cX5_init 9 = .ok (.multianewarray 9 2, 4) := by decide +kernel
theorem dX5_init_13 : decode cX5_init 13 = .ok (.putfield 11, 3) := by decide +kernel
theorem dX5_init_16 : decode cX5_init 16 = .ok (.aload_n 0, 1) := by decide +kernel
theorem dX5_init_17 : decode cX5_init 17 = .ok (.bipush 40, 2) := by decide +kernel
theorem dX5_init_19 : decode cX5_init 19 = .ok (.bipush 7, 2) := by decide +kernel
theorem dX5_init_21 : decode cX5_init 21 = .ok (.multianewarray 9 2, 4) := by decide +kernel
theorem dX5_init_25 : decode cX5_init 25 = .ok (.putfield 16, 3) := by decide +kernel
theorem dX5_init_28 : decode cX5_init 28 = .ok (.aload_n 0, 1) := by decide +kernel
theorem dX5_init_29 : decode cX5_init 29 = .ok (.bipush 40, 2) := by decide +kernel
theorem dX5_init_31 : decode cX5_init 31 = .ok (.newarray .int, 2) := by decide +kernel
theorem dX5_init_33 : decode cX5_init 33 = .ok (.putfield 19, 3) := by decide +kernel
theorem dX5_init_36 : decode cX5_init 36 = .ok (.aload_n 0, 1) := by decide +kernel
theorem dX5_init_37 : decode cX5_init 37 = .ok (.aload_n 1, 1) := by decide +kernel
theorem dX5_init_38 : decode cX5_init 38 = .ok (.putfield 23, 3) := by decide +kernel
theorem dX5_init_41 : decode cX5_init 41 = .ok (.aload_n 0, 1) := by decide +kernel
theorem dX5_init_42 : decode cX5_init 42 = .ok (.aload_n 2, 1) := by decide +kernel
theorem dX5_init_43 : decode cX5_init 43 = .ok (.putfield 27, 3) := by decide +kernel
theorem dX5_init_46 : decode cX5_init 46 = .ok (.aload_n 0, 1) := by decide +kernel
theorem dX5_init_47 : decode cX5_init 47 = .ok (.aload_n 3, 1) := by decide +kernel
theorem dX5_init_48 : decode cX5_init 48 = .ok (.putfield 31, 3) := by decide +kernel
theorem dX5_init_51 : decode cX5_init 51 = .ok (.aload_n 0, 1) := by decide +kernel
theorem dX5_init_52 : decode cX5_init 52 = .ok (.aload 4, 2) := by decide +kernel
theorem dX5_init_54 : decode cX5_init 54 = .ok (.putfield 34, 3) := by decide +kernel
theorem dX5_init_57 : decode cX5_init 57 = .ok (.return_, 1) := by decide +kernel
theorem dX5_findStanding_0 : decode cX5_findStanding 0 = .ok (.aload_n 0, 1) := by decide +kernel
theorem dX5_findStanding_1 : decode cX5_findStanding 1 = .ok (.getfield 27, 3) := by decide +kernel
theorem dX5_findStanding_4 : decode cX5_findStanding 4 = .ok (.iload_n 1, 1) := by decide +kernel
theorem dX5_findStanding_5 : decode cX5_findStanding 5 = .ok (.aaload, 1) := by decide +kernel
theorem dX5_findStanding_6 : decode cX5_findStanding 6 = .ok (.astore_n 2, 1) := by decide +kernel
theorem dX5_findStanding_7 : decode cX5_findStanding 7 = .ok (.aload_n 0, 1) := by decide +kernel
theorem dX5_findStanding_8 : decode cX5_findStanding 8 = .ok (.getfield 34, 3) := by decide +kernel
theorem dX5_findStanding_11 : decode cX5_findStanding 11 = .ok (.aload_n 0, 1) := by decide +kernel
theorem dX5_findStanding_12 : decode cX5_findStanding 12 = .ok (.getfield 23, 3) := by decide +kernel
theorem dX5_findStanding_15 : decode cX5_findStanding 15 = .ok (.getfield 38, 3) := by decide +kernel
theorem dX5_findStanding_18 : decode cX5_findStanding 18 = .ok (.aload_n 0, 1) := by decide +kernel
theorem dX5_findStanding_19 : decode cX5_findStanding 19 = .ok (.getfield 23, 3) := by decide +kernel
theorem dX5_findStanding_22 : decode cX5_findStanding 22 = .ok (.getfield 43, 3) := by decide +kernel
theorem dX5_findStanding_25 : decode cX5_findStanding 25 = .ok (.aload_n 2, 1) := by decide +kernel
theorem dX5_findStanding_26 : decode cX5_findStanding 26 = .ok (.getfield 47, 3) := by decide +kernel
theorem dX5_findStanding_29 : decode cX5_findStanding 29 = .ok (.aload_n 2, 1) := by decide +kernel
theorem dX5_findStanding_30 : decode cX5_findStanding 30 = .ok (.getfield 50, 3) := by decide +kernel
theorem dX5_findStanding_33 : decode cX5_findStanding 33 = .ok (.invokevirtual 51, 3) := by decide +kernel
theorem dX5_findStanding_36 : decode cX5_findStanding 36 = .ok (.iconst 0, 1) := by decide +kernel
theorem dX5_findStanding_37 : decode cX5_findStanding 37 = .ok (.istore_n 3, 1) := by decide +kernel
theorem dX5_findStanding_38 : decode cX5_findStanding 38 = .ok (.iload_n 3, 1) := by decide +kernel
theorem dX5_findStanding_39 : decode cX5_findStanding 39 = .ok (.aload_n 0, 1) := by decide +kernel
theorem dX5_findStanding_40 : decode cX5_findStanding 40 = .ok (.getfield 23, 3) := by decide +kernel
theorem dX5_findStanding_43 : decode cX5_findStanding 43 = .ok (.getfield 43, 3) := by decide +kernel
theorem dX5_findStanding_46 : decode cX5_findStanding 46 = .ok (.if_icmp .ge 83, 3) := by decide +kernel
theorem dX5_findStanding_49 : decode cX5_findStanding 49 = .ok (.aload_n 0, 1) := by decide +kernel
theorem dX5_findStanding_50 : decode cX5_findStanding 50 = .ok (.getfield 34, 3) := by decide +kernel
theorem dX5_findStanding_53 : decode cX5_findStanding 53 = .ok (.getfield 57, 3) := by decide +kernel
theorem dX5_findStanding_56 : decode cX5_findStanding 56 = .ok (.iload_n 3, 1) := by decide +kernel
theorem dX5_findStanding_57 : decode cX5_findStanding 57 = .ok (.iaload, 1) := by decide +kernel
theorem dX5_findStanding_58 : decode cX5_findStanding 58 = .ok (.istore 4, 2) := by decide +kernel
theorem dX5_findStanding_60 : decode cX5_findStanding 60 = .ok (.iload 4, 2) := by decide +kernel
theorem dX5_findStanding_62 : decode cX5_findStanding 62 = .ok (.bipush (-4), 2) := by decide +kernel
theorem dX5_findStanding_64 : decode cX5_findStanding 64 = .ok (.if_icmp .eq 36, 3) := by decide +kernel
theorem dX5_findStanding_67 : decode cX5_findStanding 67 = .ok (.aload_n 0, 1) := by decide +kernel
theorem dX5_findStanding_68 : decode cX5_findStanding 68 = .ok (.getfield 23, 3) := by decide +kernel
theorem dX5_findStanding_71 : decode cX5_findStanding 71 = .ok (.getfield 38, 3) := by decide +kernel
theorem dX5_findStanding_74 : decode cX5_findStanding 74 = .ok (.iload_n 3, 1) := by decide +kernel
theorem dX5_findStanding_75 : decode cX5_findStanding 75 = .ok (.iaload, 1) := by decide +kernel
theorem dX5_findStanding_76 : decode cX5_findStanding 76 = .ok (.aload_n 2, 1) := by decide +kernel
theorem dX5_findStanding_77 : decode cX5_findStanding 77 = .ok (.getfield 47, 3) := by decide +kernel
theorem dX5_findStanding_80 : decode cX5_findStanding 80 = .ok (.iload 4, 2) := by decide +kernel
theorem dX5_findStanding_82 : decode cX5_findStanding 82 = .ok (.iaload, 1) := by decide +kernel
theorem dX5_findStanding_83 : decode cX5_findStanding 83 = .ok (.isub, 1) := by decide +kernel
theorem dX5_findStanding_84 : decode cX5_findStanding 84 = .ok (.invokestatic 60, 3) := by decide +kernel
theorem dX5_findStanding_87 : decode cX5_findStanding 87 = .ok (.aload_n 0, 1) := by decide +kernel
theorem dX5_findStanding_88 : decode cX5_findStanding 88 = .ok (.getfield 31, 3) := by decide +kernel
theorem dX5_findStanding_91 : decode cX5_findStanding 91 = .ok (.iconst 0, 1) := by decide +kernel
theorem dX5_findStanding_92 : decode cX5_findStanding 92 = .ok (.iaload, 1) := by decide +kernel
theorem dX5_findStanding_93 : decode cX5_findStanding 93 = .ok (.if_icmp .gt 7, 3) := by decide +kernel
theorem dX5_findStanding_96 : decode cX5_findStanding 96 = .ok (.iconst 1, 1) := by decide +kernel
theorem dX5_findStanding_97 : decode cX5_findStanding 97 = .ok (.goto 4, 3) := by decide +kernel
theorem dX5_findStanding_100 : decode cX5_findStanding 100 = .ok (.iconst 0, 1) := by decide +kernel
theorem dX5_findStanding_101 : decode cX5_findStanding 101 = .ok (.istore 5, 2) := by decide +kernel
theorem dX5_findStanding_103 : decode cX5_findStanding 103 = .ok (.aload_n 0, 1) := by decide +kernel
theorem dX5_findStanding_104 : decode cX5_findStanding 104 = .ok (.getfield 11, 3) := by decide +kernel
theorem dX5_findStanding_107 : decode cX5_findStanding 107 = .ok (.iload_n 1, 1) := by decide +kernel
theorem dX5_findStanding_108 : decode cX5_findStanding 108 = .ok (.aaload, 1) := by decide +kernel
theorem dX5_findStanding_109 : decode cX5_findStanding 109 = .ok (.iload_n 3, 1) := by decide +kernel
theorem dX5_findStanding_110 : decode cX5_findStanding 110 = .ok (.iload 5, 2) := by decide +kernel
theorem dX5_findStanding_112 : decode cX5_findStanding 112 = .ok (.ifCond .eq 8, 3) := by decide +kernel
theorem dX5_findStanding_115 : decode cX5_findStanding 115 = .ok (.iload 4, 2) := by decide +kernel
theorem dX5_findStanding_117 : decode cX5_findStanding 117 = .ok (.goto 5, 3) := by decide +kernel
theorem dX5_findStanding_120 : decode cX5_findStanding 120 = .ok (.bipush (-4), 2) := by decide +kernel
theorem dX5_findStanding_122 : decode cX5_findStanding 122 = .ok (.iastore, 1) := by decide +kernel
theorem dX5_findStanding_123 : decode cX5_findStanding 123 = .ok (.iinc 3 1, 3) := by decide +kernel
theorem dX5_findStanding_126 : decode cX5_findStanding 126 = .ok (.goto (-88), 3) := by decide +kernel
theorem dX5_findStanding_129 : decode cX5_findStanding 129 = .ok (.return_, 1) := by decide +kernel
theorem dX5_choose_0 : decode cX5_choose 0 = .ok (.iconst 0, 1) := by decide +kernel
theorem dX5_choose_1 : decode cX5_choose 1 = .ok (.istore_n 1, 1) := by decide +kernel
theorem dX5_choose_2 : decode cX5_choose 2 = .ok (.iload_n 1, 1) := by decide +kernel
theorem dX5_choose_3 : decode cX5_choose 3 = .ok (.bipush 6, 2) := by decide +kernel
theorem dX5_choose_5 : decode cX5_choose 5 = .ok (.if_icmp .ge 14, 3) := by decide +kernel
theorem dX5_choose_8 : decode cX5_choose 8 = .ok (.aload_n 0, 1) := by decide +kernel
theorem dX5_choose_9 : decode cX5_choose 9 = .ok (.iload_n 1, 1) := by decide +kernel
theorem dX5_choose_10 : decode cX5_choose 10 = .ok (.invokevirtual 66, 3) := by decide +kernel
theorem dX5_choose_13 : decode cX5_choose 13 = .ok (.iinc 1 1, 3) := by decide +kernel
theorem dX5_choose_16 : decode cX5_choose 16 = .ok (.goto (-14), 3) := by decide +kernel
theorem dX5_choose_19 : decode cX5_choose 19 = .ok (.aload_n 0, 1) := by decide +kernel
theorem dX5_choose_20 : decode cX5_choose 20 = .ok (.invokevirtual 70, 3) := by decide +kernel
theorem dX5_choose_23 : decode cX5_choose 23 = .ok (.aload_n 0, 1) := by decide +kernel
theorem dX5_choose_24 : decode cX5_choose 24 = .ok (.iconst 0, 1) := by decide +kernel
theorem dX5_choose_25 : decode cX5_choose 25 = .ok (.putfield 73, 3) := by decide +kernel
theorem dX5_choose_28 : decode cX5_choose 28 = .ok (.iconst 0, 1) := by decide +kernel
theorem dX5_choose_29 : decode cX5_choose 29 = .ok (.istore_n 1, 1) := by decide +kernel
theorem dX5_choose_30 : decode cX5_choose 30 = .ok (.iload_n 1, 1) := by decide +kernel
theorem dX5_choose_31 : decode cX5_choose 31 = .ok (.aload_n 0, 1) := by decide +kernel
theorem dX5_choose_32 : decode cX5_choose 32 = .ok (.getfield 23, 3) := by decide +kernel
theorem dX5_choose_35 : decode cX5_choose 35 = .ok (.getfield 43, 3) := by decide +kernel
theorem dX5_choose_38 : decode cX5_choose 38 = .ok (.if_icmp .ge 72, 3) := by decide +kernel
theorem dX5_choose_41 : decode cX5_choose 41 = .ok (.iload_n 1, 1) := by decide +kernel
theorem dX5_choose_42 : decode cX5_choose 42 = .ok (.ifCond .ne 8, 3) := by decide +kernel
theorem dX5_choose_45 : decode cX5_choose 45 = .ok (.bipush 6, 2) := by decide +kernel
theorem dX5_choose_47 : decode cX5_choose 47 = .ok (.goto 11, 3) := by decide +kernel
theorem dX5_choose_50 : decode cX5_choose 50 = .ok (.aload_n 0, 1) := by decide +kernel
theorem dX5_choose_51 : decode cX5_choose 51 = .ok (.getfield 19, 3) := by decide +kernel
theorem dX5_choose_54 : decode cX5_choose 54 = .ok (.iload_n 1, 1) := by decide +kernel
theorem dX5_choose_55 : decode cX5_choose 55 = .ok (.iconst 1, 1) := by decide +kernel
theorem dX5_choose_56 : decode cX5_choose 56 = .ok (.isub, 1) := by decide +kernel
theorem dX5_choose_57 : decode cX5_choose 57 = .ok (.iaload, 1) := by decide +kernel
theorem dX5_choose_58 : decode cX5_choose 58 = .ok (.istore_n 2, 1) := by decide +kernel
theorem dX5_choose_59 : decode cX5_choose 59 = .ok (.aload_n 0, 1) := by decide +kernel
theorem dX5_choose_60 : decode cX5_choose 60 = .ok (.getfield 19, 3) := by decide +kernel
theorem dX5_choose_63 : decode cX5_choose 63 = .ok (.iload_n 1, 1) := by decide +kernel
theorem dX5_choose_64 : decode cX5_choose 64 = .ok (.aload_n 0, 1) := by decide +kernel
theorem dX5_choose_65 : decode cX5_choose 65 = .ok (.iload_n 1, 1) := by decide +kernel
theorem dX5_choose_66 : decode cX5_choose 66 = .ok (.iload_n 2, 1) := by decide +kernel
theorem dX5_choose_67 : decode cX5_choose 67 = .ok (.invokevirtual 76, 3) := by decide +kernel
theorem dX5_choose_70 : decode cX5_choose 70 = .ok (.iastore, 1) := by decide +kernel
theorem dX5_choose_71 : decode cX5_choose 71 = .ok (.aload_n 0, 1) := by decide +kernel
theorem dX5_choose_72 : decode cX5_choose 72 = .ok (.dup, 1) := by decide +kernel
theorem dX5_choose_73 : decode cX5_choose 73 = .ok (.getfield 73, 3) := by decide +kernel
theorem dX5_choose_76 : decode cX5_choose 76 = .ok (.aload_n 0, 1) := by decide +kernel
theorem dX5_choose_77 : decode cX5_choose 77 = .ok (.iload_n 1, 1) := by decide +kernel
theorem dX5_choose_78 : decode cX5_choose 78 = .ok (.iload_n 2, 1) := by decide +kernel
theorem dX5_choose_79 : decode cX5_choose 79 = .ok (.aload_n 0, 1) := by decide +kernel
theorem dX5_choose_80 : decode cX5_choose 80 = .ok (.getfield 19, 3) := by decide +kernel
theorem dX5_choose_83 : decode cX5_choose 83 = .ok (.iload_n 1, 1) := by decide +kernel
theorem dX5_choose_84 : decode cX5_choose 84 = .ok (.iaload, 1) := by decide +kernel
theorem dX5_choose_85 : decode cX5_choose 85 = .ok (.invokevirtual 80, 3) := by decide +kernel
theorem dX5_choose_88 : decode cX5_choose 88 = .ok (.aload_n 0, 1) := by decide +kernel
theorem dX5_choose_89 : decode cX5_choose 89 = .ok (.iload_n 1, 1) := by decide +kernel
theorem dX5_choose_90 : decode cX5_choose 90 = .ok (.aload_n 0, 1) := by decide +kernel
theorem dX5_choose_91 : decode cX5_choose 91 = .ok (.getfield 19, 3) := by decide +kernel
theorem dX5_choose_94 : decode cX5_choose 94 = .ok (.iload_n 1, 1) := by decide +kernel
theorem dX5_choose_95 : decode cX5_choose 95 = .ok (.iaload, 1) := by decide +kernel
theorem dX5_choose_96 : decode cX5_choose 96 = .ok (.invokevirtual 84, 3) := by decide +kernel
theorem dX5_choose_99 : decode cX5_choose 99 = .ok (.iadd, 1) := by decide +kernel
theorem dX5_choose_100 : decode cX5_choose 100 = .ok (.iadd, 1) := by decide +kernel
theorem dX5_choose_101 : decode cX5_choose 101 = .ok (.putfield 73, 3) := by decide +kernel
theorem dX5_choose_104 : decode cX5_choose 104 = .ok (.iinc 1 1, 3) := by decide +kernel
theorem dX5_choose_107 : decode cX5_choose 107 = .ok (.goto (-77), 3) := by decide +kernel
theorem dX5_choose_110 : decode cX5_choose 110 = .ok (.return_, 1) := by decide +kernel
theorem dX5_fillPrices_0 : decode cX5_fillPrices 0 = .ok (.aload_n 0, 1) := by decide +kernel
theorem dX5_fillPrices_1 : decode cX5_fillPrices 1 = .ok (.getfield 23, 3) := by decide +kernel
theorem dX5_fillPrices_4 : decode cX5_fillPrices 4 = .ok (.getfield 43, 3) := by decide +kernel
theorem dX5_fillPrices_7 : decode cX5_fillPrices 7 = .ok (.iconst 1, 1) := by decide +kernel
theorem dX5_fillPrices_8 : decode cX5_fillPrices 8 = .ok (.isub, 1) := by decide +kernel
theorem dX5_fillPrices_9 : decode cX5_fillPrices 9 = .ok (.istore_n 1, 1) := by decide +kernel
theorem dX5_fillPrices_10 : decode cX5_fillPrices 10 = .ok (.iload_n 1, 1) := by decide +kernel
theorem dX5_fillPrices_11 : decode cX5_fillPrices 11 = .ok (.ifCond .lt 58, 3) := by decide +kernel
theorem dX5_fillPrices_14 : decode cX5_fillPrices 14 = .ok (.iconst 0, 1) := by decide +kernel
theorem dX5_fillPrices_15 : decode cX5_fillPrices 15 = .ok (.istore_n 2, 1) := by decide +kernel
theorem dX5_fillPrices_16 : decode cX5_fillPrices 16 = .ok (.iload_n 2, 1) := by decide +kernel
theorem dX5_fillPrices_17 : decode cX5_fillPrices 17 = .ok (.bipush 6, 2) := by decide +kernel
theorem dX5_fillPrices_19 : decode cX5_fillPrices 19 = .ok (.if_icmp .gt 44, 3) := by decide +kernel
theorem dX5_fillPrices_22 : decode cX5_fillPrices 22 = .ok (.aload_n 0, 1) := by decide +kernel
theorem dX5_fillPrices_23 : decode cX5_fillPrices 23 = .ok (.getfield 16, 3) := by decide +kernel
theorem dX5_fillPrices_26 : decode cX5_fillPrices 26 = .ok (.iload_n 1, 1) := by decide +kernel
theorem dX5_fillPrices_27 : decode cX5_fillPrices 27 = .ok (.aaload, 1) := by decide +kernel
theorem dX5_fillPrices_28 : decode cX5_fillPrices 28 = .ok (.iload_n 2, 1) := by decide +kernel
theorem dX5_fillPrices_29 : decode cX5_fillPrices 29 = .ok (.aload_n 0, 1) := by decide +kernel
theorem dX5_fillPrices_30 : decode cX5_fillPrices 30 = .ok (.iload_n 1, 1) := by decide +kernel
theorem dX5_fillPrices_31 : decode cX5_fillPrices 31 = .ok (.iload_n 2, 1) := by decide +kernel
theorem dX5_fillPrices_32 : decode cX5_fillPrices 32 = .ok (.invokevirtual 87, 3) := by decide +kernel
theorem dX5_fillPrices_35 : decode cX5_fillPrices 35 = .ok (.ifCond .eq 19, 3) := by decide +kernel
theorem dX5_fillPrices_38 : decode cX5_fillPrices 38 = .ok (.aload_n 0, 1) := by decide +kernel
theorem dX5_fillPrices_39 : decode cX5_fillPrices 39 = .ok (.iload_n 1, 1) := by decide +kernel
theorem dX5_fillPrices_40 : decode cX5_fillPrices 40 = .ok (.iload_n 2, 1) := by decide +kernel
theorem dX5_fillPrices_41 : decode cX5_fillPrices 41 = .ok (.invokevirtual 84, 3) := by decide +kernel
theorem dX5_fillPrices_44 : decode cX5_fillPrices 44 = .ok (.aload_n 0, 1) := by decide +kernel
theorem dX5_fillPrices_45 : decode cX5_fillPrices 45 = .ok (.iload_n 1, 1) := by decide +kernel
theorem dX5_fillPrices_46 : decode cX5_fillPrices 46 = .ok (.iload_n 2, 1) := by decide +kernel
theorem dX5_fillPrices_47 : decode cX5_fillPrices 47 = .ok (.invokevirtual 91, 3) := by decide +kernel
theorem dX5_fillPrices_50 : decode cX5_fillPrices 50 = .ok (.iadd, 1) := by decide +kernel
theorem dX5_fillPrices_51 : decode cX5_fillPrices 51 = .ok (.goto 5, 3) := by decide +kernel
theorem dX5_fillPrices_54 : decode cX5_fillPrices 54 = .ok (.ldc 94, 2) := by decide +kernel
theorem dX5_fillPrices_56 : decode cX5_fillPrices 56 = .ok (.iastore, 1) := by decide +kernel
theorem dX5_fillPrices_57 : decode cX5_fillPrices 57 = .ok (.iinc 2 1, 3) := by decide +kernel
theorem dX5_fillPrices_60 : decode cX5_fillPrices 60 = .ok (.goto (-44), 3) := by decide +kernel
theorem dX5_fillPrices_63 : decode cX5_fillPrices 63 = .ok (.iinc 1 (-1), 3) := by decide +kernel
theorem dX5_fillPrices_66 : decode cX5_fillPrices 66 = .ok (.goto (-56), 3) := by decide +kernel
theorem dX5_fillPrices_69 : decode cX5_fillPrices 69 = .ok (.return_, 1) := by decide +kernel
theorem dX5_leastBehind_0 : decode cX5_leastBehind 0 = .ok (.iload_n 1, 1) := by decide +kernel
theorem dX5_leastBehind_1 : decode cX5_leastBehind 1 = .ok (.iconst 1, 1) := by decide +kernel
theorem dX5_leastBehind_2 : decode cX5_leastBehind 2 = .ok (.iadd, 1) := by decide +kernel
theorem dX5_leastBehind_3 : decode cX5_leastBehind 3 = .ok (.istore_n 3, 1) := by decide +kernel
theorem dX5_leastBehind_4 : decode cX5_leastBehind 4 = .ok (.iload_n 3, 1) := by decide +kernel
theorem dX5_leastBehind_5 : decode cX5_leastBehind 5 = .ok (.aload_n 0, 1) := by decide +kernel
theorem dX5_leastBehind_6 : decode cX5_leastBehind 6 = .ok (.getfield 23, 3) := by decide +kernel
theorem dX5_leastBehind_9 : decode cX5_leastBehind 9 = .ok (.getfield 43, 3) := by decide +kernel
theorem dX5_leastBehind_12 : decode cX5_leastBehind 12 = .ok (.if_icmp .lt 5, 3) := by decide +kernel
theorem dX5_leastBehind_15 : decode cX5_leastBehind 15 = .ok (.iconst 0, 1) := by decide +kernel
theorem dX5_leastBehind_16 : decode cX5_leastBehind 16 = .ok (.ireturn, 1) := by decide +kernel
theorem dX5_leastBehind_17 : decode cX5_leastBehind 17 = .ok (.aload_n 0, 1) := by decide +kernel
theorem dX5_leastBehind_18 : decode cX5_leastBehind 18 = .ok (.iload_n 3, 1) := by decide +kernel
theorem dX5_leastBehind_19 : decode cX5_leastBehind 19 = .ok (.iload_n 2, 1) := by decide +kernel
theorem dX5_leastBehind_20 : decode cX5_leastBehind 20 = .ok (.invokevirtual 76, 3) := by decide +kernel
theorem dX5_leastBehind_23 : decode cX5_leastBehind 23 = .ok (.istore 4, 2) := by decide +kernel
theorem dX5_leastBehind_25 : decode cX5_leastBehind 25 = .ok (.aload_n 0, 1) := by decide +kernel
theorem dX5_leastBehind_26 : decode cX5_leastBehind 26 = .ok (.iload_n 3, 1) := by decide +kernel
theorem dX5_leastBehind_27 : decode cX5_leastBehind 27 = .ok (.iload_n 2, 1) := by decide +kernel
theorem dX5_leastBehind_28 : decode cX5_leastBehind 28 = .ok (.iload 4, 2) := by decide +kernel
theorem dX5_leastBehind_30 : decode cX5_leastBehind 30 = .ok (.invokevirtual 80, 3) := by decide +kernel
theorem dX5_leastBehind_33 : decode cX5_leastBehind 33 = .ok (.aload_n 0, 1) := by decide +kernel
theorem dX5_leastBehind_34 : decode cX5_leastBehind 34 = .ok (.getfield 16, 3) := by decide +kernel
theorem dX5_leastBehind_37 : decode cX5_leastBehind 37 = .ok (.iload_n 3, 1) := by decide +kernel
theorem dX5_leastBehind_38 : decode cX5_leastBehind 38 = .ok (.aaload, 1) := by decide +kernel
theorem dX5_leastBehind_39 : decode cX5_leastBehind 39 = .ok (.iload 4, 2) := by decide +kernel
theorem dX5_leastBehind_41 : decode cX5_leastBehind 41 = .ok (.iaload, 1) := by decide +kernel
theorem dX5_leastBehind_42 : decode cX5_leastBehind 42 = .ok (.iadd, 1) := by decide +kernel
theorem dX5_leastBehind_43 : decode cX5_leastBehind 43 = .ok (.ireturn, 1) := by decide +kernel
theorem dX5_bestSource_0 : decode cX5_bestSource 0 = .ok (.bipush 6, 2) := by decide +kernel
theorem dX5_bestSource_2 : decode cX5_bestSource 2 = .ok (.istore_n 3, 1) := by decide +kernel
theorem dX5_bestSource_3 : decode cX5_bestSource 3 = .ok (.ldc 94, 2) := by decide +kernel
theorem dX5_bestSource_5 : decode cX5_bestSource 5 = .ok (.istore 4, 2) := by decide +kernel
theorem dX5_bestSource_7 : decode cX5_bestSource 7 = .ok (.iconst 0, 1) := by decide +kernel
theorem dX5_bestSource_8 : decode cX5_bestSource 8 = .ok (.istore 5, 2) := by decide +kernel
theorem dX5_bestSource_10 : decode cX5_bestSource 10 = .ok (.iload 5, 2) := by decide +kernel
theorem dX5_bestSource_12 : decode cX5_bestSource 12 = .ok (.bipush 6, 2) := by decide +kernel
theorem dX5_bestSource_14 : decode cX5_bestSource 14 = .ok (.if_icmp .gt 53, 3) := by decide +kernel
theorem dX5_bestSource_17 : decode cX5_bestSource 17 = .ok (.aload_n 0, 1) := by decide +kernel
theorem dX5_bestSource_18 : decode cX5_bestSource 18 = .ok (.iload_n 1, 1) := by decide +kernel
theorem dX5_bestSource_19 : decode cX5_bestSource 19 = .ok (.iload 5, 2) := by decide +kernel
theorem dX5_bestSource_21 : decode cX5_bestSource 21 = .ok (.invokevirtual 87, 3) := by decide +kernel
theorem dX5_bestSource_24 : decode cX5_bestSource 24 = .ok (.ifCond .eq 37, 3) := by decide +kernel
theorem dX5_bestSource_27 : decode cX5_bestSource 27 = .ok (.aload_n 0, 1) := by decide +kernel
theorem dX5_bestSource_28 : decode cX5_bestSource 28 = .ok (.iload_n 1, 1) := by decide +kernel
theorem dX5_bestSource_29 : decode cX5_bestSource 29 = .ok (.iload_n 2, 1) := by decide +kernel
theorem dX5_bestSource_30 : decode cX5_bestSource 30 = .ok (.iload 5, 2) := by decide +kernel
theorem dX5_bestSource_32 : decode cX5_bestSource 32 = .ok (.invokevirtual 80, 3) := by decide +kernel
theorem dX5_bestSource_35 : decode cX5_bestSource 35 = .ok (.aload_n 0, 1) := by decide +kernel
theorem dX5_bestSource_36 : decode cX5_bestSource 36 = .ok (.getfield 16, 3) := by decide +kernel
theorem dX5_bestSource_39 : decode cX5_bestSource 39 = .ok (.iload_n 1, 1) := by decide +kernel
theorem dX5_bestSource_40 : decode cX5_bestSource 40 = .ok (.aaload, 1) := by decide +kernel
theorem dX5_bestSource_41 : decode cX5_bestSource 41 = .ok (.iload 5, 2) := by decide +kernel
theorem dX5_bestSource_43 : decode cX5_bestSource 43 = .ok (.iaload, 1) := by decide +kernel
theorem dX5_bestSource_44 : decode cX5_bestSource 44 = .ok (.iadd, 1) := by decide +kernel
theorem dX5_bestSource_45 : decode cX5_bestSource 45 = .ok (.istore 6, 2) := by decide +kernel
theorem dX5_bestSource_47 : decode cX5_bestSource 47 = .ok (.iload 6, 2) := by decide +kernel
theorem dX5_bestSource_49 : decode cX5_bestSource 49 = .ok (.iload 4, 2) := by decide +kernel
theorem dX5_bestSource_51 : decode cX5_bestSource 51 = .ok (.if_icmp .ge 10, 3) := by decide +kernel
theorem dX5_bestSource_54 : decode cX5_bestSource 54 = .ok (.iload 6, 2) := by decide +kernel
theorem dX5_bestSource_56 : decode cX5_bestSource 56 = .ok (.istore 4, 2) := by decide +kernel
theorem dX5_bestSource_58 : decode cX5_bestSource 58 = .ok (.iload 5, 2) := by decide +kernel
theorem dX5_bestSource_60 : decode cX5_bestSource 60 = .ok (.istore_n 3, 1) := by decide +kernel
theorem dX5_bestSource_61 : decode cX5_bestSource 61 = .ok (.iinc 5 1, 3) := by decide +kernel
theorem dX5_bestSource_64 : decode cX5_bestSource 64 = .ok (.goto (-54), 3) := by decide +kernel
theorem dX5_bestSource_67 : decode cX5_bestSource 67 = .ok (.iload_n 3, 1) := by decide +kernel
theorem dX5_bestSource_68 : decode cX5_bestSource 68 = .ok (.ireturn, 1) := by decide +kernel
theorem dX5_canBe_0 : decode cX5_canBe 0 = .ok (.iload_n 2, 1) := by decide +kernel
theorem dX5_canBe_1 : decode cX5_canBe 1 = .ok (.bipush 6, 2) := by decide +kernel
theorem dX5_canBe_3 : decode cX5_canBe 3 = .ok (.if_icmp .eq 16, 3) := by decide +kernel
theorem dX5_canBe_6 : decode cX5_canBe 6 = .ok (.aload_n 0, 1) := by decide +kernel
theorem dX5_canBe_7 : decode cX5_canBe 7 = .ok (.getfield 11, 3) := by decide +kernel
theorem dX5_canBe_10 : decode cX5_canBe 10 = .ok (.iload_n 2, 1) := by decide +kernel
theorem dX5_canBe_11 : decode cX5_canBe 11 = .ok (.aaload, 1) := by decide +kernel
theorem dX5_canBe_12 : decode cX5_canBe 12 = .ok (.iload_n 1, 1) := by decide +kernel
theorem dX5_canBe_13 : decode cX5_canBe 13 = .ok (.iaload, 1) := by decide +kernel
theorem dX5_canBe_14 : decode cX5_canBe 14 = .ok (.bipush (-4), 2) := by decide +kernel
theorem dX5_canBe_16 : decode cX5_canBe 16 = .ok (.if_icmp .eq 7, 3) := by decide +kernel
theorem dX5_canBe_19 : decode cX5_canBe 19 = .ok (.iconst 1, 1) := by decide +kernel
theorem dX5_canBe_20 : decode cX5_canBe 20 = .ok (.goto 4, 3) := by decide +kernel
theorem dX5_canBe_23 : decode cX5_canBe 23 = .ok (.iconst 0, 1) := by decide +kernel
theorem dX5_canBe_24 : decode cX5_canBe 24 = .ok (.ireturn, 1) := by decide +kernel
theorem dX5_ownPrice_0 : decode cX5_ownPrice 0 = .ok (.iload_n 2, 1) := by decide +kernel
theorem dX5_ownPrice_1 : decode cX5_ownPrice 1 = .ok (.bipush 6, 2) := by decide +kernel
theorem dX5_ownPrice_3 : decode cX5_ownPrice 3 = .ok (.if_icmp .ne 12, 3) := by decide +kernel
theorem dX5_ownPrice_6 : decode cX5_ownPrice 6 = .ok (.aload_n 0, 1) := by decide +kernel
theorem dX5_ownPrice_7 : decode cX5_ownPrice 7 = .ok (.getfield 31, 3) := by decide +kernel
theorem dX5_ownPrice_10 : decode cX5_ownPrice 10 = .ok (.iconst 1, 1) := by decide +kernel
theorem dX5_ownPrice_11 : decode cX5_ownPrice 11 = .ok (.iaload, 1) := by decide +kernel
theorem dX5_ownPrice_12 : decode cX5_ownPrice 12 = .ok (.goto 21, 3) := by decide +kernel
theorem dX5_ownPrice_15 : decode cX5_ownPrice 15 = .ok (.aload_n 0, 1) := by decide +kernel
theorem dX5_ownPrice_16 : decode cX5_ownPrice 16 = .ok (.getfield 27, 3) := by decide +kernel
theorem dX5_ownPrice_19 : decode cX5_ownPrice 19 = .ok (.iload_n 2, 1) := by decide +kernel
theorem dX5_ownPrice_20 : decode cX5_ownPrice 20 = .ok (.aaload, 1) := by decide +kernel
theorem dX5_ownPrice_21 : decode cX5_ownPrice 21 = .ok (.getfield 95, 3) := by decide +kernel
theorem dX5_ownPrice_24 : decode cX5_ownPrice 24 = .ok (.aload_n 0, 1) := by decide +kernel
theorem dX5_ownPrice_25 : decode cX5_ownPrice 25 = .ok (.getfield 11, 3) := by decide +kernel
theorem dX5_ownPrice_28 : decode cX5_ownPrice 28 = .ok (.iload_n 2, 1) := by decide +kernel
theorem dX5_ownPrice_29 : decode cX5_ownPrice 29 = .ok (.aaload, 1) := by decide +kernel
theorem dX5_ownPrice_30 : decode cX5_ownPrice 30 = .ok (.iload_n 1, 1) := by decide +kernel
theorem dX5_ownPrice_31 : decode cX5_ownPrice 31 = .ok (.iaload, 1) := by decide +kernel
theorem dX5_ownPrice_32 : decode cX5_ownPrice 32 = .ok (.iaload, 1) := by decide +kernel
theorem dX5_ownPrice_33 : decode cX5_ownPrice 33 = .ok (.ireturn, 1) := by decide +kernel
theorem dX5_joinPrice_0 : decode cX5_joinPrice 0 = .ok (.aload_n 0, 1) := by decide +kernel
theorem dX5_joinPrice_1 : decode cX5_joinPrice 1 = .ok (.iload_n 1, 1) := by decide +kernel
theorem dX5_joinPrice_2 : decode cX5_joinPrice 2 = .ok (.iload_n 2, 1) := by decide +kernel
theorem dX5_joinPrice_3 : decode cX5_joinPrice 3 = .ok (.iload_n 3, 1) := by decide +kernel
theorem dX5_joinPrice_4 : decode cX5_joinPrice 4 = .ok (.invokevirtual 98, 3) := by decide +kernel
theorem dX5_joinPrice_7 : decode cX5_joinPrice 7 = .ok (.ifCond .ne 5, 3) := by decide +kernel
theorem dX5_joinPrice_10 : decode cX5_joinPrice 10 = .ok (.iconst 0, 1) := by decide +kernel
theorem dX5_joinPrice_11 : decode cX5_joinPrice 11 = .ok (.ireturn, 1) := by decide +kernel
theorem dX5_joinPrice_12 : decode cX5_joinPrice 12 = .ok (.iload_n 2, 1) := by decide +kernel
theorem dX5_joinPrice_13 : decode cX5_joinPrice 13 = .ok (.iload_n 3, 1) := by decide +kernel
theorem dX5_joinPrice_14 : decode cX5_joinPrice 14 = .ok (.if_icmp .eq 12, 3) := by decide +kernel
theorem dX5_joinPrice_17 : decode cX5_joinPrice 17 = .ok (.aload_n 0, 1) := by decide +kernel
theorem dX5_joinPrice_18 : decode cX5_joinPrice 18 = .ok (.getfield 31, 3) := by decide +kernel
theorem dX5_joinPrice_21 : decode cX5_joinPrice 21 = .ok (.iconst 2, 1) := by decide +kernel
theorem dX5_joinPrice_22 : decode cX5_joinPrice 22 = .ok (.iaload, 1) := by decide +kernel
theorem dX5_joinPrice_23 : decode cX5_joinPrice 23 = .ok (.goto 4, 3) := by decide +kernel
theorem dX5_joinPrice_26 : decode cX5_joinPrice 26 = .ok (.iconst 0, 1) := by decide +kernel
theorem dX5_joinPrice_27 : decode cX5_joinPrice 27 = .ok (.istore 4, 2) := by decide +kernel
theorem dX5_joinPrice_29 : decode cX5_joinPrice 29 = .ok (.aload_n 0, 1) := by decide +kernel
theorem dX5_joinPrice_30 : decode cX5_joinPrice 30 = .ok (.iload_n 1, 1) := by decide +kernel
theorem dX5_joinPrice_31 : decode cX5_joinPrice 31 = .ok (.iconst 1, 1) := by decide +kernel
theorem dX5_joinPrice_32 : decode cX5_joinPrice 32 = .ok (.isub, 1) := by decide +kernel
theorem dX5_joinPrice_33 : decode cX5_joinPrice 33 = .ok (.iload_n 2, 1) := by decide +kernel
theorem dX5_joinPrice_34 : decode cX5_joinPrice 34 = .ok (.invokevirtual 102, 3) := by decide +kernel
theorem dX5_joinPrice_37 : decode cX5_joinPrice 37 = .ok (.aload_n 0, 1) := by decide +kernel
theorem dX5_joinPrice_38 : decode cX5_joinPrice 38 = .ok (.iload_n 1, 1) := by decide +kernel
theorem dX5_joinPrice_39 : decode cX5_joinPrice 39 = .ok (.iload_n 3, 1) := by decide +kernel
theorem dX5_joinPrice_40 : decode cX5_joinPrice 40 = .ok (.invokevirtual 102, 3) := by decide +kernel
theorem dX5_joinPrice_43 : decode cX5_joinPrice 43 = .ok (.if_icmp .eq 12, 3) := by decide +kernel
theorem dX5_joinPrice_46 : decode cX5_joinPrice 46 = .ok (.aload_n 0, 1) := by decide +kernel
theorem dX5_joinPrice_47 : decode cX5_joinPrice 47 = .ok (.getfield 31, 3) := by decide +kernel
theorem dX5_joinPrice_50 : decode cX5_joinPrice 50 = .ok (.iconst 3, 1) := by decide +kernel
theorem dX5_joinPrice_51 : decode cX5_joinPrice 51 = .ok (.iaload, 1) := by decide +kernel
theorem dX5_joinPrice_52 : decode cX5_joinPrice 52 = .ok (.goto 4, 3) := by decide +kernel
theorem dX5_joinPrice_55 : decode cX5_joinPrice 55 = .ok (.iconst 0, 1) := by decide +kernel
theorem dX5_joinPrice_56 : decode cX5_joinPrice 56 = .ok (.istore 5, 2) := by decide +kernel
theorem dX5_joinPrice_58 : decode cX5_joinPrice 58 = .ok (.iload 4, 2) := by decide +kernel
theorem dX5_joinPrice_60 : decode cX5_joinPrice 60 = .ok (.iload 5, 2) := by decide +kernel
theorem dX5_joinPrice_62 : decode cX5_joinPrice 62 = .ok (.iadd, 1) := by decide +kernel
theorem dX5_joinPrice_63 : decode cX5_joinPrice 63 = .ok (.ireturn, 1) := by decide +kernel
theorem dX5_isJoined_0 : decode cX5_isJoined 0 = .ok (.iload_n 1, 1) := by decide +kernel
theorem dX5_isJoined_1 : decode cX5_isJoined 1 = .ok (.ifCond .le 42, 3) := by decide +kernel
theorem dX5_isJoined_4 : decode cX5_isJoined 4 = .ok (.iload_n 2, 1) := by decide +kernel
theorem dX5_isJoined_5 : decode cX5_isJoined 5 = .ok (.bipush 6, 2) := by decide +kernel
theorem dX5_isJoined_7 : decode cX5_isJoined 7 = .ok (.if_icmp .eq 36, 3) := by decide +kernel
theorem dX5_isJoined_10 : decode cX5_isJoined 10 = .ok (.iload_n 3, 1) := by decide +kernel
theorem dX5_isJoined_11 : decode cX5_isJoined 11 = .ok (.bipush 6, 2) := by decide +kernel
theorem dX5_isJoined_13 : decode cX5_isJoined 13 = .ok (.if_icmp .eq 30, 3) := by decide +kernel
theorem dX5_isJoined_16 : decode cX5_isJoined 16 = .ok (.aload_n 0, 1) := by decide +kernel
theorem dX5_isJoined_17 : decode cX5_isJoined 17 = .ok (.getfield 23, 3) := by decide +kernel
theorem dX5_isJoined_20 : decode cX5_isJoined 20 = .ok (.getfield 105, 3) := by decide +kernel
theorem dX5_isJoined_23 : decode cX5_isJoined 23 = .ok (.iload_n 1, 1) := by decide +kernel
theorem dX5_isJoined_24 : decode cX5_isJoined 24 = .ok (.iconst 1, 1) := by decide +kernel
theorem dX5_isJoined_25 : decode cX5_isJoined 25 = .ok (.isub, 1) := by decide +kernel
theorem dX5_isJoined_26 : decode cX5_isJoined 26 = .ok (.iaload, 1) := by decide +kernel
theorem dX5_isJoined_27 : decode cX5_isJoined 27 = .ok (.aload_n 0, 1) := by decide +kernel
theorem dX5_isJoined_28 : decode cX5_isJoined 28 = .ok (.getfield 23, 3) := by decide +kernel
theorem dX5_isJoined_31 : decode cX5_isJoined 31 = .ok (.getfield 105, 3) := by decide +kernel
theorem dX5_isJoined_34 : decode cX5_isJoined 34 = .ok (.iload_n 1, 1) := by decide +kernel
theorem dX5_isJoined_35 : decode cX5_isJoined 35 = .ok (.iaload, 1) := by decide +kernel
theorem dX5_isJoined_36 : decode cX5_isJoined 36 = .ok (.if_icmp .ne 7, 3) := by decide +kernel
theorem dX5_isJoined_39 : decode cX5_isJoined 39 = .ok (.iconst 1, 1) := by decide +kernel
theorem dX5_isJoined_40 : decode cX5_isJoined 40 = .ok (.goto 4, 3) := by decide +kernel
theorem dX5_isJoined_43 : decode cX5_isJoined 43 = .ok (.iconst 0, 1) := by decide +kernel
theorem dX5_isJoined_44 : decode cX5_isJoined 44 = .ok (.ireturn, 1) := by decide +kernel
theorem dX5_cameraOf_0 : decode cX5_cameraOf 0 = .ok (.aload_n 0, 1) := by decide +kernel
theorem dX5_cameraOf_1 : decode cX5_cameraOf 1 = .ok (.getfield 27, 3) := by decide +kernel
theorem dX5_cameraOf_4 : decode cX5_cameraOf 4 = .ok (.iload_n 2, 1) := by decide +kernel
theorem dX5_cameraOf_5 : decode cX5_cameraOf 5 = .ok (.aaload, 1) := by decide +kernel
theorem dX5_cameraOf_6 : decode cX5_cameraOf 6 = .ok (.getfield 108, 3) := by decide +kernel
theorem dX5_cameraOf_9 : decode cX5_cameraOf 9 = .ok (.aload_n 0, 1) := by decide +kernel
theorem dX5_cameraOf_10 : decode cX5_cameraOf 10 = .ok (.getfield 11, 3) := by decide +kernel
theorem dX5_cameraOf_13 : decode cX5_cameraOf 13 = .ok (.iload_n 2, 1) := by decide +kernel
theorem dX5_cameraOf_14 : decode cX5_cameraOf 14 = .ok (.aaload, 1) := by decide +kernel
theorem dX5_cameraOf_15 : decode cX5_cameraOf 15 = .ok (.iload_n 1, 1) := by decide +kernel
theorem dX5_cameraOf_16 : decode cX5_cameraOf 16 = .ok (.iaload, 1) := by decide +kernel
theorem dX5_cameraOf_17 : decode cX5_cameraOf 17 = .ok (.iaload, 1) := by decide +kernel
theorem dX5_cameraOf_18 : decode cX5_cameraOf 18 = .ok (.ireturn, 1) := by decide +kernel
theorem dX5_changesCopy_0 : decode cX5_changesCopy 0 = .ok (.iload_n 1, 1) := by decide +kernel
theorem dX5_changesCopy_1 : decode cX5_changesCopy 1 = .ok (.ifCond .le 46, 3) := by decide +kernel
theorem dX5_changesCopy_4 : decode cX5_changesCopy 4 = .ok (.aload_n 0, 1) := by decide +kernel
theorem dX5_changesCopy_5 : decode cX5_changesCopy 5 = .ok (.iload_n 1, 1) := by decide +kernel
theorem dX5_changesCopy_6 : decode cX5_changesCopy 6 = .ok (.aload_n 0, 1) := by decide +kernel
theorem dX5_changesCopy_7 : decode cX5_changesCopy 7 = .ok (.getfield 19, 3) := by decide +kernel
theorem dX5_changesCopy_10 : decode cX5_changesCopy 10 = .ok (.iload_n 1, 1) := by decide +kernel
theorem dX5_changesCopy_11 : decode cX5_changesCopy 11 = .ok (.iconst 1, 1) := by decide +kernel
theorem dX5_changesCopy_12 : decode cX5_changesCopy 12 = .ok (.isub, 1) := by decide +kernel
theorem dX5_changesCopy_13 : decode cX5_changesCopy 13 = .ok (.iaload, 1) := by decide +kernel
theorem dX5_changesCopy_14 : decode cX5_changesCopy 14 = .ok (.aload_n 0, 1) := by decide +kernel
theorem dX5_changesCopy_15 : decode cX5_changesCopy 15 = .ok (.getfield 19, 3) := by decide +kernel
theorem dX5_changesCopy_18 : decode cX5_changesCopy 18 = .ok (.iload_n 1, 1) := by decide +kernel
theorem dX5_changesCopy_19 : decode cX5_changesCopy 19 = .ok (.iaload, 1) := by decide +kernel
theorem dX5_changesCopy_20 : decode cX5_changesCopy 20 = .ok (.invokevirtual 98, 3) := by decide +kernel
theorem dX5_changesCopy_23 : decode cX5_changesCopy 23 = .ok (.ifCond .eq 24, 3) := by decide +kernel
theorem dX5_changesCopy_26 : decode cX5_changesCopy 26 = .ok (.aload_n 0, 1) := by decide +kernel
theorem dX5_changesCopy_27 : decode cX5_changesCopy 27 = .ok (.getfield 19, 3) := by decide +kernel
theorem dX5_changesCopy_30 : decode cX5_changesCopy 30 = .ok (.iload_n 1, 1) := by decide +kernel
theorem dX5_changesCopy_31 : decode cX5_changesCopy 31 = .ok (.iconst 1, 1) := by decide +kernel
theorem dX5_changesCopy_32 : decode cX5_changesCopy 32 = .ok (.isub, 1) := by decide +kernel
theorem dX5_changesCopy_33 : decode cX5_changesCopy 33 = .ok (.iaload, 1) := by decide +kernel
theorem dX5_changesCopy_34 : decode cX5_changesCopy 34 = .ok (.aload_n 0, 1) := by decide +kernel
theorem dX5_changesCopy_35 : decode cX5_changesCopy 35 = .ok (.getfield 19, 3) := by decide +kernel
theorem dX5_changesCopy_38 : decode cX5_changesCopy 38 = .ok (.iload_n 1, 1) := by decide +kernel
theorem dX5_changesCopy_39 : decode cX5_changesCopy 39 = .ok (.iaload, 1) := by decide +kernel
theorem dX5_changesCopy_40 : decode cX5_changesCopy 40 = .ok (.if_icmp .eq 7, 3) := by decide +kernel
theorem dX5_changesCopy_43 : decode cX5_changesCopy 43 = .ok (.iconst 1, 1) := by decide +kernel
theorem dX5_changesCopy_44 : decode cX5_changesCopy 44 = .ok (.goto 4, 3) := by decide +kernel
theorem dX5_changesCopy_47 : decode cX5_changesCopy 47 = .ok (.iconst 0, 1) := by decide +kernel
theorem dX5_changesCopy_48 : decode cX5_changesCopy 48 = .ok (.ireturn, 1) := by decide +kernel
theorem dX5_changesCamera_0 : decode cX5_changesCamera 0 = .ok (.iload_n 1, 1) := by decide +kernel
theorem dX5_changesCamera_1 : decode cX5_changesCamera 1 = .ok (.ifCond .le 58, 3) := by decide +kernel
theorem dX5_changesCamera_4 : decode cX5_changesCamera 4 = .ok (.aload_n 0, 1) := by decide +kernel
theorem dX5_changesCamera_5 : decode cX5_changesCamera 5 = .ok (.iload_n 1, 1) := by decide +kernel
theorem dX5_changesCamera_6 : decode cX5_changesCamera 6 = .ok (.aload_n 0, 1) := by decide +kernel
theorem dX5_changesCamera_7 : decode cX5_changesCamera 7 = .ok (.getfield 19, 3) := by decide +kernel
theorem dX5_changesCamera_10 : decode cX5_changesCamera 10 = .ok (.iload_n 1, 1) := by decide +kernel
theorem dX5_changesCamera_11 : decode cX5_changesCamera 11 = .ok (.iconst 1, 1) := by decide +kernel
theorem dX5_changesCamera_12 : decode cX5_changesCamera 12 = .ok (.isub, 1) := by decide +kernel
theorem dX5_changesCamera_13 : decode cX5_changesCamera 13 = .ok (.iaload, 1) := by decide +kernel
theorem dX5_changesCamera_14 : decode cX5_changesCamera 14 = .ok (.aload_n 0, 1) := by decide +kernel
theorem dX5_changesCamera_15 : decode cX5_changesCamera 15 = .ok (.getfield 19, 3) := by decide +kernel
theorem dX5_changesCamera_18 : decode cX5_changesCamera 18 = .ok (.iload_n 1, 1) := by decide +kernel
theorem dX5_changesCamera_19 : decode cX5_changesCamera 19 = .ok (.iaload, 1) := by decide +kernel
theorem dX5_changesCamera_20 : decode cX5_changesCamera 20 = .ok (.invokevirtual 98, 3) := by decide +kernel
theorem dX5_changesCamera_23 : decode cX5_changesCamera 23 = .ok (.ifCond .eq 36, 3) := by decide +kernel
theorem dX5_changesCamera_26 : decode cX5_changesCamera 26 = .ok (.aload_n 0, 1) := by decide +kernel
theorem dX5_changesCamera_27 : decode cX5_changesCamera 27 = .ok (.iload_n 1, 1) := by decide +kernel
theorem dX5_changesCamera_28 : decode cX5_changesCamera 28 = .ok (.iconst 1, 1) := by decide +kernel
theorem dX5_changesCamera_29 : decode cX5_changesCamera 29 = .ok (.isub, 1) := by decide +kernel
theorem dX5_changesCamera_30 : decode cX5_changesCamera 30 = .ok (.aload_n 0, 1) := by decide +kernel
theorem dX5_changesCamera_31 : decode cX5_changesCamera 31 = .ok (.getfield 19, 3) := by decide +kernel
theorem dX5_changesCamera_34 : decode cX5_changesCamera 34 = .ok (.iload_n 1, 1) := by decide +kernel
theorem dX5_changesCamera_35 : decode cX5_changesCamera 35 = .ok (.iconst 1, 1) := by decide +kernel
theorem dX5_changesCamera_36 : decode cX5_changesCamera 36 = .ok (.isub, 1) := by decide +kernel
theorem dX5_changesCamera_37 : decode cX5_changesCamera 37 = .ok (.iaload, 1) := by decide +kernel
theorem dX5_changesCamera_38 : decode cX5_changesCamera 38 = .ok (.invokevirtual 102, 3) := by decide +kernel
theorem dX5_changesCamera_41 : decode cX5_changesCamera 41 = .ok (.aload_n 0, 1) := by decide +kernel
theorem dX5_changesCamera_42 : decode cX5_changesCamera 42 = .ok (.iload_n 1, 1) := by decide +kernel
theorem dX5_changesCamera_43 : decode cX5_changesCamera 43 = .ok (.aload_n 0, 1) := by decide +kernel
theorem dX5_changesCamera_44 : decode cX5_changesCamera 44 = .ok (.getfield 19, 3) := by decide +kernel
theorem dX5_changesCamera_47 : decode cX5_changesCamera 47 = .ok (.iload_n 1, 1) := by decide +kernel
theorem dX5_changesCamera_48 : decode cX5_changesCamera 48 = .ok (.iaload, 1) := by decide +kernel
theorem dX5_changesCamera_49 : decode cX5_changesCamera 49 = .ok (.invokevirtual 102, 3) := by decide +kernel
theorem dX5_changesCamera_52 : decode cX5_changesCamera 52 = .ok (.if_icmp .eq 7, 3) := by decide +kernel
theorem dX5_changesCamera_55 : decode cX5_changesCamera 55 = .ok (.iconst 1, 1) := by decide +kernel
theorem dX5_changesCamera_56 : decode cX5_changesCamera 56 = .ok (.goto 4, 3) := by decide +kernel
theorem dX5_changesCamera_59 : decode cX5_changesCamera 59 = .ok (.iconst 0, 1) := by decide +kernel
theorem dX5_changesCamera_60 : decode cX5_changesCamera 60 = .ok (.ireturn, 1) := by decide +kernel
theorem dX5_canBeMended_0 : decode cX5_canBeMended 0 = .ok (.iload_n 1, 1) := by decide +kernel
theorem dX5_canBeMended_1 : decode cX5_canBeMended 1 = .ok (.ifCond .le 53, 3) := by decide +kernel
theorem dX5_canBeMended_4 : decode cX5_canBeMended 4 = .ok (.iload_n 1, 1) := by decide +kernel
theorem dX5_canBeMended_5 : decode cX5_canBeMended 5 = .ok (.iconst 1, 1) := by decide +kernel
theorem dX5_canBeMended_6 : decode cX5_canBeMended 6 = .ok (.iadd, 1) := by decide +kernel
theorem dX5_canBeMended_7 : decode cX5_canBeMended 7 = .ok (.aload_n 0, 1) := by decide +kernel
theorem dX5_canBeMended_8 : decode cX5_canBeMended 8 = .ok (.getfield 23, 3) := by decide +kernel
theorem dX5_canBeMended_11 : decode cX5_canBeMended 11 = .ok (.getfield 43, 3) := by decide +kernel
theorem dX5_canBeMended_14 : decode cX5_canBeMended 14 = .ok (.if_icmp .ge 40, 3) := by decide +kernel
theorem dX5_canBeMended_17 : decode cX5_canBeMended 17 = .ok (.aload_n 0, 1) := by decide +kernel
theorem dX5_canBeMended_18 : decode cX5_canBeMended 18 = .ok (.getfield 19, 3) := by decide +kernel
theorem dX5_canBeMended_21 : decode cX5_canBeMended 21 = .ok (.iload_n 1, 1) := by decide +kernel
theorem dX5_canBeMended_22 : decode cX5_canBeMended 22 = .ok (.iaload, 1) := by decide +kernel
theorem dX5_canBeMended_23 : decode cX5_canBeMended 23 = .ok (.bipush 6, 2) := by decide +kernel
theorem dX5_canBeMended_25 : decode cX5_canBeMended 25 = .ok (.if_icmp .eq 29, 3) := by decide +kernel
theorem dX5_canBeMended_28 : decode cX5_canBeMended 28 = .ok (.aload_n 0, 1) := by decide +kernel
theorem dX5_canBeMended_29 : decode cX5_canBeMended 29 = .ok (.iload_n 1, 1) := by decide +kernel
theorem dX5_canBeMended_30 : decode cX5_canBeMended 30 = .ok (.iconst 1, 1) := by decide +kernel
theorem dX5_canBeMended_31 : decode cX5_canBeMended 31 = .ok (.isub, 1) := by decide +kernel
theorem dX5_canBeMended_32 : decode cX5_canBeMended 32 = .ok (.iload_n 1, 1) := by decide +kernel
theorem dX5_canBeMended_33 : decode cX5_canBeMended 33 = .ok (.invokevirtual 111, 3) := by decide +kernel
theorem dX5_canBeMended_36 : decode cX5_canBeMended 36 = .ok (.ifCond .eq 18, 3) := by decide +kernel
theorem dX5_canBeMended_39 : decode cX5_canBeMended 39 = .ok (.aload_n 0, 1) := by decide +kernel
theorem dX5_canBeMended_40 : decode cX5_canBeMended 40 = .ok (.iload_n 1, 1) := by decide +kernel
theorem dX5_canBeMended_41 : decode cX5_canBeMended 41 = .ok (.iconst 1, 1) := by decide +kernel
theorem dX5_canBeMended_42 : decode cX5_canBeMended 42 = .ok (.iadd, 1) := by decide +kernel
theorem dX5_canBeMended_43 : decode cX5_canBeMended 43 = .ok (.iload_n 1, 1) := by decide +kernel
theorem dX5_canBeMended_44 : decode cX5_canBeMended 44 = .ok (.invokevirtual 111, 3) := by decide +kernel
theorem dX5_canBeMended_47 : decode cX5_canBeMended 47 = .ok (.ifCond .eq 7, 3) := by decide +kernel
theorem dX5_canBeMended_50 : decode cX5_canBeMended 50 = .ok (.iconst 1, 1) := by decide +kernel
theorem dX5_canBeMended_51 : decode cX5_canBeMended 51 = .ok (.goto 4, 3) := by decide +kernel
theorem dX5_canBeMended_54 : decode cX5_canBeMended 54 = .ok (.iconst 0, 1) := by decide +kernel
theorem dX5_canBeMended_55 : decode cX5_canBeMended 55 = .ok (.ireturn, 1) := by decide +kernel
theorem dX5_mends_0 : decode cX5_mends 0 = .ok (.aload_n 0, 1) := by decide +kernel
theorem dX5_mends_1 : decode cX5_mends 1 = .ok (.getfield 23, 3) := by decide +kernel
theorem dX5_mends_4 : decode cX5_mends 4 = .ok (.getfield 105, 3) := by decide +kernel
theorem dX5_mends_7 : decode cX5_mends 7 = .ok (.iload_n 1, 1) := by decide +kernel
theorem dX5_mends_8 : decode cX5_mends 8 = .ok (.iaload, 1) := by decide +kernel
theorem dX5_mends_9 : decode cX5_mends 9 = .ok (.aload_n 0, 1) := by decide +kernel
theorem dX5_mends_10 : decode cX5_mends 10 = .ok (.getfield 23, 3) := by decide +kernel
theorem dX5_mends_13 : decode cX5_mends 13 = .ok (.getfield 105, 3) := by decide +kernel
theorem dX5_mends_16 : decode cX5_mends 16 = .ok (.iload_n 2, 1) := by decide +kernel
theorem dX5_mends_17 : decode cX5_mends 17 = .ok (.iaload, 1) := by decide +kernel
theorem dX5_mends_18 : decode cX5_mends 18 = .ok (.if_icmp .ne 35, 3) := by decide +kernel
theorem dX5_mends_21 : decode cX5_mends 21 = .ok (.aload_n 0, 1) := by decide +kernel
theorem dX5_mends_22 : decode cX5_mends 22 = .ok (.getfield 19, 3) := by decide +kernel
theorem dX5_mends_25 : decode cX5_mends 25 = .ok (.iload_n 1, 1) := by decide +kernel
theorem dX5_mends_26 : decode cX5_mends 26 = .ok (.iaload, 1) := by decide +kernel
theorem dX5_mends_27 : decode cX5_mends 27 = .ok (.aload_n 0, 1) := by decide +kernel
theorem dX5_mends_28 : decode cX5_mends 28 = .ok (.getfield 19, 3) := by decide +kernel
theorem dX5_mends_31 : decode cX5_mends 31 = .ok (.iload_n 2, 1) := by decide +kernel
theorem dX5_mends_32 : decode cX5_mends 32 = .ok (.iaload, 1) := by decide +kernel
theorem dX5_mends_33 : decode cX5_mends 33 = .ok (.if_icmp .ne 20, 3) := by decide +kernel
theorem dX5_mends_36 : decode cX5_mends 36 = .ok (.aload_n 0, 1) := by decide +kernel
theorem dX5_mends_37 : decode cX5_mends 37 = .ok (.iload_n 1, 1) := by decide +kernel
theorem dX5_mends_38 : decode cX5_mends 38 = .ok (.invokevirtual 114, 3) := by decide +kernel
theorem dX5_mends_41 : decode cX5_mends 41 = .ok (.aload_n 0, 1) := by decide +kernel
theorem dX5_mends_42 : decode cX5_mends 42 = .ok (.iload_n 2, 1) := by decide +kernel
theorem dX5_mends_43 : decode cX5_mends 43 = .ok (.invokevirtual 114, 3) := by decide +kernel
theorem dX5_mends_46 : decode cX5_mends 46 = .ok (.if_icmp .ge 7, 3) := by decide +kernel
theorem dX5_mends_49 : decode cX5_mends 49 = .ok (.iconst 1, 1) := by decide +kernel
theorem dX5_mends_50 : decode cX5_mends 50 = .ok (.goto 4, 3) := by decide +kernel
theorem dX5_mends_53 : decode cX5_mends 53 = .ok (.iconst 0, 1) := by decide +kernel
theorem dX5_mends_54 : decode cX5_mends 54 = .ok (.ireturn, 1) := by decide +kernel
theorem dX5_frameOf_0 : decode cX5_frameOf 0 = .ok (.aload_n 0, 1) := by decide +kernel
theorem dX5_frameOf_1 : decode cX5_frameOf 1 = .ok (.getfield 11, 3) := by decide +kernel
theorem dX5_frameOf_4 : decode cX5_frameOf 4 = .ok (.aload_n 0, 1) := by decide +kernel
theorem dX5_frameOf_5 : decode cX5_frameOf 5 = .ok (.getfield 19, 3) := by decide +kernel
theorem dX5_frameOf_8 : decode cX5_frameOf 8 = .ok (.iload_n 1, 1) := by decide +kernel
theorem dX5_frameOf_9 : decode cX5_frameOf 9 = .ok (.iaload, 1) := by decide +kernel
theorem dX5_frameOf_10 : decode cX5_frameOf 10 = .ok (.aaload, 1) := by decide +kernel
theorem dX5_frameOf_11 : decode cX5_frameOf 11 = .ok (.iload_n 1, 1) := by decide +kernel
theorem dX5_frameOf_12 : decode cX5_frameOf 12 = .ok (.iaload, 1) := by decide +kernel
theorem dX5_frameOf_13 : decode cX5_frameOf 13 = .ok (.ireturn, 1) := by decide +kernel
theorem dX5_wearOf_0 : decode cX5_wearOf 0 = .ok (.aload_n 0, 1) := by decide +kernel
theorem dX5_wearOf_1 : decode cX5_wearOf 1 = .ok (.getfield 27, 3) := by decide +kernel
theorem dX5_wearOf_4 : decode cX5_wearOf 4 = .ok (.aload_n 0, 1) := by decide +kernel
theorem dX5_wearOf_5 : decode cX5_wearOf 5 = .ok (.getfield 19, 3) := by decide +kernel
theorem dX5_wearOf_8 : decode cX5_wearOf 8 = .ok (.iload_n 1, 1) := by decide +kernel
theorem dX5_wearOf_9 : decode cX5_wearOf 9 = .ok (.iaload, 1) := by decide +kernel
theorem dX5_wearOf_10 : decode cX5_wearOf 10 = .ok (.aaload, 1) := by decide +kernel
theorem dX5_wearOf_11 : decode cX5_wearOf 11 = .ok (.getfield 95, 3) := by decide +kernel
theorem dX5_wearOf_14 : decode cX5_wearOf 14 = .ok (.aload_n 0, 1) := by decide +kernel
theorem dX5_wearOf_15 : decode cX5_wearOf 15 = .ok (.iload_n 1, 1) := by decide +kernel
theorem dX5_wearOf_16 : decode cX5_wearOf 16 = .ok (.invokevirtual 117, 3) := by decide +kernel
theorem dX5_wearOf_19 : decode cX5_wearOf 19 = .ok (.iaload, 1) := by decide +kernel
theorem dX5_wearOf_20 : decode cX5_wearOf 20 = .ok (.ireturn, 1) := by decide +kernel
theorem dX8_init_0 : decode cX8_init 0 = .ok (.aload_n 0, 1) := by decide +kernel
theorem dX8_init_1 : decode cX8_init 1 = .ok (.invokespecial 3, 3) := by decide +kernel
theorem dX8_init_4 : decode cX8_init 4 = .ok (.aload_n 0, 1) := by decide +kernel
theorem dX8_init_5 : decode cX8_init 5 = .ok (.bipush 6, 2) := by decide +kernel
theorem dX8_init_7 : decode cX8_init 7 = .ok (.anewarray 9, 3) := by decide +kernel
theorem dX8_init_10 : decode cX8_init 10 = .ok (.putfield 11, 3) := by decide +kernel
theorem dX8_init_13 : decode cX8_init 13 = .ok (.aload_n 0, 1) := by decide +kernel
theorem dX8_init_14 : decode cX8_init 14 = .ok (.new 15, 3) := by decide +kernel
theorem dX8_init_17 : decode cX8_init 17 = .ok (.dup, 1) := by decide +kernel
theorem dX8_init_18 : decode cX8_init 18 = .ok (.invokespecial 17, 3) := by decide +kernel
theorem dX8_init_21 : decode cX8_init 21 = .ok (.putfield 18, 3) := by decide +kernel
theorem dX8_init_24 : decode cX8_init 24 = .ok (.aload_n 0, 1) := by decide +kernel
theorem dX8_init_25 : decode cX8_init 25 = .ok (.iconst 4, 1) := by decide +kernel
theorem dX8_init_26 : decode cX8_init 26 = .ok (.newarray .int, 2) := by decide +kernel
theorem dX8_init_28 : decode cX8_init 28 = .ok (.dup, 1) := by decide +kernel
theorem dX8_init_29 : decode cX8_init 29 = .ok (.iconst 0, 1) := by decide +kernel
theorem dX8_init_30 : decode cX8_init 30 = .ok (.iconst 0, 1) := by decide +kernel
theorem dX8_init_31 : decode cX8_init 31 = .ok (.iastore, 1) := by decide +kernel
theorem dX8_init_32 : decode cX8_init 32 = .ok (.dup, 1) := by decide +kernel
theorem dX8_init_33 : decode cX8_init 33 = .ok (.iconst 1, 1) := by decide +kernel
theorem dX8_init_34 : decode cX8_init 34 = .ok (.bipush 20, 2) := by decide +kernel
theorem dX8_init_36 : decode cX8_init 36 = .ok (.iastore, 1) := by decide +kernel
theorem dX8_init_37 : decode cX8_init 37 = .ok (.dup, 1) := by decide +kernel
theorem dX8_init_38 : decode cX8_init 38 = .ok (.iconst 2, 1) := by decide +kernel
theorem dX8_init_39 : decode cX8_init 39 = .ok (.iconst 4, 1) := by decide +kernel
theorem dX8_init_40 : decode cX8_init 40 = .ok (.iastore, 1) := by decide +kernel
theorem dX8_init_41 : decode cX8_init 41 = .ok (.dup, 1) := by decide +kernel
theorem dX8_init_42 : decode cX8_init 42 = .ok (.iconst 3, 1) := by decide +kernel
theorem dX8_init_43 : decode cX8_init 43 = .ok (.bipush 30, 2) := by decide +kernel
theorem dX8_init_45 : decode cX8_init 45 = .ok (.iastore, 1) := by decide +kernel
theorem dX8_init_46 : decode cX8_init 46 = .ok (.putfield 22, 3) := by decide +kernel
theorem dX8_init_49 : decode cX8_init 49 = .ok (.aload_n 0, 1) := by decide +kernel
theorem dX8_init_50 : decode cX8_init 50 = .ok (.new 26, 3) := by decide +kernel
theorem dX8_init_53 : decode cX8_init 53 = .ok (.dup, 1) := by decide +kernel
theorem dX8_init_54 : decode cX8_init 54 = .ok (.invokespecial 28, 3) := by decide +kernel
theorem dX8_init_57 : decode cX8_init 57 = .ok (.putfield 29, 3) := by decide +kernel
theorem dX8_init_60 : decode cX8_init 60 = .ok (.aload_n 0, 1) := by decide +kernel
theorem dX8_init_61 : decode cX8_init 61 = .ok (.new 33, 3) := by decide +kernel
theorem dX8_init_64 : decode cX8_init 64 = .ok (.dup, 1) := by decide +kernel
theorem dX8_init_65 : decode cX8_init 65 = .ok (.invokespecial 35, 3) := by decide +kernel
theorem dX8_init_68 : decode cX8_init 68 = .ok (.putfield 36, 3) := by decide +kernel
theorem dX8_init_71 : decode cX8_init 71 = .ok (.aload_n 0, 1) := by decide +kernel
theorem dX8_init_72 : decode cX8_init 72 = .ok (.new 40, 3) := by decide +kernel
theorem dX8_init_75 : decode cX8_init 75 = .ok (.dup, 1) := by decide +kernel
theorem dX8_init_76 : decode cX8_init 76 = .ok (.invokespecial 42, 3) := by decide +kernel
theorem dX8_init_79 : decode cX8_init 79 = .ok (.putfield 43, 3) := by decide +kernel
theorem dX8_init_82 : decode cX8_init 82 = .ok (.aload_n 0, 1) := by decide +kernel
theorem dX8_init_83 : decode cX8_init 83 = .ok (.new 47, 3) := by decide +kernel
theorem dX8_init_86 : decode cX8_init 86 = .ok (.dup, 1) := by decide +kernel
theorem dX8_init_87 : decode cX8_init 87 = .ok (.invokespecial 49, 3) := by decide +kernel
theorem dX8_init_90 : decode cX8_init 90 = .ok (.putfield 50, 3) := by decide +kernel
theorem dX8_init_93 : decode cX8_init 93 = .ok (.iconst 0, 1) := by decide +kernel
theorem dX8_init_94 : decode cX8_init 94 = .ok (.istore_n 1, 1) := by decide +kernel
theorem dX8_init_95 : decode cX8_init 95 = .ok (.iload_n 1, 1) := by decide +kernel
theorem dX8_init_96 : decode cX8_init 96 = .ok (.bipush 6, 2) := by decide +kernel
theorem dX8_init_98 : decode cX8_init 98 = .ok (.if_icmp .ge 22, 3) := by decide +kernel
theorem dX8_init_101 : decode cX8_init 101 = .ok (.aload_n 0, 1) := by decide +kernel
theorem dX8_init_102 : decode cX8_init 102 = .ok (.getfield 11, 3) := by decide +kernel
theorem dX8_init_105 : decode cX8_init 105 = .ok (.iload_n 1, 1) := by decide +kernel
theorem dX8_init_106 : decode cX8_init 106 = .ok (.new 9, 3) := by decide +kernel
theorem dX8_init_109 : decode cX8_init 109 = .ok (.dup, 1) := by decide +kernel
theorem dX8_init_110 : decode cX8_init 110 = .ok (.invokespecial 54, 3) := by decide +kernel
theorem dX8_init_113 : decode cX8_init 113 = .ok (.aastore, 1) := by decide +kernel
theorem dX8_init_114 : decode cX8_init 114 = .ok (.iinc 1 1, 3) := by decide +kernel
theorem dX8_init_117 : decode cX8_init 117 = .ok (.goto (-22), 3) := by decide +kernel
theorem dX8_init_120 : decode cX8_init 120 = .ok (.aload_n 0, 1) := by decide +kernel
theorem dX8_init_121 : decode cX8_init 121 = .ok (.new 55, 3) := by decide +kernel
theorem dX8_init_124 : decode cX8_init 124 = .ok (.dup, 1) := by decide +kernel
theorem dX8_init_125 : decode cX8_init 125 = .ok (.aload_n 0, 1) := by decide +kernel
theorem dX8_init_126 : decode cX8_init 126 = .ok (.getfield 18, 3) := by decide +kernel
theorem dX8_init_129 : decode cX8_init 129 = .ok (.aload_n 0, 1) := by decide +kernel
theorem dX8_init_130 : decode cX8_init 130 = .ok (.getfield 11, 3) := by decide +kernel
theorem dX8_init_133 : decode cX8_init 133 = .ok (.aload_n 0, 1) := by decide +kernel
theorem dX8_init_134 : decode cX8_init 134 = .ok (.getfield 22, 3) := by decide +kernel
theorem dX8_init_137 : decode cX8_init 137 = .ok (.aload_n 0, 1) := by decide +kernel
theorem dX8_init_138 : decode cX8_init 138 = .ok (.getfield 29, 3) := by decide +kernel
theorem dX8_init_141 : decode cX8_init 141 = .ok (.invokespecial 57, 3) := by decide +kernel
theorem dX8_init_144 : decode cX8_init 144 = .ok (.putfield 60, 3) := by decide +kernel
theorem dX8_init_147 : decode cX8_init 147 = .ok (.return_, 1) := by decide +kernel
theorem dX8_copy_0 : decode cX8_copy 0 = .ok (.aload_n 0, 1) := by decide +kernel
theorem dX8_copy_1 : decode cX8_copy 1 = .ok (.getfield 64, 3) := by decide +kernel
theorem dX8_copy_4 : decode cX8_copy 4 = .ok (.bipush 6, 2) := by decide +kernel
theorem dX8_copy_6 : decode cX8_copy 6 = .ok (.if_icmp .lt 6, 3) := by decide +kernel
theorem dX8_copy_9 : decode cX8_copy 9 = .ok (.bipush (-3), 2) := by decide +kernel
theorem dX8_copy_11 : decode cX8_copy 11 = .ok (.ireturn, 1) := by decide +kernel
theorem dX8_copy_12 : decode cX8_copy 12 = .ok (.aload_n 0, 1) := by decide +kernel
theorem dX8_copy_13 : decode cX8_copy 13 = .ok (.dup, 1) := by decide +kernel
theorem dX8_copy_14 : decode cX8_copy 14 = .ok (.getfield 64, 3) := by decide +kernel
theorem dX8_copy_17 : decode cX8_copy 17 = .ok (.iconst 1, 1) := by decide +kernel
theorem dX8_copy_18 : decode cX8_copy 18 = .ok (.iadd, 1) := by decide +kernel
theorem dX8_copy_19 : decode cX8_copy 19 = .ok (.putfield 64, 3) := by decide +kernel
theorem dX8_copy_22 : decode cX8_copy 22 = .ok (.aload_n 0, 1) := by decide +kernel
theorem dX8_copy_23 : decode cX8_copy 23 = .ok (.getfield 64, 3) := by decide +kernel
theorem dX8_copy_26 : decode cX8_copy 26 = .ok (.iconst 1, 1) := by decide +kernel
theorem dX8_copy_27 : decode cX8_copy 27 = .ok (.isub, 1) := by decide +kernel
theorem dX8_copy_28 : decode cX8_copy 28 = .ok (.ireturn, 1) := by decide +kernel
theorem dX8_frame_0 : decode cX8_frame 0 = .ok (.aload_n 0, 1) := by decide +kernel
theorem dX8_frame_1 : decode cX8_frame 1 = .ok (.iload_n 1, 1) := by decide +kernel
theorem dX8_frame_2 : decode cX8_frame 2 = .ok (.invokevirtual 68, 3) := by decide +kernel
theorem dX8_frame_5 : decode cX8_frame 5 = .ok (.ifCond .eq 30, 3) := by decide +kernel
theorem dX8_frame_8 : decode cX8_frame 8 = .ok (.iload_n 2, 1) := by decide +kernel
theorem dX8_frame_9 : decode cX8_frame 9 = .ok (.bipush 63, 2) := by decide +kernel
theorem dX8_frame_11 : decode cX8_frame 11 = .ok (.invokestatic 72, 3) := by decide +kernel
theorem dX8_frame_14 : decode cX8_frame 14 = .ok (.ifCond .eq 21, 3) := by decide +kernel
theorem dX8_frame_17 : decode cX8_frame 17 = .ok (.iload_n 3, 1) := by decide +kernel
theorem dX8_frame_18 : decode cX8_frame 18 = .ok (.bipush 9, 2) := by decide +kernel
theorem dX8_frame_20 : decode cX8_frame 20 = .ok (.invokestatic 72, 3) := by decide +kernel
theorem dX8_frame_23 : decode cX8_frame 23 = .ok (.ifCond .eq 12, 3) := by decide +kernel
theorem dX8_frame_26 : decode cX8_frame 26 = .ok (.iload 4, 2) := by decide +kernel
theorem dX8_frame_28 : decode cX8_frame 28 = .ok (.iconst 1, 1) := by decide +kernel
theorem dX8_frame_29 : decode cX8_frame 29 = .ok (.invokestatic 72, 3) := by decide +kernel
theorem dX8_frame_32 : decode cX8_frame 32 = .ok (.ifCond .ne 5, 3) := by decide +kernel
theorem dX8_frame_35 : decode cX8_frame 35 = .ok (.iconst (-1), 1) := by decide +kernel
theorem dX8_frame_36 : decode cX8_frame 36 = .ok (.ireturn, 1) := by decide +kernel
theorem dX8_frame_37 : decode cX8_frame 37 = .ok (.aload_n 0, 1) := by decide +kernel
theorem dX8_frame_38 : decode cX8_frame 38 = .ok (.getfield 11, 3) := by decide +kernel
theorem dX8_frame_41 : decode cX8_frame 41 = .ok (.iload_n 1, 1) := by decide +kernel
theorem dX8_frame_42 : decode cX8_frame 42 = .ok (.aaload, 1) := by decide +kernel
theorem dX8_frame_43 : decode cX8_frame 43 = .ok (.astore 5, 2) := by decide +kernel
theorem dX8_frame_45 : decode cX8_frame 45 = .ok (.aload 5, 2) := by decide +kernel
theorem dX8_frame_47 : decode cX8_frame 47 = .ok (.iconst 1, 1) := by decide +kernel
theorem dX8_frame_48 : decode cX8_frame 48 = .ok (.invokevirtual 76, 3) := by decide +kernel
theorem dX8_frame_51 : decode cX8_frame 51 = .ok (.ifCond .ne 6, 3) := by decide +kernel
theorem dX8_frame_54 : decode cX8_frame 54 = .ok (.bipush (-3), 2) := by decide +kernel
theorem dX8_frame_56 : decode cX8_frame 56 = .ok (.ireturn, 1) := by decide +kernel
theorem dX8_frame_57 : decode cX8_frame 57 = .ok (.aload 5, 2) := by decide +kernel
theorem dX8_frame_59 : decode cX8_frame 59 = .ok (.iload_n 2, 1) := by decide +kernel
theorem dX8_frame_60 : decode cX8_frame 60 = .ok (.iload_n 3, 1) := by decide +kernel
theorem dX8_frame_61 : decode cX8_frame 61 = .ok (.iload 4, 2) := by decide +kernel
theorem dX8_frame_63 : decode cX8_frame 63 = .ok (.invokevirtual 79, 3) := by decide +kernel
theorem dX8_frame_66 : decode cX8_frame 66 = .ok (.aload 5, 2) := by decide +kernel
theorem dX8_frame_68 : decode cX8_frame 68 = .ok (.getfield 83, 3) := by decide +kernel
theorem dX8_frame_71 : decode cX8_frame 71 = .ok (.ireturn, 1) := by decide +kernel
theorem dX8_frames_0 : decode cX8_frames 0 = .ok (.aload_n 0, 1) := by decide +kernel
theorem dX8_frames_1 : decode cX8_frames 1 = .ok (.iload_n 1, 1) := by decide +kernel
theorem dX8_frames_2 : decode cX8_frames 2 = .ok (.invokevirtual 68, 3) := by decide +kernel
theorem dX8_frames_5 : decode cX8_frames 5 = .ok (.ifCond .eq 21, 3) := by decide +kernel
theorem dX8_frames_8 : decode cX8_frames 8 = .ok (.iload_n 2, 1) := by decide +kernel
theorem dX8_frames_9 : decode cX8_frames 9 = .ok (.iconst 1, 1) := by decide +kernel
theorem dX8_frames_10 : decode cX8_frames 10 = .ok (.if_icmp .lt 16, 3) := by decide +kernel
theorem dX8_frames_13 : decode cX8_frames 13 = .ok (.iload_n 2, 1) := by decide +kernel
theorem dX8_frames_14 : decode cX8_frames 14 = .ok (.iconst 4, 1) := by decide +kernel
theorem dX8_frames_15 : decode cX8_frames 15 = .ok (.if_icmp .gt 11, 3) := by decide +kernel
theorem dX8_frames_18 : decode cX8_frames 18 = .ok (.iload_n 2, 1) := by decide +kernel
theorem dX8_frames_19 : decode cX8_frames 19 = .ok (.lload_n 3, 1) := by decide +kernel
theorem dX8_frames_20 : decode cX8_frames 20 = .ok (.invokestatic 86, 3) := by decide +kernel
theorem dX8_frames_23 : decode cX8_frames 23 = .ok (.ifCond .ne 5, 3) := by decide +kernel
theorem dX8_frames_26 : decode cX8_frames 26 = .ok (.iconst (-1), 1) := by decide +kernel
theorem dX8_frames_27 : decode cX8_frames 27 = .ok (.ireturn, 1) := by decide +kernel
theorem dX8_frames_28 : decode cX8_frames 28 = .ok (.aload_n 0, 1) := by decide +kernel
theorem dX8_frames_29 : decode cX8_frames 29 = .ok (.getfield 11, 3) := by decide +kernel
theorem dX8_frames_32 : decode cX8_frames 32 = .ok (.iload_n 1, 1) := by decide +kernel
theorem dX8_frames_33 : decode cX8_frames 33 = .ok (.aaload, 1) := by decide +kernel
theorem dX8_frames_34 : decode cX8_frames 34 = .ok (.astore 5, 2) := by decide +kernel
theorem dX8_frames_36 : decode cX8_frames 36 = .ok (.aload 5, 2) := by decide +kernel
theorem dX8_frames_38 : decode cX8_frames 38 = .ok (.iload_n 2, 1) := by decide +kernel
theorem dX8_frames_39 : decode cX8_frames 39 = .ok (.invokevirtual 76, 3) := by decide +kernel
theorem dX8_frames_42 : decode cX8_frames 42 = .ok (.ifCond .ne 6, 3) := by decide +kernel
theorem dX8_frames_45 : decode cX8_frames 45 = .ok (.bipush (-3), 2) := by decide +kernel
theorem dX8_frames_47 : decode cX8_frames 47 = .ok (.ireturn, 1) := by decide +kernel
theorem dX8_frames_48 : decode cX8_frames 48 = .ok (.iconst 0, 1) := by decide +kernel
theorem dX8_frames_49 : decode cX8_frames 49 = .ok (.istore 6, 2) := by decide +kernel
theorem dX8_frames_51 : decode cX8_frames 51 = .ok (.iload 6, 2) := by decide +kernel
theorem dX8_frames_53 : decode cX8_frames 53 = .ok (.iload_n 2, 1) := by decide +kernel
theorem dX8_frames_54 : decode cX8_frames 54 = .ok (.if_icmp .ge 38, 3) := by decide +kernel
theorem dX8_frames_57 : decode cX8_frames 57 = .ok (.iload_n 2, 1) := by decide +kernel
theorem dX8_frames_58 : decode cX8_frames 58 = .ok (.lload_n 3, 1) := by decide +kernel
theorem dX8_frames_59 : decode cX8_frames 59 = .ok (.iload 6, 2) := by decide +kernel
theorem dX8_frames_61 : decode cX8_frames 61 = .ok (.invokestatic 92, 3) := by decide +kernel
theorem dX8_frames_64 : decode cX8_frames 64 = .ok (.istore 7, 2) := by decide +kernel
theorem dX8_frames_66 : decode cX8_frames 66 = .ok (.aload 5, 2) := by decide +kernel
theorem dX8_frames_68 : decode cX8_frames 68 = .ok (.iload 7, 2) := by decide +kernel
theorem dX8_frames_70 : decode cX8_frames 70 = .ok (.invokestatic 96, 3) := by decide +kernel
theorem dX8_frames_73 : decode cX8_frames 73 = .ok (.iload 7, 2) := by decide +kernel
theorem dX8_frames_75 : decode cX8_frames 75 = .ok (.invokestatic 100, 3) := by decide +kernel
theorem dX8_frames_78 : decode cX8_frames 78 = .ok (.iload 7, 2) := by decide +kernel
theorem dX8_frames_80 : decode cX8_frames 80 = .ok (.invokestatic 103, 3) := by decide +kernel
theorem dX8_frames_83 : decode cX8_frames 83 = .ok (.invokevirtual 79, 3) := by decide +kernel
theorem dX8_frames_86 : decode cX8_frames 86 = .ok (.iinc 6 1, 3) := by decide +kernel
theorem dX8_frames_89 : decode cX8_frames 89 = .ok (.goto (-38), 3) := by decide +kernel
theorem dX8_frames_92 : decode cX8_frames 92 = .ok (.aload 5, 2) := by decide +kernel
theorem dX8_frames_94 : decode cX8_frames 94 = .ok (.getfield 83, 3) := by decide +kernel
theorem dX8_frames_97 : decode cX8_frames 97 = .ok (.ireturn, 1) := by decide +kernel
theorem dX8_at_0 : decode cX8_at 0 = .ok (.aload_n 0, 1) := by decide +kernel
theorem dX8_at_1 : decode cX8_at 1 = .ok (.iload_n 1, 1) := by decide +kernel
theorem dX8_at_2 : decode cX8_at 2 = .ok (.iload_n 2, 1) := by decide +kernel
theorem dX8_at_3 : decode cX8_at 3 = .ok (.invokevirtual 106, 3) := by decide +kernel
theorem dX8_at_6 : decode cX8_at 6 = .ok (.ifCond .ne 5, 3) := by decide +kernel
theorem dX8_at_9 : decode cX8_at 9 = .ok (.iconst (-1), 1) := by decide +kernel
theorem dX8_at_10 : decode cX8_at 10 = .ok (.ireturn, 1) := by decide +kernel
theorem dX8_at_11 : decode cX8_at 11 = .ok (.aload_n 0, 1) := by decide +kernel
theorem dX8_at_12 : decode cX8_at 12 = .ok (.getfield 11, 3) := by decide +kernel
theorem dX8_at_15 : decode cX8_at 15 = .ok (.iload_n 1, 1) := by decide +kernel
theorem dX8_at_16 : decode cX8_at 16 = .ok (.aaload, 1) := by decide +kernel
theorem dX8_at_17 : decode cX8_at 17 = .ok (.astore 4, 2) := by decide +kernel
theorem dX8_at_19 : decode cX8_at 19 = .ok (.iload_n 3, 1) := by decide +kernel
theorem dX8_at_20 : decode cX8_at 20 = .ok (.tableswitch 52 0 2 #[28, 36, 44], 28) := by decide +kernel
theorem dX8_at_48 : decode cX8_at 48 = .ok (.aload 4, 2) := by decide +kernel
theorem dX8_at_50 : decode cX8_at 50 = .ok (.getfield 109, 3) := by decide +kernel
theorem dX8_at_53 : decode cX8_at 53 = .ok (.iload_n 2, 1) := by decide +kernel
theorem dX8_at_54 : decode cX8_at 54 = .ok (.iaload, 1) := by decide +kernel
theorem dX8_at_55 : decode cX8_at 55 = .ok (.ireturn, 1) := by decide +kernel
theorem dX8_at_56 : decode cX8_at 56 = .ok (.aload 4, 2) := by decide +kernel
theorem dX8_at_58 : decode cX8_at 58 = .ok (.getfield 112, 3) := by decide +kernel
theorem dX8_at_61 : decode cX8_at 61 = .ok (.iload_n 2, 1) := by decide +kernel
theorem dX8_at_62 : decode cX8_at 62 = .ok (.iaload, 1) := by decide +kernel
theorem dX8_at_63 : decode cX8_at 63 = .ok (.ireturn, 1) := by decide +kernel
theorem dX8_at_64 : decode cX8_at 64 = .ok (.aload 4, 2) := by decide +kernel
theorem dX8_at_66 : decode cX8_at 66 = .ok (.getfield 115, 3) := by decide +kernel
theorem dX8_at_69 : decode cX8_at 69 = .ok (.iload_n 2, 1) := by decide +kernel
theorem dX8_at_70 : decode cX8_at 70 = .ok (.iaload, 1) := by decide +kernel
theorem dX8_at_71 : decode cX8_at 71 = .ok (.ireturn, 1) := by decide +kernel
theorem dX8_at_72 : decode cX8_at 72 = .ok (.iconst (-1), 1) := by decide +kernel
theorem dX8_at_73 : decode cX8_at 73 = .ok (.ireturn, 1) := by decide +kernel
theorem dX8_wear_0 : decode cX8_wear 0 = .ok (.aload_n 0, 1) := by decide +kernel
theorem dX8_wear_1 : decode cX8_wear 1 = .ok (.iload_n 1, 1) := by decide +kernel
theorem dX8_wear_2 : decode cX8_wear 2 = .ok (.iload_n 2, 1) := by decide +kernel
theorem dX8_wear_3 : decode cX8_wear 3 = .ok (.invokevirtual 106, 3) := by decide +kernel
theorem dX8_wear_6 : decode cX8_wear 6 = .ok (.ifCond .eq 12, 3) := by decide +kernel
theorem dX8_wear_9 : decode cX8_wear 9 = .ok (.iload_n 3, 1) := by decide +kernel
theorem dX8_wear_10 : decode cX8_wear 10 = .ok (.bipush 9, 2) := by decide +kernel
theorem dX8_wear_12 : decode cX8_wear 12 = .ok (.invokestatic 72, 3) := by decide +kernel
theorem dX8_wear_15 : decode cX8_wear 15 = .ok (.ifCond .ne 5, 3) := by decide +kernel
theorem dX8_wear_18 : decode cX8_wear 18 = .ok (.iconst (-1), 1) := by decide +kernel
theorem dX8_wear_19 : decode cX8_wear 19 = .ok (.ireturn, 1) := by decide +kernel
theorem dX8_wear_20 : decode cX8_wear 20 = .ok (.aload_n 0, 1) := by decide +kernel
theorem dX8_wear_21 : decode cX8_wear 21 = .ok (.getfield 11, 3) := by decide +kernel
theorem dX8_wear_24 : decode cX8_wear 24 = .ok (.iload_n 1, 1) := by decide +kernel
theorem dX8_wear_25 : decode cX8_wear 25 = .ok (.aaload, 1) := by decide +kernel
theorem dX8_wear_26 : decode cX8_wear 26 = .ok (.getfield 112, 3) := by decide +kernel
theorem dX8_wear_29 : decode cX8_wear 29 = .ok (.iload_n 2, 1) := by decide +kernel
theorem dX8_wear_30 : decode cX8_wear 30 = .ok (.iaload, 1) := by decide +kernel
theorem dX8_wear_31 : decode cX8_wear 31 = .ok (.istore 4, 2) := by decide +kernel
theorem dX8_wear_33 : decode cX8_wear 33 = .ok (.aload_n 0, 1) := by decide +kernel
theorem dX8_wear_34 : decode cX8_wear 34 = .ok (.iload_n 1, 1) := by decide +kernel
theorem dX8_wear_35 : decode cX8_wear 35 = .ok (.iload_n 2, 1) := by decide +kernel
theorem dX8_wear_36 : decode cX8_wear 36 = .ok (.iload_n 3, 1) := by decide +kernel
theorem dX8_wear_37 : decode cX8_wear 37 = .ok (.invokevirtual 118, 3) := by decide +kernel
theorem dX8_wear_40 : decode cX8_wear 40 = .ok (.iload 4, 2) := by decide +kernel
theorem dX8_wear_42 : decode cX8_wear 42 = .ok (.ireturn, 1) := by decide +kernel
theorem dX8_place_0 : decode cX8_place 0 = .ok (.iload_n 1, 1) := by decide +kernel
theorem dX8_place_1 : decode cX8_place 1 = .ok (.bipush 63, 2) := by decide +kernel
theorem dX8_place_3 : decode cX8_place 3 = .ok (.invokestatic 72, 3) := by decide +kernel
theorem dX8_place_6 : decode cX8_place 6 = .ok (.ifCond .eq 11, 3) := by decide +kernel
theorem dX8_place_9 : decode cX8_place 9 = .ok (.iload_n 2, 1) := by decide +kernel
theorem dX8_place_10 : decode cX8_place 10 = .ok (.iconst 5, 1) := by decide +kernel
theorem dX8_place_11 : decode cX8_place 11 = .ok (.invokestatic 72, 3) := by decide +kernel
theorem dX8_place_14 : decode cX8_place 14 = .ok (.ifCond .ne 5, 3) := by decide +kernel
theorem dX8_place_17 : decode cX8_place 17 = .ok (.iconst (-1), 1) := by decide +kernel
theorem dX8_place_18 : decode cX8_place 18 = .ok (.ireturn, 1) := by decide +kernel
theorem dX8_place_19 : decode cX8_place 19 = .ok (.aload_n 0, 1) := by decide +kernel
theorem dX8_place_20 : decode cX8_place 20 = .ok (.getfield 18, 3) := by decide +kernel
theorem dX8_place_23 : decode cX8_place 23 = .ok (.getfield 121, 3) := by decide +kernel
theorem dX8_place_26 : decode cX8_place 26 = .ok (.bipush 40, 2) := by decide +kernel
theorem dX8_place_28 : decode cX8_place 28 = .ok (.if_icmp .lt 6, 3) := by decide +kernel
theorem dX8_place_31 : decode cX8_place 31 = .ok (.bipush (-3), 2) := by decide +kernel
theorem dX8_place_33 : decode cX8_place 33 = .ok (.ireturn, 1) := by decide +kernel
theorem dX8_place_34 : decode cX8_place 34 = .ok (.aload_n 0, 1) := by decide +kernel
theorem dX8_place_35 : decode cX8_place 35 = .ok (.getfield 18, 3) := by decide +kernel
theorem dX8_place_38 : decode cX8_place 38 = .ok (.iload_n 1, 1) := by decide +kernel
theorem dX8_place_39 : decode cX8_place 39 = .ok (.iload_n 2, 1) := by decide +kernel
theorem dX8_place_40 : decode cX8_place 40 = .ok (.invokevirtual 122, 3) := by decide +kernel
theorem dX8_place_43 : decode cX8_place 43 = .ok (.aload_n 0, 1) := by decide +kernel
theorem dX8_place_44 : decode cX8_place 44 = .ok (.getfield 18, 3) := by decide +kernel
theorem dX8_place_47 : decode cX8_place 47 = .ok (.getfield 121, 3) := by decide +kernel
theorem dX8_place_50 : decode cX8_place 50 = .ok (.ireturn, 1) := by decide +kernel
theorem dX8_noScript_0 : decode cX8_noScript 0 = .ok (.aload_n 0, 1) := by decide +kernel
theorem dX8_noScript_1 : decode cX8_noScript 1 = .ok (.getfield 18, 3) := by decide +kernel
theorem dX8_noScript_4 : decode cX8_noScript 4 = .ok (.getfield 121, 3) := by decide +kernel
theorem dX8_noScript_7 : decode cX8_noScript 7 = .ok (.istore_n 1, 1) := by decide +kernel
theorem dX8_noScript_8 : decode cX8_noScript 8 = .ok (.aload_n 0, 1) := by decide +kernel
theorem dX8_noScript_9 : decode cX8_noScript 9 = .ok (.getfield 18, 3) := by decide +kernel
theorem dX8_noScript_12 : decode cX8_noScript 12 = .ok (.iconst 0, 1) := by decide +kernel
theorem dX8_noScript_13 : decode cX8_noScript 13 = .ok (.putfield 121, 3) := by decide +kernel
theorem dX8_noScript_16 : decode cX8_noScript 16 = .ok (.iload_n 1, 1) := by decide +kernel
theorem dX8_noScript_17 : decode cX8_noScript 17 = .ok (.ireturn, 1) := by decide +kernel
theorem dX8_rule_0 : decode cX8_rule 0 = .ok (.iload_n 1, 1) := by decide +kernel
theorem dX8_rule_1 : decode cX8_rule 1 = .ok (.iconst 3, 1) := by decide +kernel
theorem dX8_rule_2 : decode cX8_rule 2 = .ok (.invokestatic 72, 3) := by decide +kernel
theorem dX8_rule_5 : decode cX8_rule 5 = .ok (.ifCond .eq 15, 3) := by decide +kernel
theorem dX8_rule_8 : decode cX8_rule 8 = .ok (.iload_n 2, 1) := by decide +kernel
theorem dX8_rule_9 : decode cX8_rule 9 = .ok (.getstatic 125, 3) := by decide +kernel
theorem dX8_rule_12 : decode cX8_rule 12 = .ok (.iload_n 1, 1) := by decide +kernel
theorem dX8_rule_13 : decode cX8_rule 13 = .ok (.iaload, 1) := by decide +kernel
theorem dX8_rule_14 : decode cX8_rule 14 = .ok (.invokestatic 72, 3) := by decide +kernel
theorem dX8_rule_17 : decode cX8_rule 17 = .ok (.ifCond .ne 5, 3) := by decide +kernel
theorem dX8_rule_20 : decode cX8_rule 20 = .ok (.iconst (-1), 1) := by decide +kernel
theorem dX8_rule_21 : decode cX8_rule 21 = .ok (.ireturn, 1) := by decide +kernel
theorem dX8_rule_22 : decode cX8_rule 22 = .ok (.aload_n 0, 1) := by decide +kernel
theorem dX8_rule_23 : decode cX8_rule 23 = .ok (.getfield 22, 3) := by decide +kernel
theorem dX8_rule_26 : decode cX8_rule 26 = .ok (.iload_n 1, 1) := by decide +kernel
theorem dX8_rule_27 : decode cX8_rule 27 = .ok (.iaload, 1) := by decide +kernel
theorem dX8_rule_28 : decode cX8_rule 28 = .ok (.istore_n 3, 1) := by decide +kernel
theorem dX8_rule_29 : decode cX8_rule 29 = .ok (.aload_n 0, 1) := by decide +kernel
theorem dX8_rule_30 : decode cX8_rule 30 = .ok (.getfield 22, 3) := by decide +kernel
theorem dX8_rule_33 : decode cX8_rule 33 = .ok (.iload_n 1, 1) := by decide +kernel
theorem dX8_rule_34 : decode cX8_rule 34 = .ok (.iload_n 2, 1) := by decide +kernel
theorem dX8_rule_35 : decode cX8_rule 35 = .ok (.iastore, 1) := by decide +kernel
theorem dX8_rule_36 : decode cX8_rule 36 = .ok (.iload_n 3, 1) := by decide +kernel
theorem dX8_rule_37 : decode cX8_rule 37 = .ok (.ireturn, 1) := by decide +kernel
theorem dX8_line_0 : decode cX8_line 0 = .ok (.aload_n 0, 1) := by decide +kernel
theorem dX8_line_1 : decode cX8_line 1 = .ok (.iload_n 1, 1) := by decide +kernel
theorem dX8_line_2 : decode cX8_line 2 = .ok (.invokevirtual 128, 3) := by decide +kernel
theorem dX8_line_5 : decode cX8_line 5 = .ok (.ifCond .eq 25, 3) := by decide +kernel
theorem dX8_line_8 : decode cX8_line 8 = .ok (.aload_n 0, 1) := by decide +kernel
theorem dX8_line_9 : decode cX8_line 9 = .ok (.iload_n 2, 1) := by decide +kernel
theorem dX8_line_10 : decode cX8_line 10 = .ok (.invokevirtual 128, 3) := by decide +kernel
theorem dX8_line_13 : decode cX8_line 13 = .ok (.ifCond .eq 17, 3) := by decide +kernel
theorem dX8_line_16 : decode cX8_line 16 = .ok (.iload_n 3, 1) := by decide +kernel
theorem dX8_line_17 : decode cX8_line 17 = .ok (.iconst (-1), 1) := by decide +kernel
theorem dX8_line_18 : decode cX8_line 18 = .ok (.if_icmp .lt 12, 3) := by decide +kernel
theorem dX8_line_21 : decode cX8_line 21 = .ok (.iload_n 3, 1) := by decide +kernel
theorem dX8_line_22 : decode cX8_line 22 = .ok (.aload_n 0, 1) := by decide +kernel
theorem dX8_line_23 : decode cX8_line 23 = .ok (.iload_n 1, 1) := by decide +kernel
theorem dX8_line_24 : decode cX8_line 24 = .ok (.invokevirtual 131, 3) := by decide +kernel
theorem dX8_line_27 : decode cX8_line 27 = .ok (.if_icmp .lt 5, 3) := by decide +kernel
theorem dX8_line_30 : decode cX8_line 30 = .ok (.iconst (-1), 1) := by decide +kernel
theorem dX8_line_31 : decode cX8_line 31 = .ok (.ireturn, 1) := by decide +kernel
theorem dX8_line_32 : decode cX8_line 32 = .ok (.aload_n 0, 1) := by decide +kernel
theorem dX8_line_33 : decode cX8_line 33 = .ok (.getfield 29, 3) := by decide +kernel
theorem dX8_line_36 : decode cX8_line 36 = .ok (.aload_n 0, 1) := by decide +kernel
theorem dX8_line_37 : decode cX8_line 37 = .ok (.iload_n 1, 1) := by decide +kernel
theorem dX8_line_38 : decode cX8_line 38 = .ok (.invokevirtual 134, 3) := by decide +kernel
theorem dX8_line_41 : decode cX8_line 41 = .ok (.aload_n 0, 1) := by decide +kernel
theorem dX8_line_42 : decode cX8_line 42 = .ok (.iload_n 1, 1) := by decide +kernel
theorem dX8_line_43 : decode cX8_line 43 = .ok (.invokevirtual 131, 3) := by decide +kernel
theorem dX8_line_46 : decode cX8_line 46 = .ok (.aload_n 0, 1) := by decide +kernel
theorem dX8_line_47 : decode cX8_line 47 = .ok (.iload_n 2, 1) := by decide +kernel
theorem dX8_line_48 : decode cX8_line 48 = .ok (.invokevirtual 134, 3) := by decide +kernel
theorem dX8_line_51 : decode cX8_line 51 = .ok (.aload_n 0, 1) := by decide +kernel
theorem dX8_line_52 : decode cX8_line 52 = .ok (.iload_n 2, 1) := by decide +kernel
theorem dX8_line_53 : decode cX8_line 53 = .ok (.invokevirtual 131, 3) := by decide +kernel
theorem dX8_line_56 : decode cX8_line 56 = .ok (.invokevirtual 138, 3) := by decide +kernel
theorem dX8_line_59 : decode cX8_line 59 = .ok (.iload_n 3, 1) := by decide +kernel
theorem dX8_line_60 : decode cX8_line 60 = .ok (.iconst (-1), 1) := by decide +kernel
theorem dX8_line_61 : decode cX8_line 61 = .ok (.if_icmp .ne 13, 3) := by decide +kernel
theorem dX8_line_64 : decode cX8_line 64 = .ok (.aload_n 0, 1) := by decide +kernel
theorem dX8_line_65 : decode cX8_line 65 = .ok (.getfield 29, 3) := by decide +kernel
theorem dX8_line_68 : decode cX8_line 68 = .ok (.invokevirtual 142, 3) := by decide +kernel
theorem dX8_line_71 : decode cX8_line 71 = .ok (.goto 12, 3) := by decide +kernel
theorem dX8_line_74 : decode cX8_line 74 = .ok (.aload_n 0, 1) := by decide +kernel
theorem dX8_line_75 : decode cX8_line 75 = .ok (.getfield 29, 3) := by decide +kernel
theorem dX8_line_78 : decode cX8_line 78 = .ok (.getfield 146, 3) := by decide +kernel
theorem dX8_line_81 : decode cX8_line 81 = .ok (.iload_n 3, 1) := by decide +kernel
theorem dX8_line_82 : decode cX8_line 82 = .ok (.iaload, 1) := by decide +kernel
theorem dX8_line_83 : decode cX8_line 83 = .ok (.ireturn, 1) := by decide +kernel
theorem dX8_stands_0 : decode cX8_stands 0 = .ok (.aload_n 0, 1) := by decide +kernel
theorem dX8_stands_1 : decode cX8_stands 1 = .ok (.iload_n 1, 1) := by decide +kernel
theorem dX8_stands_2 : decode cX8_stands 2 = .ok (.invokevirtual 68, 3) := by decide +kernel
theorem dX8_stands_5 : decode cX8_stands 5 = .ok (.ifCond .eq 14, 3) := by decide +kernel
theorem dX8_stands_8 : decode cX8_stands 8 = .ok (.aload_n 0, 1) := by decide +kernel
theorem dX8_stands_9 : decode cX8_stands 9 = .ok (.getfield 18, 3) := by decide +kernel
theorem dX8_stands_12 : decode cX8_stands 12 = .ok (.iload_n 2, 1) := by decide +kernel
theorem dX8_stands_13 : decode cX8_stands 13 = .ok (.invokevirtual 149, 3) := by decide +kernel
theorem dX8_stands_16 : decode cX8_stands 16 = .ok (.ifCond .ne 5, 3) := by decide +kernel
theorem dX8_stands_19 : decode cX8_stands 19 = .ok (.iconst (-1), 1) := by decide +kernel
theorem dX8_stands_20 : decode cX8_stands 20 = .ok (.ireturn, 1) := by decide +kernel
theorem dX8_stands_21 : decode cX8_stands 21 = .ok (.aload_n 0, 1) := by decide +kernel
theorem dX8_stands_22 : decode cX8_stands 22 = .ok (.getfield 60, 3) := by decide +kernel
theorem dX8_stands_25 : decode cX8_stands 25 = .ok (.iload_n 1, 1) := by decide +kernel
theorem dX8_stands_26 : decode cX8_stands 26 = .ok (.invokevirtual 152, 3) := by decide +kernel
theorem dX8_stands_29 : decode cX8_stands 29 = .ok (.aload_n 0, 1) := by decide +kernel
theorem dX8_stands_30 : decode cX8_stands 30 = .ok (.getfield 60, 3) := by decide +kernel
theorem dX8_stands_33 : decode cX8_stands 33 = .ok (.getfield 156, 3) := by decide +kernel
theorem dX8_stands_36 : decode cX8_stands 36 = .ok (.iload_n 1, 1) := by decide +kernel
theorem dX8_stands_37 : decode cX8_stands 37 = .ok (.aaload, 1) := by decide +kernel
theorem dX8_stands_38 : decode cX8_stands 38 = .ok (.iload_n 2, 1) := by decide +kernel
theorem dX8_stands_39 : decode cX8_stands 39 = .ok (.iaload, 1) := by decide +kernel
theorem dX8_stands_40 : decode cX8_stands 40 = .ok (.ireturn, 1) := by decide +kernel
theorem dX8_whole_0 : decode cX8_whole 0 = .ok (.iload_n 1, 1) := by decide +kernel
theorem dX8_whole_1 : decode cX8_whole 1 = .ok (.iconst (-1), 1) := by decide +kernel
theorem dX8_whole_2 : decode cX8_whole 2 = .ok (.if_icmp .eq 16, 3) := by decide +kernel
theorem dX8_whole_5 : decode cX8_whole 5 = .ok (.aload_n 0, 1) := by decide +kernel
theorem dX8_whole_6 : decode cX8_whole 6 = .ok (.getfield 18, 3) := by decide +kernel
theorem dX8_whole_9 : decode cX8_whole 9 = .ok (.iload_n 1, 1) := by decide +kernel
theorem dX8_whole_10 : decode cX8_whole 10 = .ok (.invokevirtual 149, 3) := by decide +kernel
theorem dX8_whole_13 : decode cX8_whole 13 = .ok (.ifCond .ne 5, 3) := by decide +kernel
theorem dX8_whole_16 : decode cX8_whole 16 = .ok (.iconst (-1), 1) := by decide +kernel
theorem dX8_whole_17 : decode cX8_whole 17 = .ok (.ireturn, 1) := by decide +kernel
theorem dX8_whole_18 : decode cX8_whole 18 = .ok (.aload_n 0, 1) := by decide +kernel
theorem dX8_whole_19 : decode cX8_whole 19 = .ok (.getfield 60, 3) := by decide +kernel
theorem dX8_whole_22 : decode cX8_whole 22 = .ok (.invokevirtual 160, 3) := by decide +kernel
theorem dX8_whole_25 : decode cX8_whole 25 = .ok (.iload_n 1, 1) := by decide +kernel
theorem dX8_whole_26 : decode cX8_whole 26 = .ok (.iconst (-1), 1) := by decide +kernel
theorem dX8_whole_27 : decode cX8_whole 27 = .ok (.if_icmp .ne 11, 3) := by decide +kernel
theorem dX8_whole_30 : decode cX8_whole 30 = .ok (.aload_n 0, 1) := by decide +kernel
theorem dX8_whole_31 : decode cX8_whole 31 = .ok (.getfield 60, 3) := by decide +kernel
theorem dX8_whole_34 : decode cX8_whole 34 = .ok (.getfield 163, 3) := by decide +kernel
theorem dX8_whole_37 : decode cX8_whole 37 = .ok (.ireturn, 1) := by decide +kernel
theorem dX8_whole_38 : decode cX8_whole 38 = .ok (.aload_n 0, 1) := by decide +kernel
theorem dX8_whole_39 : decode cX8_whole 39 = .ok (.getfield 60, 3) := by decide +kernel
theorem dX8_whole_42 : decode cX8_whole 42 = .ok (.getfield 166, 3) := by decide +kernel
theorem dX8_whole_45 : decode cX8_whole 45 = .ok (.iload_n 1, 1) := by decide +kernel
theorem dX8_whole_46 : decode cX8_whole 46 = .ok (.iaload, 1) := by decide +kernel
theorem dX8_whole_47 : decode cX8_whole 47 = .ok (.bipush 6, 2) := by decide +kernel
theorem dX8_whole_49 : decode cX8_whole 49 = .ok (.if_icmp .ne 8, 3) := by decide +kernel
theorem dX8_whole_52 : decode cX8_whole 52 = .ok (.bipush (-4), 2) := by decide +kernel
theorem dX8_whole_54 : decode cX8_whole 54 = .ok (.goto 12, 3) := by decide +kernel
theorem dX8_whole_57 : decode cX8_whole 57 = .ok (.aload_n 0, 1) := by decide +kernel
theorem dX8_whole_58 : decode cX8_whole 58 = .ok (.getfield 60, 3) := by decide +kernel
theorem dX8_whole_61 : decode cX8_whole 61 = .ok (.getfield 166, 3) := by decide +kernel
theorem dX8_whole_64 : decode cX8_whole 64 = .ok (.iload_n 1, 1) := by decide +kernel
theorem dX8_whole_65 : decode cX8_whole 65 = .ok (.iaload, 1) := by decide +kernel
theorem dX8_whole_66 : decode cX8_whole 66 = .ok (.ireturn, 1) := by decide +kernel
theorem dX8_about_0 : decode cX8_about 0 = .ok (.iload_n 1, 1) := by decide +kernel
theorem dX8_about_1 : decode cX8_about 1 = .ok (.iconst 2, 1) := by decide +kernel
theorem dX8_about_2 : decode cX8_about 2 = .ok (.invokestatic 72, 3) := by decide +kernel
theorem dX8_about_5 : decode cX8_about 5 = .ok (.ifCond .ne 5, 3) := by decide +kernel
theorem dX8_about_8 : decode cX8_about 8 = .ok (.iconst (-1), 1) := by decide +kernel
theorem dX8_about_9 : decode cX8_about 9 = .ok (.ireturn, 1) := by decide +kernel
theorem dX8_about_10 : decode cX8_about 10 = .ok (.aload_n 0, 1) := by decide +kernel
theorem dX8_about_11 : decode cX8_about 11 = .ok (.getfield 60, 3) := by decide +kernel
theorem dX8_about_14 : decode cX8_about 14 = .ok (.invokevirtual 160, 3) := by decide +kernel
theorem dX8_about_17 : decode cX8_about 17 = .ok (.iconst 0, 1) := by decide +kernel
theorem dX8_about_18 : decode cX8_about 18 = .ok (.istore_n 2, 1) := by decide +kernel
theorem dX8_about_19 : decode cX8_about 19 = .ok (.iconst 0, 1) := by decide +kernel
theorem dX8_about_20 : decode cX8_about 20 = .ok (.istore_n 3, 1) := by decide +kernel
theorem dX8_about_21 : decode cX8_about 21 = .ok (.iload_n 3, 1) := by decide +kernel
theorem dX8_about_22 : decode cX8_about 22 = .ok (.aload_n 0, 1) := by decide +kernel
theorem dX8_about_23 : decode cX8_about 23 = .ok (.getfield 18, 3) := by decide +kernel
theorem dX8_about_26 : decode cX8_about 26 = .ok (.getfield 121, 3) := by decide +kernel
theorem dX8_about_29 : decode cX8_about 29 = .ok (.if_icmp .ge 21, 3) := by decide +kernel
theorem dX8_about_32 : decode cX8_about 32 = .ok (.aload_n 0, 1) := by decide +kernel
theorem dX8_about_33 : decode cX8_about 33 = .ok (.iload_n 1, 1) := by decide +kernel
theorem dX8_about_34 : decode cX8_about 34 = .ok (.iload_n 3, 1) := by decide +kernel
theorem dX8_about_35 : decode cX8_about 35 = .ok (.invokevirtual 169, 3) := by decide +kernel
theorem dX8_about_38 : decode cX8_about 38 = .ok (.ifCond .eq 6, 3) := by decide +kernel
theorem dX8_about_41 : decode cX8_about 41 = .ok (.iinc 2 1, 3) := by decide +kernel
theorem dX8_about_44 : decode cX8_about 44 = .ok (.iinc 3 1, 3) := by decide +kernel
theorem dX8_about_47 : decode cX8_about 47 = .ok (.goto (-26), 3) := by decide +kernel
theorem dX8_about_50 : decode cX8_about 50 = .ok (.iload_n 2, 1) := by decide +kernel
theorem dX8_about_51 : decode cX8_about 51 = .ok (.ireturn, 1) := by decide +kernel
theorem dX8_mend_0 : decode cX8_mend 0 = .ok (.aload_n 0, 1) := by decide +kernel
theorem dX8_mend_1 : decode cX8_mend 1 = .ok (.getfield 18, 3) := by decide +kernel
theorem dX8_mend_4 : decode cX8_mend 4 = .ok (.iload_n 1, 1) := by decide +kernel
theorem dX8_mend_5 : decode cX8_mend 5 = .ok (.invokevirtual 149, 3) := by decide +kernel
theorem dX8_mend_8 : decode cX8_mend 8 = .ok (.ifCond .ne 5, 3) := by decide +kernel
theorem dX8_mend_11 : decode cX8_mend 11 = .ok (.iconst (-1), 1) := by decide +kernel
theorem dX8_mend_12 : decode cX8_mend 12 = .ok (.ireturn, 1) := by decide +kernel
theorem dX8_mend_13 : decode cX8_mend 13 = .ok (.aload_n 0, 1) := by decide +kernel
theorem dX8_mend_14 : decode cX8_mend 14 = .ok (.getfield 60, 3) := by decide +kernel
theorem dX8_mend_17 : decode cX8_mend 17 = .ok (.invokevirtual 160, 3) := by decide +kernel
theorem dX8_mend_20 : decode cX8_mend 20 = .ok (.aload_n 0, 1) := by decide +kernel
theorem dX8_mend_21 : decode cX8_mend 21 = .ok (.getfield 60, 3) := by decide +kernel
theorem dX8_mend_24 : decode cX8_mend 24 = .ok (.iload_n 1, 1) := by decide +kernel
theorem dX8_mend_25 : decode cX8_mend 25 = .ok (.invokevirtual 172, 3) := by decide +kernel
theorem dX8_mend_28 : decode cX8_mend 28 = .ok (.ifCond .ne 6, 3) := by decide +kernel
theorem dX8_mend_31 : decode cX8_mend 31 = .ok (.bipush (-2), 2) := by decide +kernel
theorem dX8_mend_33 : decode cX8_mend 33 = .ok (.ireturn, 1) := by decide +kernel
theorem dX8_mend_34 : decode cX8_mend 34 = .ok (.aload_n 0, 1) := by decide +kernel
theorem dX8_mend_35 : decode cX8_mend 35 = .ok (.getfield 60, 3) := by decide +kernel
theorem dX8_mend_38 : decode cX8_mend 38 = .ok (.iload_n 1, 1) := by decide +kernel
theorem dX8_mend_39 : decode cX8_mend 39 = .ok (.iconst 1, 1) := by decide +kernel
theorem dX8_mend_40 : decode cX8_mend 40 = .ok (.isub, 1) := by decide +kernel
theorem dX8_mend_41 : decode cX8_mend 41 = .ok (.invokevirtual 175, 3) := by decide +kernel
theorem dX8_mend_44 : decode cX8_mend 44 = .ok (.aload_n 0, 1) := by decide +kernel
theorem dX8_mend_45 : decode cX8_mend 45 = .ok (.getfield 60, 3) := by decide +kernel
theorem dX8_mend_48 : decode cX8_mend 48 = .ok (.iload_n 1, 1) := by decide +kernel
theorem dX8_mend_49 : decode cX8_mend 49 = .ok (.iconst 1, 1) := by decide +kernel
theorem dX8_mend_50 : decode cX8_mend 50 = .ok (.iadd, 1) := by decide +kernel
theorem dX8_mend_51 : decode cX8_mend 51 = .ok (.invokevirtual 175, 3) := by decide +kernel
theorem dX8_mend_54 : decode cX8_mend 54 = .ok (.invokestatic 178, 3) := by decide +kernel
theorem dX8_mend_57 : decode cX8_mend 57 = .ok (.istore_n 2, 1) := by decide +kernel
theorem dX8_mend_58 : decode cX8_mend 58 = .ok (.aload_n 0, 1) := by decide +kernel
theorem dX8_mend_59 : decode cX8_mend 59 = .ok (.aload_n 0, 1) := by decide +kernel
theorem dX8_mend_60 : decode cX8_mend 60 = .ok (.getfield 60, 3) := by decide +kernel
theorem dX8_mend_63 : decode cX8_mend 63 = .ok (.getfield 166, 3) := by decide +kernel
theorem dX8_mend_66 : decode cX8_mend 66 = .ok (.iload_n 1, 1) := by decide +kernel
theorem dX8_mend_67 : decode cX8_mend 67 = .ok (.iaload, 1) := by decide +kernel
theorem dX8_mend_68 : decode cX8_mend 68 = .ok (.aload_n 0, 1) := by decide +kernel
theorem dX8_mend_69 : decode cX8_mend 69 = .ok (.getfield 60, 3) := by decide +kernel
theorem dX8_mend_72 : decode cX8_mend 72 = .ok (.iload_n 1, 1) := by decide +kernel
theorem dX8_mend_73 : decode cX8_mend 73 = .ok (.invokevirtual 184, 3) := by decide +kernel
theorem dX8_mend_76 : decode cX8_mend 76 = .ok (.iload_n 2, 1) := by decide +kernel
theorem dX8_mend_77 : decode cX8_mend 77 = .ok (.invokevirtual 118, 3) := by decide +kernel
theorem dX8_mend_80 : decode cX8_mend 80 = .ok (.iload_n 2, 1) := by decide +kernel
theorem dX8_mend_81 : decode cX8_mend 81 = .ok (.ireturn, 1) := by decide +kernel
theorem dX8_note_0 : decode cX8_note 0 = .ok (.aload_n 0, 1) := by decide +kernel
theorem dX8_note_1 : decode cX8_note 1 = .ok (.iload_n 1, 1) := by decide +kernel
theorem dX8_note_2 : decode cX8_note 2 = .ok (.iload_n 2, 1) := by decide +kernel
theorem dX8_note_3 : decode cX8_note 3 = .ok (.invokevirtual 106, 3) := by decide +kernel
theorem dX8_note_6 : decode cX8_note 6 = .ok (.ifCond .eq 30, 3) := by decide +kernel
theorem dX8_note_9 : decode cX8_note 9 = .ok (.aload_n 0, 1) := by decide +kernel
theorem dX8_note_10 : decode cX8_note 10 = .ok (.iload_n 1, 1) := by decide +kernel
theorem dX8_note_11 : decode cX8_note 11 = .ok (.iload_n 3, 1) := by decide +kernel
theorem dX8_note_12 : decode cX8_note 12 = .ok (.invokevirtual 106, 3) := by decide +kernel
theorem dX8_note_15 : decode cX8_note 15 = .ok (.ifCond .eq 21, 3) := by decide +kernel
theorem dX8_note_18 : decode cX8_note 18 = .ok (.iload_n 2, 1) := by decide +kernel
theorem dX8_note_19 : decode cX8_note 19 = .ok (.iload_n 3, 1) := by decide +kernel
theorem dX8_note_20 : decode cX8_note 20 = .ok (.if_icmp .gt 16, 3) := by decide +kernel
theorem dX8_note_23 : decode cX8_note 23 = .ok (.iload 4, 2) := by decide +kernel
theorem dX8_note_25 : decode cX8_note 25 = .ok (.iconst 1, 1) := by decide +kernel
theorem dX8_note_26 : decode cX8_note 26 = .ok (.if_icmp .lt 10, 3) := by decide +kernel
theorem dX8_note_29 : decode cX8_note 29 = .ok (.iload 4, 2) := by decide +kernel
theorem dX8_note_31 : decode cX8_note 31 = .ok (.bipush 9, 2) := by decide +kernel
theorem dX8_note_33 : decode cX8_note 33 = .ok (.if_icmp .le 5, 3) := by decide +kernel
theorem dX8_note_36 : decode cX8_note 36 = .ok (.iconst (-1), 1) := by decide +kernel
theorem dX8_note_37 : decode cX8_note 37 = .ok (.ireturn, 1) := by decide +kernel
theorem dX8_note_38 : decode cX8_note 38 = .ok (.aload_n 0, 1) := by decide +kernel
theorem dX8_note_39 : decode cX8_note 39 = .ok (.getfield 36, 3) := by decide +kernel
theorem dX8_note_42 : decode cX8_note 42 = .ok (.getfield 187, 3) := by decide +kernel
theorem dX8_note_45 : decode cX8_note 45 = .ok (.bipush 12, 2) := by decide +kernel
theorem dX8_note_47 : decode cX8_note 47 = .ok (.if_icmp .lt 6, 3) := by decide +kernel
theorem dX8_note_50 : decode cX8_note 50 = .ok (.bipush (-3), 2) := by decide +kernel
theorem dX8_note_52 : decode cX8_note 52 = .ok (.ireturn, 1) := by decide +kernel
theorem dX8_note_53 : decode cX8_note 53 = .ok (.aload_n 0, 1) := by decide +kernel
theorem dX8_note_54 : decode cX8_note 54 = .ok (.getfield 36, 3) := by decide +kernel
theorem dX8_note_57 : decode cX8_note 57 = .ok (.iload_n 1, 1) := by decide +kernel
theorem dX8_note_58 : decode cX8_note 58 = .ok (.iload_n 2, 1) := by decide +kernel
theorem dX8_note_59 : decode cX8_note 59 = .ok (.iload_n 3, 1) := by decide +kernel
theorem dX8_note_60 : decode cX8_note 60 = .ok (.iload 4, 2) := by decide +kernel
theorem dX8_note_62 : decode cX8_note 62 = .ok (.invokevirtual 188, 3) := by decide +kernel
theorem dX8_note_65 : decode cX8_note 65 = .ok (.aload_n 0, 1) := by decide +kernel
theorem dX8_note_66 : decode cX8_note 66 = .ok (.getfield 36, 3) := by decide +kernel
theorem dX8_note_69 : decode cX8_note 69 = .ok (.getfield 187, 3) := by decide +kernel
theorem dX8_note_72 : decode cX8_note 72 = .ok (.ireturn, 1) := by decide +kernel
theorem dX8_tint_0 : decode cX8_tint 0 = .ok (.aload_n 0, 1) := by decide +kernel
theorem dX8_tint_1 : decode cX8_tint 1 = .ok (.getfield 18, 3) := by decide +kernel
theorem dX8_tint_4 : decode cX8_tint 4 = .ok (.iload_n 1, 1) := by decide +kernel
theorem dX8_tint_5 : decode cX8_tint 5 = .ok (.invokevirtual 149, 3) := by decide +kernel
theorem dX8_tint_8 : decode cX8_tint 8 = .ok (.ifCond .ne 5, 3) := by decide +kernel
theorem dX8_tint_11 : decode cX8_tint 11 = .ok (.iconst (-1), 1) := by decide +kernel
theorem dX8_tint_12 : decode cX8_tint 12 = .ok (.ireturn, 1) := by decide +kernel
theorem dX8_tint_13 : decode cX8_tint 13 = .ok (.aload_n 0, 1) := by decide +kernel
theorem dX8_tint_14 : decode cX8_tint 14 = .ok (.getfield 60, 3) := by decide +kernel
theorem dX8_tint_17 : decode cX8_tint 17 = .ok (.invokevirtual 160, 3) := by decide +kernel
theorem dX8_tint_20 : decode cX8_tint 20 = .ok (.aload_n 0, 1) := by decide +kernel
theorem dX8_tint_21 : decode cX8_tint 21 = .ok (.getfield 60, 3) := by decide +kernel
theorem dX8_tint_24 : decode cX8_tint 24 = .ok (.getfield 166, 3) := by decide +kernel
theorem dX8_tint_27 : decode cX8_tint 27 = .ok (.iload_n 1, 1) := by decide +kernel
theorem dX8_tint_28 : decode cX8_tint 28 = .ok (.iaload, 1) := by decide +kernel
theorem dX8_tint_29 : decode cX8_tint 29 = .ok (.istore_n 2, 1) := by decide +kernel
theorem dX8_tint_30 : decode cX8_tint 30 = .ok (.iload_n 2, 1) := by decide +kernel
theorem dX8_tint_31 : decode cX8_tint 31 = .ok (.bipush 6, 2) := by decide +kernel
theorem dX8_tint_33 : decode cX8_tint 33 = .ok (.if_icmp .ne 7, 3) := by decide +kernel
theorem dX8_tint_36 : decode cX8_tint 36 = .ok (.iconst 0, 1) := by decide +kernel
theorem dX8_tint_37 : decode cX8_tint 37 = .ok (.goto 19, 3) := by decide +kernel
theorem dX8_tint_40 : decode cX8_tint 40 = .ok (.aload_n 0, 1) := by decide +kernel
theorem dX8_tint_41 : decode cX8_tint 41 = .ok (.getfield 36, 3) := by decide +kernel
theorem dX8_tint_44 : decode cX8_tint 44 = .ok (.iload_n 2, 1) := by decide +kernel
theorem dX8_tint_45 : decode cX8_tint 45 = .ok (.aload_n 0, 1) := by decide +kernel
theorem dX8_tint_46 : decode cX8_tint 46 = .ok (.getfield 60, 3) := by decide +kernel
theorem dX8_tint_49 : decode cX8_tint 49 = .ok (.iload_n 1, 1) := by decide +kernel
theorem dX8_tint_50 : decode cX8_tint 50 = .ok (.invokevirtual 184, 3) := by decide +kernel
theorem dX8_tint_53 : decode cX8_tint 53 = .ok (.invokevirtual 191, 3) := by decide +kernel
theorem dX8_tint_56 : decode cX8_tint 56 = .ok (.istore_n 3, 1) := by decide +kernel
theorem dX8_tint_57 : decode cX8_tint 57 = .ok (.iload_n 3, 1) := by decide +kernel
theorem dX8_tint_58 : decode cX8_tint 58 = .ok (.ifCond .eq 7, 3) := by decide +kernel
theorem dX8_tint_61 : decode cX8_tint 61 = .ok (.iload_n 3, 1) := by decide +kernel
theorem dX8_tint_62 : decode cX8_tint 62 = .ok (.goto 8, 3) := by decide +kernel
theorem dX8_tint_65 : decode cX8_tint 65 = .ok (.aload_n 0, 1) := by decide +kernel
theorem dX8_tint_66 : decode cX8_tint 66 = .ok (.iload_n 1, 1) := by decide +kernel
theorem dX8_tint_67 : decode cX8_tint 67 = .ok (.invokevirtual 194, 3) := by decide +kernel
theorem dX8_tint_70 : decode cX8_tint 70 = .ok (.ireturn, 1) := by decide +kernel
theorem dX8_cue_0 : decode cX8_cue 0 = .ok (.iload_n 1, 1) := by decide +kernel
theorem dX8_cue_1 : decode cX8_cue 1 = .ok (.iconst 5, 1) := by decide +kernel
theorem dX8_cue_2 : decode cX8_cue 2 = .ok (.invokestatic 72, 3) := by decide +kernel
theorem dX8_cue_5 : decode cX8_cue 5 = .ok (.ifCond .eq 27, 3) := by decide +kernel
theorem dX8_cue_8 : decode cX8_cue 8 = .ok (.iload_n 2, 1) := by decide +kernel
theorem dX8_cue_9 : decode cX8_cue 9 = .ok (.iconst 5, 1) := by decide +kernel
theorem dX8_cue_10 : decode cX8_cue 10 = .ok (.invokestatic 72, 3) := by decide +kernel
theorem dX8_cue_13 : decode cX8_cue 13 = .ok (.ifCond .eq 19, 3) := by decide +kernel
theorem dX8_cue_16 : decode cX8_cue 16 = .ok (.iload_n 1, 1) := by decide +kernel
theorem dX8_cue_17 : decode cX8_cue 17 = .ok (.iload_n 2, 1) := by decide +kernel
theorem dX8_cue_18 : decode cX8_cue 18 = .ok (.if_icmp .eq 14, 3) := by decide +kernel
theorem dX8_cue_21 : decode cX8_cue 21 = .ok (.iload_n 3, 1) := by decide +kernel
theorem dX8_cue_22 : decode cX8_cue 22 = .ok (.iconst 1, 1) := by decide +kernel
theorem dX8_cue_23 : decode cX8_cue 23 = .ok (.if_icmp .lt 9, 3) := by decide +kernel
theorem dX8_cue_26 : decode cX8_cue 26 = .ok (.iload_n 3, 1) := by decide +kernel
theorem dX8_cue_27 : decode cX8_cue 27 = .ok (.bipush 100, 2) := by decide +kernel
theorem dX8_cue_29 : decode cX8_cue 29 = .ok (.if_icmp .le 5, 3) := by decide +kernel
theorem dX8_cue_32 : decode cX8_cue 32 = .ok (.iconst (-1), 1) := by decide +kernel
theorem dX8_cue_33 : decode cX8_cue 33 = .ok (.ireturn, 1) := by decide +kernel
theorem dX8_cue_34 : decode cX8_cue 34 = .ok (.aload_n 0, 1) := by decide +kernel
theorem dX8_cue_35 : decode cX8_cue 35 = .ok (.getfield 43, 3) := by decide +kernel
theorem dX8_cue_38 : decode cX8_cue 38 = .ok (.getfield 197, 3) := by decide +kernel
theorem dX8_cue_41 : decode cX8_cue 41 = .ok (.bipush 20, 2) := by decide +kernel
theorem dX8_cue_43 : decode cX8_cue 43 = .ok (.if_icmp .lt 6, 3) := by decide +kernel
theorem dX8_cue_46 : decode cX8_cue 46 = .ok (.bipush (-3), 2) := by decide +kernel
theorem dX8_cue_48 : decode cX8_cue 48 = .ok (.ireturn, 1) := by decide +kernel
theorem dX8_cue_49 : decode cX8_cue 49 = .ok (.aload_n 0, 1) := by decide +kernel
theorem dX8_cue_50 : decode cX8_cue 50 = .ok (.getfield 43, 3) := by decide +kernel
theorem dX8_cue_53 : decode cX8_cue 53 = .ok (.iload_n 1, 1) := by decide +kernel
theorem dX8_cue_54 : decode cX8_cue 54 = .ok (.iload_n 2, 1) := by decide +kernel
theorem dX8_cue_55 : decode cX8_cue 55 = .ok (.iload_n 3, 1) := by decide +kernel
theorem dX8_cue_56 : decode cX8_cue 56 = .ok (.invokevirtual 198, 3) := by decide +kernel
theorem dX8_cue_59 : decode cX8_cue 59 = .ok (.aload_n 0, 1) := by decide +kernel
theorem dX8_cue_60 : decode cX8_cue 60 = .ok (.getfield 43, 3) := by decide +kernel
theorem dX8_cue_63 : decode cX8_cue 63 = .ok (.getfield 197, 3) := by decide +kernel
theorem dX8_cue_66 : decode cX8_cue 66 = .ok (.ireturn, 1) := by decide +kernel
theorem dX8_noCues_0 : decode cX8_noCues 0 = .ok (.aload_n 0, 1) := by decide +kernel
theorem dX8_noCues_1 : decode cX8_noCues 1 = .ok (.getfield 43, 3) := by decide +kernel
theorem dX8_noCues_4 : decode cX8_noCues 4 = .ok (.getfield 197, 3) := by decide +kernel
theorem dX8_noCues_7 : decode cX8_noCues 7 = .ok (.istore_n 1, 1) := by decide +kernel
theorem dX8_noCues_8 : decode cX8_noCues 8 = .ok (.aload_n 0, 1) := by decide +kernel
theorem dX8_noCues_9 : decode cX8_noCues 9 = .ok (.getfield 43, 3) := by decide +kernel
theorem dX8_noCues_12 : decode cX8_noCues 12 = .ok (.invokevirtual 199, 3) := by decide +kernel
theorem dX8_noCues_15 : decode cX8_noCues 15 = .ok (.iload_n 1, 1) := by decide +kernel
theorem dX8_noCues_16 : decode cX8_noCues 16 = .ok (.ireturn, 1) := by decide +kernel
theorem dX8_order_0 : decode cX8_order 0 = .ok (.iload_n 1, 1) := by decide +kernel
theorem dX8_order_1 : decode cX8_order 1 = .ok (.iconst 2, 1) := by decide +kernel
theorem dX8_order_2 : decode cX8_order 2 = .ok (.if_icmp .lt 15, 3) := by decide +kernel
theorem dX8_order_5 : decode cX8_order 5 = .ok (.iload_n 1, 1) := by decide +kernel
theorem dX8_order_6 : decode cX8_order 6 = .ok (.bipush 6, 2) := by decide +kernel
theorem dX8_order_8 : decode cX8_order 8 = .ok (.if_icmp .gt 9, 3) := by decide +kernel
theorem dX8_order_11 : decode cX8_order 11 = .ok (.iload_n 2, 1) := by decide +kernel
theorem dX8_order_12 : decode cX8_order 12 = .ok (.bipush (-2), 2) := by decide +kernel
theorem dX8_order_14 : decode cX8_order 14 = .ok (.if_icmp .ge 5, 3) := by decide +kernel
theorem dX8_order_17 : decode cX8_order 17 = .ok (.iconst (-1), 1) := by decide +kernel
theorem dX8_order_18 : decode cX8_order 18 = .ok (.ireturn, 1) := by decide +kernel
theorem dX8_order_19 : decode cX8_order 19 = .ok (.iload_n 2, 1) := by decide +kernel
theorem dX8_order_20 : decode cX8_order 20 = .ok (.iload_n 1, 1) := by decide +kernel
theorem dX8_order_21 : decode cX8_order 21 = .ok (.if_icmp .lt 6, 3) := by decide +kernel
theorem dX8_order_24 : decode cX8_order 24 = .ok (.bipush (-4), 2) := by decide +kernel
theorem dX8_order_26 : decode cX8_order 26 = .ok (.ireturn, 1) := by decide +kernel
theorem dX8_order_27 : decode cX8_order 27 = .ok (.aload_n 0, 1) := by decide +kernel
theorem dX8_order_28 : decode cX8_order 28 = .ok (.getfield 43, 3) := by decide +kernel
theorem dX8_order_31 : decode cX8_order 31 = .ok (.iload_n 1, 1) := by decide +kernel
theorem dX8_order_32 : decode cX8_order 32 = .ok (.invokevirtual 202, 3) := by decide +kernel
theorem dX8_order_35 : decode cX8_order 35 = .ok (.iload_n 2, 1) := by decide +kernel
theorem dX8_order_36 : decode cX8_order 36 = .ok (.bipush (-2), 2) := by decide +kernel
theorem dX8_order_38 : decode cX8_order 38 = .ok (.if_icmp .ne 11, 3) := by decide +kernel
theorem dX8_order_41 : decode cX8_order 41 = .ok (.aload_n 0, 1) := by decide +kernel
theorem dX8_order_42 : decode cX8_order 42 = .ok (.getfield 43, 3) := by decide +kernel
theorem dX8_order_45 : decode cX8_order 45 = .ok (.invokevirtual 205, 3) := by decide +kernel
theorem dX8_order_48 : decode cX8_order 48 = .ok (.ireturn, 1) := by decide +kernel
theorem dX8_order_49 : decode cX8_order 49 = .ok (.iload_n 2, 1) := by decide +kernel
theorem dX8_order_50 : decode cX8_order 50 = .ok (.iconst (-1), 1) := by decide +kernel
theorem dX8_order_51 : decode cX8_order 51 = .ok (.if_icmp .ne 13, 3) := by decide +kernel
theorem dX8_order_54 : decode cX8_order 54 = .ok (.aload_n 0, 1) := by decide +kernel
theorem dX8_order_55 : decode cX8_order 55 = .ok (.getfield 43, 3) := by decide +kernel
theorem dX8_order_58 : decode cX8_order 58 = .ok (.invokevirtual 208, 3) := by decide +kernel
theorem dX8_order_61 : decode cX8_order 61 = .ok (.goto 12, 3) := by decide +kernel
theorem dX8_order_64 : decode cX8_order 64 = .ok (.aload_n 0, 1) := by decide +kernel
theorem dX8_order_65 : decode cX8_order 65 = .ok (.getfield 43, 3) := by decide +kernel
theorem dX8_order_68 : decode cX8_order 68 = .ok (.getfield 211, 3) := by decide +kernel
theorem dX8_order_71 : decode cX8_order 71 = .ok (.iload_n 2, 1) := by decide +kernel
theorem dX8_order_72 : decode cX8_order 72 = .ok (.iaload, 1) := by decide +kernel
theorem dX8_order_73 : decode cX8_order 73 = .ok (.ireturn, 1) := by decide +kernel
theorem dX8_undo_0 : decode cX8_undo 0 = .ok (.aload_n 0, 1) := by decide +kernel
theorem dX8_undo_1 : decode cX8_undo 1 = .ok (.getfield 50, 3) := by decide +kernel
theorem dX8_undo_4 : decode cX8_undo 4 = .ok (.getfield 214, 3) := by decide +kernel
theorem dX8_undo_7 : decode cX8_undo 7 = .ok (.ifCond .ne 6, 3) := by decide +kernel
theorem dX8_undo_10 : decode cX8_undo 10 = .ok (.bipush (-2), 2) := by decide +kernel
theorem dX8_undo_12 : decode cX8_undo 12 = .ok (.ireturn, 1) := by decide +kernel
theorem dX8_undo_13 : decode cX8_undo 13 = .ok (.aload_n 0, 1) := by decide +kernel
theorem dX8_undo_14 : decode cX8_undo 14 = .ok (.getfield 50, 3) := by decide +kernel
theorem dX8_undo_17 : decode cX8_undo 17 = .ok (.dup, 1) := by decide +kernel
theorem dX8_undo_18 : decode cX8_undo 18 = .ok (.getfield 214, 3) := by decide +kernel
theorem dX8_undo_21 : decode cX8_undo 21 = .ok (.iconst 1, 1) := by decide +kernel
theorem dX8_undo_22 : decode cX8_undo 22 = .ok (.isub, 1) := by decide +kernel
theorem dX8_undo_23 : decode cX8_undo 23 = .ok (.putfield 214, 3) := by decide +kernel
theorem dX8_undo_26 : decode cX8_undo 26 = .ok (.aload_n 0, 1) := by decide +kernel
theorem dX8_undo_27 : decode cX8_undo 27 = .ok (.getfield 50, 3) := by decide +kernel
theorem dX8_undo_30 : decode cX8_undo 30 = .ok (.getfield 215, 3) := by decide +kernel
theorem dX8_undo_33 : decode cX8_undo 33 = .ok (.aload_n 0, 1) := by decide +kernel
theorem dX8_undo_34 : decode cX8_undo 34 = .ok (.getfield 50, 3) := by decide +kernel
theorem dX8_undo_37 : decode cX8_undo 37 = .ok (.getfield 214, 3) := by decide +kernel
theorem dX8_undo_40 : decode cX8_undo 40 = .ok (.iaload, 1) := by decide +kernel
theorem dX8_undo_41 : decode cX8_undo 41 = .ok (.istore_n 1, 1) := by decide +kernel
theorem dX8_undo_42 : decode cX8_undo 42 = .ok (.aload_n 0, 1) := by decide +kernel
theorem dX8_undo_43 : decode cX8_undo 43 = .ok (.getfield 50, 3) := by decide +kernel
theorem dX8_undo_46 : decode cX8_undo 46 = .ok (.getfield 217, 3) := by decide +kernel
theorem dX8_undo_49 : decode cX8_undo 49 = .ok (.aload_n 0, 1) := by decide +kernel
theorem dX8_undo_50 : decode cX8_undo 50 = .ok (.getfield 50, 3) := by decide +kernel
theorem dX8_undo_53 : decode cX8_undo 53 = .ok (.getfield 214, 3) := by decide +kernel
theorem dX8_undo_56 : decode cX8_undo 56 = .ok (.iaload, 1) := by decide +kernel
theorem dX8_undo_57 : decode cX8_undo 57 = .ok (.istore_n 2, 1) := by decide +kernel
theorem dX8_undo_58 : decode cX8_undo 58 = .ok (.aload_n 0, 1) := by decide +kernel
theorem dX8_undo_59 : decode cX8_undo 59 = .ok (.getfield 11, 3) := by decide +kernel
theorem dX8_undo_62 : decode cX8_undo 62 = .ok (.iload_n 1, 1) := by decide +kernel
theorem dX8_undo_63 : decode cX8_undo 63 = .ok (.aaload, 1) := by decide +kernel
theorem dX8_undo_64 : decode cX8_undo 64 = .ok (.getfield 112, 3) := by decide +kernel
theorem dX8_undo_67 : decode cX8_undo 67 = .ok (.iload_n 2, 1) := by decide +kernel
theorem dX8_undo_68 : decode cX8_undo 68 = .ok (.aload_n 0, 1) := by decide +kernel
theorem dX8_undo_69 : decode cX8_undo 69 = .ok (.getfield 50, 3) := by decide +kernel
theorem dX8_undo_72 : decode cX8_undo 72 = .ok (.getfield 220, 3) := by decide +kernel
theorem dX8_undo_75 : decode cX8_undo 75 = .ok (.aload_n 0, 1) := by decide +kernel
theorem dX8_undo_76 : decode cX8_undo 76 = .ok (.getfield 50, 3) := by decide +kernel
theorem dX8_undo_79 : decode cX8_undo 79 = .ok (.getfield 214, 3) := by decide +kernel
theorem dX8_undo_82 : decode cX8_undo 82 = .ok (.iaload, 1) := by decide +kernel
theorem dX8_undo_83 : decode cX8_undo 83 = .ok (.iastore, 1) := by decide +kernel
theorem dX8_undo_84 : decode cX8_undo 84 = .ok (.iload_n 1, 1) := by decide +kernel
theorem dX8_undo_85 : decode cX8_undo 85 = .ok (.bipush 100, 2) := by decide +kernel
theorem dX8_undo_87 : decode cX8_undo 87 = .ok (.imul, 1) := by decide +kernel
theorem dX8_undo_88 : decode cX8_undo 88 = .ok (.iload_n 2, 1) := by decide +kernel
theorem dX8_undo_89 : decode cX8_undo 89 = .ok (.iadd, 1) := by decide +kernel
theorem dX8_undo_90 : decode cX8_undo 90 = .ok (.ireturn, 1) := by decide +kernel
theorem dX8_count_0 : decode cX8_count 0 = .ok (.iload_n 1, 1) := by decide +kernel
theorem dX8_count_1 : decode cX8_count 1 = .ok (.tableswitch 72 0 4 #[35, 40, 48, 56, 64], 35) := by decide +kernel
theorem dX8_count_36 : decode cX8_count 36 = .ok (.aload_n 0, 1) := by decide +kernel
theorem dX8_count_37 : decode cX8_count 37 = .ok (.getfield 64, 3) := by decide +kernel
theorem dX8_count_40 : decode cX8_count 40 = .ok (.ireturn, 1) := by decide +kernel
theorem dX8_count_41 : decode cX8_count 41 = .ok (.aload_n 0, 1) := by decide +kernel
theorem dX8_count_42 : decode cX8_count 42 = .ok (.getfield 18, 3) := by decide +kernel
theorem dX8_count_45 : decode cX8_count 45 = .ok (.getfield 121, 3) := by decide +kernel
theorem dX8_count_48 : decode cX8_count 48 = .ok (.ireturn, 1) := by decide +kernel
theorem dX8_count_49 : decode cX8_count 49 = .ok (.aload_n 0, 1) := by decide +kernel
theorem dX8_count_50 : decode cX8_count 50 = .ok (.getfield 36, 3) := by decide +kernel
theorem dX8_count_53 : decode cX8_count 53 = .ok (.getfield 187, 3) := by decide +kernel
theorem dX8_count_56 : decode cX8_count 56 = .ok (.ireturn, 1) := by decide +kernel
theorem dX8_count_57 : decode cX8_count 57 = .ok (.aload_n 0, 1) := by decide +kernel
theorem dX8_count_58 : decode cX8_count 58 = .ok (.getfield 43, 3) := by decide +kernel
theorem dX8_count_61 : decode cX8_count 61 = .ok (.getfield 197, 3) := by decide +kernel
theorem dX8_count_64 : decode cX8_count 64 = .ok (.ireturn, 1) := by decide +kernel
theorem dX8_count_65 : decode cX8_count 65 = .ok (.aload_n 0, 1) := by decide +kernel
theorem dX8_count_66 : decode cX8_count 66 = .ok (.getfield 50, 3) := by decide +kernel
theorem dX8_count_69 : decode cX8_count 69 = .ok (.getfield 214, 3) := by decide +kernel
theorem dX8_count_72 : decode cX8_count 72 = .ok (.ireturn, 1) := by decide +kernel
theorem dX8_count_73 : decode cX8_count 73 = .ok (.iconst (-1), 1) := by decide +kernel
theorem dX8_count_74 : decode cX8_count 74 = .ok (.ireturn, 1) := by decide +kernel
theorem dX8_isWithin_0 : decode cX8_isWithin 0 = .ok (.iload_n 0, 1) := by decide +kernel
theorem dX8_isWithin_1 : decode cX8_isWithin 1 = .ok (.ifCond .lt 12, 3) := by decide +kernel
theorem dX8_isWithin_4 : decode cX8_isWithin 4 = .ok (.iload_n 0, 1) := by decide +kernel
theorem dX8_isWithin_5 : decode cX8_isWithin 5 = .ok (.iload_n 1, 1) := by decide +kernel
theorem dX8_isWithin_6 : decode cX8_isWithin 6 = .ok (.if_icmp .gt 7, 3) := by decide +kernel
theorem dX8_isWithin_9 : decode cX8_isWithin 9 = .ok (.iconst 1, 1) := by decide +kernel
theorem dX8_isWithin_10 : decode cX8_isWithin 10 = .ok (.goto 4, 3) := by decide +kernel
theorem dX8_isWithin_13 : decode cX8_isWithin 13 = .ok (.iconst 0, 1) := by decide +kernel
theorem dX8_isWithin_14 : decode cX8_isWithin 14 = .ok (.ireturn, 1) := by decide +kernel
theorem dX8_isCopy_0 : decode cX8_isCopy 0 = .ok (.iload_n 1, 1) := by decide +kernel
theorem dX8_isCopy_1 : decode cX8_isCopy 1 = .ok (.ifCond .lt 15, 3) := by decide +kernel
theorem dX8_isCopy_4 : decode cX8_isCopy 4 = .ok (.iload_n 1, 1) := by decide +kernel
theorem dX8_isCopy_5 : decode cX8_isCopy 5 = .ok (.aload_n 0, 1) := by decide +kernel
theorem dX8_isCopy_6 : decode cX8_isCopy 6 = .ok (.getfield 64, 3) := by decide +kernel
theorem dX8_isCopy_9 : decode cX8_isCopy 9 = .ok (.if_icmp .ge 7, 3) := by decide +kernel
theorem dX8_isCopy_12 : decode cX8_isCopy 12 = .ok (.iconst 1, 1) := by decide +kernel
theorem dX8_isCopy_13 : decode cX8_isCopy 13 = .ok (.goto 4, 3) := by decide +kernel
theorem dX8_isCopy_16 : decode cX8_isCopy 16 = .ok (.iconst 0, 1) := by decide +kernel
theorem dX8_isCopy_17 : decode cX8_isCopy 17 = .ok (.ireturn, 1) := by decide +kernel
theorem dX8_isFrame_0 : decode cX8_isFrame 0 = .ok (.aload_n 0, 1) := by decide +kernel
theorem dX8_isFrame_1 : decode cX8_isFrame 1 = .ok (.iload_n 1, 1) := by decide +kernel
theorem dX8_isFrame_2 : decode cX8_isFrame 2 = .ok (.invokevirtual 68, 3) := by decide +kernel
theorem dX8_isFrame_5 : decode cX8_isFrame 5 = .ok (.ifCond .eq 24, 3) := by decide +kernel
theorem dX8_isFrame_8 : decode cX8_isFrame 8 = .ok (.iload_n 2, 1) := by decide +kernel
theorem dX8_isFrame_9 : decode cX8_isFrame 9 = .ok (.ifCond .lt 20, 3) := by decide +kernel
theorem dX8_isFrame_12 : decode cX8_isFrame 12 = .ok (.iload_n 2, 1) := by decide +kernel
theorem dX8_isFrame_13 : decode cX8_isFrame 13 = .ok (.aload_n 0, 1) := by decide +kernel
theorem dX8_isFrame_14 : decode cX8_isFrame 14 = .ok (.getfield 11, 3) := by decide +kernel
theorem dX8_isFrame_17 : decode cX8_isFrame 17 = .ok (.iload_n 1, 1) := by decide +kernel
theorem dX8_isFrame_18 : decode cX8_isFrame 18 = .ok (.aaload, 1) := by decide +kernel
theorem dX8_isFrame_19 : decode cX8_isFrame 19 = .ok (.getfield 83, 3) := by decide +kernel
theorem dX8_isFrame_22 : decode cX8_isFrame 22 = .ok (.if_icmp .ge 7, 3) := by decide +kernel
theorem dX8_isFrame_25 : decode cX8_isFrame 25 = .ok (.iconst 1, 1) := by decide +kernel
theorem dX8_isFrame_26 : decode cX8_isFrame 26 = .ok (.goto 4, 3) := by decide +kernel
theorem dX8_isFrame_29 : decode cX8_isFrame 29 = .ok (.iconst 0, 1) := by decide +kernel
theorem dX8_isFrame_30 : decode cX8_isFrame 30 = .ok (.ireturn, 1) := by decide +kernel
theorem dX8_isRow_0 : decode cX8_isRow 0 = .ok (.iload_n 1, 1) := by decide +kernel
theorem dX8_isRow_1 : decode cX8_isRow 1 = .ok (.iconst (-1), 1) := by decide +kernel
theorem dX8_isRow_2 : decode cX8_isRow 2 = .ok (.if_icmp .eq 11, 3) := by decide +kernel
theorem dX8_isRow_5 : decode cX8_isRow 5 = .ok (.aload_n 0, 1) := by decide +kernel
theorem dX8_isRow_6 : decode cX8_isRow 6 = .ok (.iload_n 1, 1) := by decide +kernel
theorem dX8_isRow_7 : decode cX8_isRow 7 = .ok (.invokevirtual 68, 3) := by decide +kernel
theorem dX8_isRow_10 : decode cX8_isRow 10 = .ok (.ifCond .eq 7, 3) := by decide +kernel
theorem dX8_isRow_13 : decode cX8_isRow 13 = .ok (.iconst 1, 1) := by decide +kernel
theorem dX8_isRow_14 : decode cX8_isRow 14 = .ok (.goto 4, 3) := by decide +kernel
theorem dX8_isRow_17 : decode cX8_isRow 17 = .ok (.iconst 0, 1) := by decide +kernel
theorem dX8_isRow_18 : decode cX8_isRow 18 = .ok (.ireturn, 1) := by decide +kernel
theorem dX8_sizeOfRow_0 : decode cX8_sizeOfRow 0 = .ok (.iload_n 1, 1) := by decide +kernel
theorem dX8_sizeOfRow_1 : decode cX8_sizeOfRow 1 = .ok (.iconst (-1), 1) := by decide +kernel
theorem dX8_sizeOfRow_2 : decode cX8_sizeOfRow 2 = .ok (.if_icmp .ne 13, 3) := by decide +kernel
theorem dX8_sizeOfRow_5 : decode cX8_sizeOfRow 5 = .ok (.aload_n 0, 1) := by decide +kernel
theorem dX8_sizeOfRow_6 : decode cX8_sizeOfRow 6 = .ok (.getfield 18, 3) := by decide +kernel
theorem dX8_sizeOfRow_9 : decode cX8_sizeOfRow 9 = .ok (.getfield 121, 3) := by decide +kernel
theorem dX8_sizeOfRow_12 : decode cX8_sizeOfRow 12 = .ok (.goto 12, 3) := by decide +kernel
theorem dX8_sizeOfRow_15 : decode cX8_sizeOfRow 15 = .ok (.aload_n 0, 1) := by decide +kernel
theorem dX8_sizeOfRow_16 : decode cX8_sizeOfRow 16 = .ok (.getfield 11, 3) := by decide +kernel
theorem dX8_sizeOfRow_19 : decode cX8_sizeOfRow 19 = .ok (.iload_n 1, 1) := by decide +kernel
theorem dX8_sizeOfRow_20 : decode cX8_sizeOfRow 20 = .ok (.aaload, 1) := by decide +kernel
theorem dX8_sizeOfRow_21 : decode cX8_sizeOfRow 21 = .ok (.getfield 83, 3) := by decide +kernel
theorem dX8_sizeOfRow_24 : decode cX8_sizeOfRow 24 = .ok (.ireturn, 1) := by decide +kernel
theorem dX8_marksOfRow_0 : decode cX8_marksOfRow 0 = .ok (.iload_n 1, 1) := by decide +kernel
theorem dX8_marksOfRow_1 : decode cX8_marksOfRow 1 = .ok (.iconst (-1), 1) := by decide +kernel
theorem dX8_marksOfRow_2 : decode cX8_marksOfRow 2 = .ok (.if_icmp .ne 13, 3) := by decide +kernel
theorem dX8_marksOfRow_5 : decode cX8_marksOfRow 5 = .ok (.aload_n 0, 1) := by decide +kernel
theorem dX8_marksOfRow_6 : decode cX8_marksOfRow 6 = .ok (.getfield 18, 3) := by decide +kernel
theorem dX8_marksOfRow_9 : decode cX8_marksOfRow 9 = .ok (.getfield 221, 3) := by decide +kernel
theorem dX8_marksOfRow_12 : decode cX8_marksOfRow 12 = .ok (.goto 12, 3) := by decide +kernel
theorem dX8_marksOfRow_15 : decode cX8_marksOfRow 15 = .ok (.aload_n 0, 1) := by decide +kernel
theorem dX8_marksOfRow_16 : decode cX8_marksOfRow 16 = .ok (.getfield 11, 3) := by decide +kernel
theorem dX8_marksOfRow_19 : decode cX8_marksOfRow 19 = .ok (.iload_n 1, 1) := by decide +kernel
theorem dX8_marksOfRow_20 : decode cX8_marksOfRow 20 = .ok (.aaload, 1) := by decide +kernel
theorem dX8_marksOfRow_21 : decode cX8_marksOfRow 21 = .ok (.getfield 109, 3) := by decide +kernel
theorem dX8_marksOfRow_24 : decode cX8_marksOfRow 24 = .ok (.areturn, 1) := by decide +kernel
theorem dX8_changeWear_0 : decode cX8_changeWear 0 = .ok (.aload_n 0, 1) := by decide +kernel
theorem dX8_changeWear_1 : decode cX8_changeWear 1 = .ok (.getfield 11, 3) := by decide +kernel
theorem dX8_changeWear_4 : decode cX8_changeWear 4 = .ok (.iload_n 1, 1) := by decide +kernel
theorem dX8_changeWear_5 : decode cX8_changeWear 5 = .ok (.aaload, 1) := by decide +kernel
theorem dX8_changeWear_6 : decode cX8_changeWear 6 = .ok (.getfield 112, 3) := by decide +kernel
theorem dX8_changeWear_9 : decode cX8_changeWear 9 = .ok (.astore 4, 2) := by decide +kernel
theorem dX8_changeWear_11 : decode cX8_changeWear 11 = .ok (.aload_n 0, 1) := by decide +kernel
theorem dX8_changeWear_12 : decode cX8_changeWear 12 = .ok (.getfield 50, 3) := by decide +kernel
theorem dX8_changeWear_15 : decode cX8_changeWear 15 = .ok (.iload_n 1, 1) := by decide +kernel
theorem dX8_changeWear_16 : decode cX8_changeWear 16 = .ok (.iload_n 2, 1) := by decide +kernel
theorem dX8_changeWear_17 : decode cX8_changeWear 17 = .ok (.aload 4, 2) := by decide +kernel
theorem dX8_changeWear_19 : decode cX8_changeWear 19 = .ok (.iload_n 2, 1) := by decide +kernel
theorem dX8_changeWear_20 : decode cX8_changeWear 20 = .ok (.iaload, 1) := by decide +kernel
theorem dX8_changeWear_21 : decode cX8_changeWear 21 = .ok (.invokevirtual 222, 3) := by decide +kernel
theorem dX8_changeWear_24 : decode cX8_changeWear 24 = .ok (.aload 4, 2) := by decide +kernel
theorem dX8_changeWear_26 : decode cX8_changeWear 26 = .ok (.iload_n 2, 1) := by decide +kernel
theorem dX8_changeWear_27 : decode cX8_changeWear 27 = .ok (.iload_n 3, 1) := by decide +kernel
theorem dX8_changeWear_28 : decode cX8_changeWear 28 = .ok (.iastore, 1) := by decide +kernel
theorem dX8_changeWear_29 : decode cX8_changeWear 29 = .ok (.return_, 1) := by decide +kernel
theorem dX8_isCounted_0 : decode cX8_isCounted 0 = .ok (.iload_n 1, 1) := by decide +kernel
theorem dX8_isCounted_1 : decode cX8_isCounted 1 = .ok (.lookupswitch 56 #[(0, 27), (1, 47)], 27) := by decide +kernel
theorem dX8_isCounted_28 : decode cX8_isCounted 28 = .ok (.aload_n 0, 1) := by decide +kernel
theorem dX8_isCounted_29 : decode cX8_isCounted 29 = .ok (.getfield 60, 3) := by decide +kernel
theorem dX8_isCounted_32 : decode cX8_isCounted 32 = .ok (.getfield 166, 3) := by decide +kernel
theorem dX8_isCounted_35 : decode cX8_isCounted 35 = .ok (.iload_n 2, 1) := by decide +kernel
theorem dX8_isCounted_36 : decode cX8_isCounted 36 = .ok (.iaload, 1) := by decide +kernel
theorem dX8_isCounted_37 : decode cX8_isCounted 37 = .ok (.bipush 6, 2) := by decide +kernel
theorem dX8_isCounted_39 : decode cX8_isCounted 39 = .ok (.if_icmp .ne 7, 3) := by decide +kernel
theorem dX8_isCounted_42 : decode cX8_isCounted 42 = .ok (.iconst 1, 1) := by decide +kernel
theorem dX8_isCounted_43 : decode cX8_isCounted 43 = .ok (.goto 4, 3) := by decide +kernel
theorem dX8_isCounted_46 : decode cX8_isCounted 46 = .ok (.iconst 0, 1) := by decide +kernel
theorem dX8_isCounted_47 : decode cX8_isCounted 47 = .ok (.ireturn, 1) := by decide +kernel
theorem dX8_isCounted_48 : decode cX8_isCounted 48 = .ok (.aload_n 0, 1) := by decide +kernel
theorem dX8_isCounted_49 : decode cX8_isCounted 49 = .ok (.getfield 60, 3) := by decide +kernel
theorem dX8_isCounted_52 : decode cX8_isCounted 52 = .ok (.iload_n 2, 1) := by decide +kernel
theorem dX8_isCounted_53 : decode cX8_isCounted 53 = .ok (.invokevirtual 225, 3) := by decide +kernel
theorem dX8_isCounted_56 : decode cX8_isCounted 56 = .ok (.ireturn, 1) := by decide +kernel
theorem dX8_isCounted_57 : decode cX8_isCounted 57 = .ok (.aload_n 0, 1) := by decide +kernel
theorem dX8_isCounted_58 : decode cX8_isCounted 58 = .ok (.getfield 60, 3) := by decide +kernel
theorem dX8_isCounted_61 : decode cX8_isCounted 61 = .ok (.iload_n 2, 1) := by decide +kernel
theorem dX8_isCounted_62 : decode cX8_isCounted 62 = .ok (.invokevirtual 228, 3) := by decide +kernel
theorem dX8_isCounted_65 : decode cX8_isCounted 65 = .ok (.ireturn, 1) := by decide +kernel
theorem dX8_tintOfLeastWorn_0 : decode cX8_tintOfLeastWorn 0 = .ok (.bipush 10, 2) := by decide +kernel
theorem dX8_tintOfLeastWorn_2 : decode cX8_tintOfLeastWorn 2 = .ok (.istore_n 2, 1) := by decide +kernel
theorem dX8_tintOfLeastWorn_3 : decode cX8_tintOfLeastWorn 3 = .ok (.iconst 0, 1) := by decide +kernel
theorem dX8_tintOfLeastWorn_4 : decode cX8_tintOfLeastWorn 4 = .ok (.istore_n 3, 1) := by decide +kernel
theorem dX8_tintOfLeastWorn_5 : decode cX8_tintOfLeastWorn 5 = .ok (.iconst 0, 1) := by decide +kernel
theorem dX8_tintOfLeastWorn_6 : decode cX8_tintOfLeastWorn 6 = .ok (.istore 4, 2) := by decide +kernel
theorem dX8_tintOfLeastWorn_8 : decode cX8_tintOfLeastWorn 8 = .ok (.iload 4, 2) := by decide +kernel
theorem dX8_tintOfLeastWorn_10 : decode cX8_tintOfLeastWorn 10 = .ok (.aload_n 0, 1) := by decide +kernel
theorem dX8_tintOfLeastWorn_11 : decode cX8_tintOfLeastWorn 11 = .ok (.getfield 64, 3) := by decide +kernel
theorem dX8_tintOfLeastWorn_14 : decode cX8_tintOfLeastWorn 14 = .ok (.if_icmp .ge 86, 3) := by decide +kernel
theorem dX8_tintOfLeastWorn_17 : decode cX8_tintOfLeastWorn 17 = .ok (.aload_n 0, 1) := by decide +kernel
theorem dX8_tintOfLeastWorn_18 : decode cX8_tintOfLeastWorn 18 = .ok (.getfield 60, 3) := by decide +kernel
theorem dX8_tintOfLeastWorn_21 : decode cX8_tintOfLeastWorn 21 = .ok (.getfield 156, 3) := by decide +kernel
theorem dX8_tintOfLeastWorn_24 : decode cX8_tintOfLeastWorn 24 = .ok (.iload 4, 2) := by decide +kernel
theorem dX8_tintOfLeastWorn_26 : decode cX8_tintOfLeastWorn 26 = .ok (.aaload, 1) := by decide +kernel
theorem dX8_tintOfLeastWorn_27 : decode cX8_tintOfLeastWorn 27 = .ok (.iload_n 1, 1) := by decide +kernel
theorem dX8_tintOfLeastWorn_28 : decode cX8_tintOfLeastWorn 28 = .ok (.iaload, 1) := by decide +kernel
theorem dX8_tintOfLeastWorn_29 : decode cX8_tintOfLeastWorn 29 = .ok (.istore 5, 2) := by decide +kernel
theorem dX8_tintOfLeastWorn_31 : decode cX8_tintOfLeastWorn 31 = .ok (.iload 5, 2) := by decide +kernel
theorem dX8_tintOfLeastWorn_33 : decode cX8_tintOfLeastWorn 33 = .ok (.bipush (-4), 2) := by decide +kernel
theorem dX8_tintOfLeastWorn_35 : decode cX8_tintOfLeastWorn 35 = .ok (.if_icmp .ne 7, 3) := by decide +kernel
theorem dX8_tintOfLeastWorn_38 : decode cX8_tintOfLeastWorn 38 = .ok (.iconst 0, 1) := by decide +kernel
theorem dX8_tintOfLeastWorn_39 : decode cX8_tintOfLeastWorn 39 = .ok (.goto 14, 3) := by decide +kernel
theorem dX8_tintOfLeastWorn_42 : decode cX8_tintOfLeastWorn 42 = .ok (.aload_n 0, 1) := by decide +kernel
theorem dX8_tintOfLeastWorn_43 : decode cX8_tintOfLeastWorn 43 = .ok (.getfield 36, 3) := by decide +kernel
theorem dX8_tintOfLeastWorn_46 : decode cX8_tintOfLeastWorn 46 = .ok (.iload 4, 2) := by decide +kernel
theorem dX8_tintOfLeastWorn_48 : decode cX8_tintOfLeastWorn 48 = .ok (.iload 5, 2) := by decide +kernel
theorem dX8_tintOfLeastWorn_50 : decode cX8_tintOfLeastWorn 50 = .ok (.invokevirtual 191, 3) := by decide +kernel
theorem dX8_tintOfLeastWorn_53 : decode cX8_tintOfLeastWorn 53 = .ok (.istore 6, 2) := by decide +kernel
theorem dX8_tintOfLeastWorn_55 : decode cX8_tintOfLeastWorn 55 = .ok (.iload 6, 2) := by decide +kernel
theorem dX8_tintOfLeastWorn_57 : decode cX8_tintOfLeastWorn 57 = .ok (.ifCond .eq 37, 3) := by decide +kernel
theorem dX8_tintOfLeastWorn_60 : decode cX8_tintOfLeastWorn 60 = .ok (.aload_n 0, 1) := by decide +kernel
theorem dX8_tintOfLeastWorn_61 : decode cX8_tintOfLeastWorn 61 = .ok (.getfield 11, 3) := by decide +kernel
theorem dX8_tintOfLeastWorn_64 : decode cX8_tintOfLeastWorn 64 = .ok (.iload 4, 2) := by decide +kernel
theorem dX8_tintOfLeastWorn_66 : decode cX8_tintOfLeastWorn 66 = .ok (.aaload, 1) := by decide +kernel
theorem dX8_tintOfLeastWorn_67 : decode cX8_tintOfLeastWorn 67 = .ok (.getfield 112, 3) := by decide +kernel
theorem dX8_tintOfLeastWorn_70 : decode cX8_tintOfLeastWorn 70 = .ok (.iload 5, 2) := by decide +kernel
theorem dX8_tintOfLeastWorn_72 : decode cX8_tintOfLeastWorn 72 = .ok (.iaload, 1) := by decide +kernel
theorem dX8_tintOfLeastWorn_73 : decode cX8_tintOfLeastWorn 73 = .ok (.iload_n 2, 1) := by decide +kernel
theorem dX8_tintOfLeastWorn_74 : decode cX8_tintOfLeastWorn 74 = .ok (.if_icmp .ge 20, 3) := by decide +kernel
theorem dX8_tintOfLeastWorn_77 : decode cX8_tintOfLeastWorn 77 = .ok (.aload_n 0, 1) := by decide +kernel
theorem dX8_tintOfLeastWorn_78 : decode cX8_tintOfLeastWorn 78 = .ok (.getfield 11, 3) := by decide +kernel
theorem dX8_tintOfLeastWorn_81 : decode cX8_tintOfLeastWorn 81 = .ok (.iload 4, 2) := by decide +kernel
theorem dX8_tintOfLeastWorn_83 : decode cX8_tintOfLeastWorn 83 = .ok (.aaload, 1) := by decide +kernel
theorem dX8_tintOfLeastWorn_84 : decode cX8_tintOfLeastWorn 84 = .ok (.getfield 112, 3) := by decide +kernel
theorem dX8_tintOfLeastWorn_87 : decode cX8_tintOfLeastWorn 87 = .ok (.iload 5, 2) := by decide +kernel
theorem dX8_tintOfLeastWorn_89 : decode cX8_tintOfLeastWorn 89 = .ok (.iaload, 1) := by decide +kernel
theorem dX8_tintOfLeastWorn_90 : decode cX8_tintOfLeastWorn 90 = .ok (.istore_n 2, 1) := by decide +kernel
theorem dX8_tintOfLeastWorn_91 : decode cX8_tintOfLeastWorn 91 = .ok (.iload 6, 2) := by decide +kernel
theorem dX8_tintOfLeastWorn_93 : decode cX8_tintOfLeastWorn 93 = .ok (.istore_n 3, 1) := by decide +kernel
theorem dX8_tintOfLeastWorn_94 : decode cX8_tintOfLeastWorn 94 = .ok (.iinc 4 1, 3) := by decide +kernel
theorem dX8_tintOfLeastWorn_97 : decode cX8_tintOfLeastWorn 97 = .ok (.goto (-89), 3) := by decide +kernel
theorem dX8_tintOfLeastWorn_100 : decode cX8_tintOfLeastWorn 100 = .ok (.iload_n 3, 1) := by decide +kernel
theorem dX8_tintOfLeastWorn_101 : decode cX8_tintOfLeastWorn 101 = .ok (.ireturn, 1) := by decide +kernel
