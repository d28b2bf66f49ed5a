theorem dX9_init_0 : decode cX9_init 0 = .ok (.aload_n 0, 1) := by decide +kernel
theorem dX9_init_1 : decode cX9_init 1 = .ok (.invokespecial 1, 3) := by decide +kernel
theorem dX9_init_4 : decode cX9_init 4 = .ok (.aload_n 0, 1) := by decide +kernel
theorem dX9_init_5 : decode cX9_init 5 = .ok (.bipush 7, 2) := by decide +kernel
theorem dX9_init_7 : decode cX9_init 7 = .ok (.newarray .int, 2) := by decide +kernel
theorem dX9_init_9 : decode cX9_init 9 = .ok (.putfield 7, 3) := by decide +kernel
theorem dX9_init_12 : decode cX9_init 12 = .ok (.aload_n 0, 1) := by decide +kernel
theorem dX9_init_13 : decode cX9_init 13 = .ok (.sipush 280, 3) := by decide +kernel
theorem dX9_init_16 : decode cX9_init 16 = .ok (.newarray .int, 2) := by decide +kernel
theorem dX9_init_18 : decode cX9_init 18 = .ok (.putfield 13, 3) := by decide +kernel
theorem dX9_init_21 : decode cX9_init 21 = .ok (.aload_n 0, 1) := by decide +kernel
theorem dX9_init_22 : decode cX9_init 22 = .ok (.sipush 240, 3) := by decide +kernel
theorem dX9_init_25 : decode cX9_init 25 = .ok (.newarray .int, 2) := by decide +kernel
theorem dX9_init_27 : decode cX9_init 27 = .ok (.putfield 16, 3) := by decide +kernel
theorem dX9_init_30 : decode cX9_init 30 = .ok (.aload_n 0, 1) := by decide +kernel
theorem dX9_init_31 : decode cX9_init 31 = .ok (.sipush 240, 3) := by decide +kernel
theorem dX9_init_34 : decode cX9_init 34 = .ok (.newarray .int, 2) := by decide +kernel
theorem dX9_init_36 : decode cX9_init 36 = .ok (.putfield 19, 3) := by decide +kernel
theorem dX9_init_39 : decode cX9_init 39 = .ok (.aload_n 0, 1) := by decide +kernel
theorem dX9_init_40 : decode cX9_init 40 = .ok (.bipush 40, 2) := by decide +kernel
theorem dX9_init_42 : decode cX9_init 42 = .ok (.newarray .int, 2) := by decide +kernel
theorem dX9_init_44 : decode cX9_init 44 = .ok (.putfield 22, 3) := by decide +kernel
theorem dX9_init_47 : decode cX9_init 47 = .ok (.aload_n 0, 1) := by decide +kernel
theorem dX9_init_48 : decode cX9_init 48 = .ok (.iconst 4, 1) := by decide +kernel
theorem dX9_init_49 : decode cX9_init 49 = .ok (.newarray .int, 2) := by decide +kernel
theorem dX9_init_51 : decode cX9_init 51 = .ok (.putfield 25, 3) := by decide +kernel
theorem dX9_init_54 : decode cX9_init 54 = .ok (.aload_n 0, 1) := by decide +kernel
theorem dX9_init_55 : decode cX9_init 55 = .ok (.bipush 12, 2) := by decide +kernel
theorem dX9_init_57 : decode cX9_init 57 = .ok (.newarray .int, 2) := by decide +kernel
theorem dX9_init_59 : decode cX9_init 59 = .ok (.putfield 28, 3) := by decide +kernel
theorem dX9_init_62 : decode cX9_init 62 = .ok (.aload_n 0, 1) := by decide +kernel
theorem dX9_init_63 : decode cX9_init 63 = .ok (.bipush 12, 2) := by decide +kernel
theorem dX9_init_65 : decode cX9_init 65 = .ok (.newarray .int, 2) := by decide +kernel
theorem dX9_init_67 : decode cX9_init 67 = .ok (.putfield 31, 3) := by decide +kernel
theorem dX9_init_70 : decode cX9_init 70 = .ok (.aload_n 0, 1) := by decide +kernel
theorem dX9_init_71 : decode cX9_init 71 = .ok (.bipush 12, 2) := by decide +kernel
theorem dX9_init_73 : decode cX9_init 73 = .ok (.newarray .int, 2) := by decide +kernel
theorem dX9_init_75 : decode cX9_init 75 = .ok (.putfield 34, 3) := by decide +kernel
theorem dX9_init_78 : decode cX9_init 78 = .ok (.aload_n 0, 1) := by decide +kernel
theorem dX9_init_79 : decode cX9_init 79 = .ok (.bipush 12, 2) := by decide +kernel
theorem dX9_init_81 : decode cX9_init 81 = .ok (.newarray .int, 2) := by decide +kernel
theorem dX9_init_83 : decode cX9_init 83 = .ok (.putfield 37, 3) := by decide +kernel
theorem dX9_init_86 : decode cX9_init 86 = .ok (.aload_n 0, 1) := by decide +kernel
theorem dX9_init_87 : decode cX9_init 87 = .ok (.bipush 20, 2) := by decide +kernel
theorem dX9_init_89 : decode cX9_init 89 = .ok (.newarray .int, 2) := by decide +kernel
theorem dX9_init_91 : decode cX9_init 91 = .ok (.putfield 40, 3) := by decide +kernel
theorem dX9_init_94 : decode cX9_init 94 = .ok (.aload_n 0, 1) := by decide +kernel
theorem dX9_init_95 : decode cX9_init 95 = .ok (.bipush 20, 2) := by decide +kernel
theorem dX9_init_97 : decode cX9_init 97 = .ok (.newarray .int, 2) := by decide +kernel
theorem dX9_init_99 : decode cX9_init 99 = .ok (.putfield 43, 3) := by decide +kernel
theorem dX9_init_102 : decode cX9_init 102 = .ok (.aload_n 0, 1) := by decide +kernel
theorem dX9_init_103 : decode cX9_init 103 = .ok (.bipush 20, 2) := by decide +kernel
theorem dX9_init_105 : decode cX9_init 105 = .ok (.newarray .int, 2) := by decide +kernel
theorem dX9_init_107 : decode cX9_init 107 = .ok (.putfield 46, 3) := by decide +kernel
theorem dX9_init_110 : decode cX9_init 110 = .ok (.aload_n 0, 1) := by decide +kernel
theorem dX9_init_111 : decode cX9_init 111 = .ok (.bipush 30, 2) := by decide +kernel
theorem dX9_init_113 : decode cX9_init 113 = .ok (.newarray .int, 2) := by decide +kernel
theorem dX9_init_115 : decode cX9_init 115 = .ok (.putfield 49, 3) := by decide +kernel
theorem dX9_init_118 : decode cX9_init 118 = .ok (.aload_n 0, 1) := by decide +kernel
theorem dX9_init_119 : decode cX9_init 119 = .ok (.bipush 30, 2) := by decide +kernel
theorem dX9_init_121 : decode cX9_init 121 = .ok (.newarray .int, 2) := by decide +kernel
theorem dX9_init_123 : decode cX9_init 123 = .ok (.putfield 52, 3) := by decide +kernel
theorem dX9_init_126 : decode cX9_init 126 = .ok (.aload_n 0, 1) := by decide +kernel
theorem dX9_init_127 : decode cX9_init 127 = .ok (.sipush 1681, 3) := by decide +kernel
theorem dX9_init_130 : decode cX9_init 130 = .ok (.newarray .int, 2) := by decide +kernel
theorem dX9_init_132 : decode cX9_init 132 = .ok (.putfield 55, 3) := by decide +kernel
theorem dX9_init_135 : decode cX9_init 135 = .ok (.aload_n 0, 1) := by decide +kernel
theorem dX9_init_136 : decode cX9_init 136 = .ok (.bipush 40, 2) := by decide +kernel
theorem dX9_init_138 : decode cX9_init 138 = .ok (.newarray .int, 2) := by decide +kernel
theorem dX9_init_140 : decode cX9_init 140 = .ok (.putfield 58, 3) := by decide +kernel
theorem dX9_init_143 : decode cX9_init 143 = .ok (.aload_n 0, 1) := by decide +kernel
theorem dX9_init_144 : decode cX9_init 144 = .ok (.sipush 240, 3) := by decide +kernel
theorem dX9_init_147 : decode cX9_init 147 = .ok (.newarray .int, 2) := by decide +kernel
theorem dX9_init_149 : decode cX9_init 149 = .ok (.putfield 61, 3) := by decide +kernel
theorem dX9_init_152 : decode cX9_init 152 = .ok (.aload_n 0, 1) := by decide +kernel
theorem dX9_init_153 : decode cX9_init 153 = .ok (.sipush 280, 3) := by decide +kernel
theorem dX9_init_156 : decode cX9_init 156 = .ok (.newarray .int, 2) := by decide +kernel
theorem dX9_init_158 : decode cX9_init 158 = .ok (.putfield 64, 3) := by decide +kernel
theorem dX9_init_161 : decode cX9_init 161 = .ok (.aload_n 0, 1) := by decide +kernel
theorem dX9_init_162 : decode cX9_init 162 = .ok (.bipush 40, 2) := by decide +kernel
theorem dX9_init_164 : decode cX9_init 164 = .ok (.newarray .int, 2) := by decide +kernel
theorem dX9_init_166 : decode cX9_init 166 = .ok (.putfield 67, 3) := by decide +kernel
theorem dX9_init_169 : decode cX9_init 169 = .ok (.aload_n 0, 1) := by decide +kernel
theorem dX9_init_170 : decode cX9_init 170 = .ok (.bipush 6, 2) := by decide +kernel
theorem dX9_init_172 : decode cX9_init 172 = .ok (.newarray .int, 2) := by decide +kernel
theorem dX9_init_174 : decode cX9_init 174 = .ok (.putfield 70, 3) := by decide +kernel
theorem dX9_init_177 : decode cX9_init 177 = .ok (.aload_n 0, 1) := by decide +kernel
theorem dX9_init_178 : decode cX9_init 178 = .ok (.getfield 25, 3) := by decide +kernel
theorem dX9_init_181 : decode cX9_init 181 = .ok (.iconst 1, 1) := by decide +kernel
theorem dX9_init_182 : decode cX9_init 182 = .ok (.bipush 20, 2) := by decide +kernel
theorem dX9_init_184 : decode cX9_init 184 = .ok (.iastore, 1) := by decide +kernel
theorem dX9_init_185 : decode cX9_init 185 = .ok (.aload_n 0, 1) := by decide +kernel
theorem dX9_init_186 : decode cX9_init 186 = .ok (.getfield 25, 3) := by decide +kernel
theorem dX9_init_189 : decode cX9_init 189 = .ok (.iconst 2, 1) := by decide +kernel
theorem dX9_init_190 : decode cX9_init 190 = .ok (.iconst 4, 1) := by decide +kernel
theorem dX9_init_191 : decode cX9_init 191 = .ok (.iastore, 1) := by decide +kernel
theorem dX9_init_192 : decode cX9_init 192 = .ok (.aload_n 0, 1) := by decide +kernel
theorem dX9_init_193 : decode cX9_init 193 = .ok (.getfield 25, 3) := by decide +kernel
theorem dX9_init_196 : decode cX9_init 196 = .ok (.iconst 3, 1) := by decide +kernel
theorem dX9_init_197 : decode cX9_init 197 = .ok (.bipush 30, 2) := by decide +kernel
theorem dX9_init_199 : decode cX9_init 199 = .ok (.iastore, 1) := by decide +kernel
theorem dX9_init_200 : decode cX9_init 200 = .ok (.return_, 1) := by decide +kernel
theorem dX9_in_0 : decode cX9_in 0 = .ok (.iload_n 0, 1) := by decide +kernel
theorem dX9_in_1 : decode cX9_in 1 = .ok (.iload_n 1, 1) := by decide +kernel
theorem dX9_in_2 : decode cX9_in 2 = .ok (.if_icmp .lt 12, 3) := by decide +kernel
theorem dX9_in_5 : decode cX9_in 5 = .ok (.iload_n 0, 1) := by decide +kernel
theorem dX9_in_6 : decode cX9_in 6 = .ok (.iload_n 2, 1) := by decide +kernel
theorem dX9_in_7 : decode cX9_in 7 = .ok (.if_icmp .gt 7, 3) := by decide +kernel
theorem dX9_in_10 : decode cX9_in 10 = .ok (.iconst 1, 1) := by decide +kernel
theorem dX9_in_11 : decode cX9_in 11 = .ok (.goto 4, 3) := by decide +kernel
theorem dX9_in_14 : decode cX9_in 14 = .ok (.iconst 0, 1) := by decide +kernel
theorem dX9_in_15 : decode cX9_in 15 = .ok (.ireturn, 1) := by decide +kernel
theorem dX9_isCopy_0 : decode cX9_isCopy 0 = .ok (.iload_n 1, 1) := by decide +kernel
theorem dX9_isCopy_1 : decode cX9_isCopy 1 = .ok (.iconst 0, 1) := by decide +kernel
theorem dX9_isCopy_2 : decode cX9_isCopy 2 = .ok (.aload_n 0, 1) := by decide +kernel
theorem dX9_isCopy_3 : decode cX9_isCopy 3 = .ok (.getfield 73, 3) := by decide +kernel
theorem dX9_isCopy_6 : decode cX9_isCopy 6 = .ok (.iconst 1, 1) := by decide +kernel
theorem dX9_isCopy_7 : decode cX9_isCopy 7 = .ok (.isub, 1) := by decide +kernel
theorem dX9_isCopy_8 : decode cX9_isCopy 8 = .ok (.invokestatic 77, 3) := by decide +kernel
theorem dX9_isCopy_11 : decode cX9_isCopy 11 = .ok (.ireturn, 1) := by decide +kernel
theorem dX9_copy_0 : decode cX9_copy 0 = .ok (.aload_n 0, 1) := by decide +kernel
theorem dX9_copy_1 : decode cX9_copy 1 = .ok (.getfield 73, 3) := by decide +kernel
theorem dX9_copy_4 : decode cX9_copy 4 = .ok (.bipush 6, 2) := by decide +kernel
theorem dX9_copy_6 : decode cX9_copy 6 = .ok (.if_icmp .ne 6, 3) := by decide +kernel
theorem dX9_copy_9 : decode cX9_copy 9 = .ok (.bipush (-3), 2) := by decide +kernel
theorem dX9_copy_11 : decode cX9_copy 11 = .ok (.ireturn, 1) := by decide +kernel
theorem dX9_copy_12 : decode cX9_copy 12 = .ok (.aload_n 0, 1) := by decide +kernel
theorem dX9_copy_13 : decode cX9_copy 13 = .ok (.dup, 1) := by decide +kernel
theorem dX9_copy_14 : decode cX9_copy 14 = .ok (.getfield 73, 3) := by decide +kernel
theorem dX9_copy_17 : decode cX9_copy 17 = .ok (.iconst 1, 1) := by decide +kernel
theorem dX9_copy_18 : decode cX9_copy 18 = .ok (.iadd, 1) := by decide +kernel
theorem dX9_copy_19 : decode cX9_copy 19 = .ok (.putfield 73, 3) := by decide +kernel
theorem dX9_copy_22 : decode cX9_copy 22 = .ok (.aload_n 0, 1) := by decide +kernel
theorem dX9_copy_23 : decode cX9_copy 23 = .ok (.getfield 73, 3) := by decide +kernel
theorem dX9_copy_26 : decode cX9_copy 26 = .ok (.iconst 1, 1) := by decide +kernel
theorem dX9_copy_27 : decode cX9_copy 27 = .ok (.isub, 1) := by decide +kernel
theorem dX9_copy_28 : decode cX9_copy 28 = .ok (.ireturn, 1) := by decide +kernel
theorem dX9_lays_0 : decode cX9_lays 0 = .ok (.aload_n 0, 1) := by decide +kernel
theorem dX9_lays_1 : decode cX9_lays 1 = .ok (.getfield 13, 3) := by decide +kernel
theorem dX9_lays_4 : decode cX9_lays 4 = .ok (.bipush 40, 2) := by decide +kernel
theorem dX9_lays_6 : decode cX9_lays 6 = .ok (.iload_n 1, 1) := by decide +kernel
theorem dX9_lays_7 : decode cX9_lays 7 = .ok (.imul, 1) := by decide +kernel
theorem dX9_lays_8 : decode cX9_lays 8 = .ok (.aload_n 0, 1) := by decide +kernel
theorem dX9_lays_9 : decode cX9_lays 9 = .ok (.getfield 7, 3) := by decide +kernel
theorem dX9_lays_12 : decode cX9_lays 12 = .ok (.iload_n 1, 1) := by decide +kernel
theorem dX9_lays_13 : decode cX9_lays 13 = .ok (.iaload, 1) := by decide +kernel
theorem dX9_lays_14 : decode cX9_lays 14 = .ok (.iadd, 1) := by decide +kernel
theorem dX9_lays_15 : decode cX9_lays 15 = .ok (.iload_n 2, 1) := by decide +kernel
theorem dX9_lays_16 : decode cX9_lays 16 = .ok (.iastore, 1) := by decide +kernel
theorem dX9_lays_17 : decode cX9_lays 17 = .ok (.aload_n 0, 1) := by decide +kernel
theorem dX9_lays_18 : decode cX9_lays 18 = .ok (.getfield 16, 3) := by decide +kernel
theorem dX9_lays_21 : decode cX9_lays 21 = .ok (.bipush 40, 2) := by decide +kernel
theorem dX9_lays_23 : decode cX9_lays 23 = .ok (.iload_n 1, 1) := by decide +kernel
theorem dX9_lays_24 : decode cX9_lays 24 = .ok (.imul, 1) := by decide +kernel
theorem dX9_lays_25 : decode cX9_lays 25 = .ok (.aload_n 0, 1) := by decide +kernel
theorem dX9_lays_26 : decode cX9_lays 26 = .ok (.getfield 7, 3) := by decide +kernel
theorem dX9_lays_29 : decode cX9_lays 29 = .ok (.iload_n 1, 1) := by decide +kernel
theorem dX9_lays_30 : decode cX9_lays 30 = .ok (.iaload, 1) := by decide +kernel
theorem dX9_lays_31 : decode cX9_lays 31 = .ok (.iadd, 1) := by decide +kernel
theorem dX9_lays_32 : decode cX9_lays 32 = .ok (.iload_n 3, 1) := by decide +kernel
theorem dX9_lays_33 : decode cX9_lays 33 = .ok (.iastore, 1) := by decide +kernel
theorem dX9_lays_34 : decode cX9_lays 34 = .ok (.aload_n 0, 1) := by decide +kernel
theorem dX9_lays_35 : decode cX9_lays 35 = .ok (.getfield 19, 3) := by decide +kernel
theorem dX9_lays_38 : decode cX9_lays 38 = .ok (.bipush 40, 2) := by decide +kernel
theorem dX9_lays_40 : decode cX9_lays 40 = .ok (.iload_n 1, 1) := by decide +kernel
theorem dX9_lays_41 : decode cX9_lays 41 = .ok (.imul, 1) := by decide +kernel
theorem dX9_lays_42 : decode cX9_lays 42 = .ok (.aload_n 0, 1) := by decide +kernel
theorem dX9_lays_43 : decode cX9_lays 43 = .ok (.getfield 7, 3) := by decide +kernel
theorem dX9_lays_46 : decode cX9_lays 46 = .ok (.iload_n 1, 1) := by decide +kernel
theorem dX9_lays_47 : decode cX9_lays 47 = .ok (.iaload, 1) := by decide +kernel
theorem dX9_lays_48 : decode cX9_lays 48 = .ok (.iadd, 1) := by decide +kernel
theorem dX9_lays_49 : decode cX9_lays 49 = .ok (.iload 4, 2) := by decide +kernel
theorem dX9_lays_51 : decode cX9_lays 51 = .ok (.iastore, 1) := by decide +kernel
theorem dX9_lays_52 : decode cX9_lays 52 = .ok (.aload_n 0, 1) := by decide +kernel
theorem dX9_lays_53 : decode cX9_lays 53 = .ok (.getfield 7, 3) := by decide +kernel
theorem dX9_lays_56 : decode cX9_lays 56 = .ok (.iload_n 1, 1) := by decide +kernel
theorem dX9_lays_57 : decode cX9_lays 57 = .ok (.dup2, 1) := by decide +kernel
theorem dX9_lays_58 : decode cX9_lays 58 = .ok (.iaload, 1) := by decide +kernel
theorem dX9_lays_59 : decode cX9_lays 59 = .ok (.iconst 1, 1) := by decide +kernel
theorem dX9_lays_60 : decode cX9_lays 60 = .ok (.iadd, 1) := by decide +kernel
theorem dX9_lays_61 : decode cX9_lays 61 = .ok (.iastore, 1) := by decide +kernel
theorem dX9_lays_62 : decode cX9_lays 62 = .ok (.return_, 1) := by decide +kernel
theorem dX9_frame_0 : decode cX9_frame 0 = .ok (.aload_n 0, 1) := by decide +kernel
theorem dX9_frame_1 : decode cX9_frame 1 = .ok (.iload_n 1, 1) := by decide +kernel
theorem dX9_frame_2 : decode cX9_frame 2 = .ok (.invokevirtual 81, 3) := by decide +kernel
theorem dX9_frame_5 : decode cX9_frame 5 = .ok (.ifCond .eq 33, 3) := by decide +kernel
theorem dX9_frame_8 : decode cX9_frame 8 = .ok (.iload_n 2, 1) := by decide +kernel
theorem dX9_frame_9 : decode cX9_frame 9 = .ok (.iconst 0, 1) := by decide +kernel
theorem dX9_frame_10 : decode cX9_frame 10 = .ok (.bipush 63, 2) := by decide +kernel
theorem dX9_frame_12 : decode cX9_frame 12 = .ok (.invokestatic 77, 3) := by decide +kernel
theorem dX9_frame_15 : decode cX9_frame 15 = .ok (.ifCond .eq 23, 3) := by decide +kernel
theorem dX9_frame_18 : decode cX9_frame 18 = .ok (.iload_n 3, 1) := by decide +kernel
theorem dX9_frame_19 : decode cX9_frame 19 = .ok (.iconst 0, 1) := by decide +kernel
theorem dX9_frame_20 : decode cX9_frame 20 = .ok (.bipush 9, 2) := by decide +kernel
theorem dX9_frame_22 : decode cX9_frame 22 = .ok (.invokestatic 77, 3) := by decide +kernel
theorem dX9_frame_25 : decode cX9_frame 25 = .ok (.ifCond .eq 13, 3) := by decide +kernel
theorem dX9_frame_28 : decode cX9_frame 28 = .ok (.iload 4, 2) := by decide +kernel
theorem dX9_frame_30 : decode cX9_frame 30 = .ok (.iconst 0, 1) := by decide +kernel
theorem dX9_frame_31 : decode cX9_frame 31 = .ok (.iconst 1, 1) := by decide +kernel
theorem dX9_frame_32 : decode cX9_frame 32 = .ok (.invokestatic 77, 3) := by decide +kernel
theorem dX9_frame_35 : decode cX9_frame 35 = .ok (.ifCond .ne 5, 3) := by decide +kernel
theorem dX9_frame_38 : decode cX9_frame 38 = .ok (.iconst (-1), 1) := by decide +kernel
theorem dX9_frame_39 : decode cX9_frame 39 = .ok (.ireturn, 1) := by decide +kernel
theorem dX9_frame_40 : decode cX9_frame 40 = .ok (.aload_n 0, 1) := by decide +kernel
theorem dX9_frame_41 : decode cX9_frame 41 = .ok (.getfield 7, 3) := by decide +kernel
theorem dX9_frame_44 : decode cX9_frame 44 = .ok (.iload_n 1, 1) := by decide +kernel
theorem dX9_frame_45 : decode cX9_frame 45 = .ok (.iaload, 1) := by decide +kernel
theorem dX9_frame_46 : decode cX9_frame 46 = .ok (.bipush 40, 2) := by decide +kernel
theorem dX9_frame_48 : decode cX9_frame 48 = .ok (.if_icmp .ne 6, 3) := by decide +kernel
theorem dX9_frame_51 : decode cX9_frame 51 = .ok (.bipush (-3), 2) := by decide +kernel
theorem dX9_frame_53 : decode cX9_frame 53 = .ok (.ireturn, 1) := by decide +kernel
theorem dX9_frame_54 : decode cX9_frame 54 = .ok (.aload_n 0, 1) := by decide +kernel
theorem dX9_frame_55 : decode cX9_frame 55 = .ok (.iload_n 1, 1) := by decide +kernel
theorem dX9_frame_56 : decode cX9_frame 56 = .ok (.iload_n 2, 1) := by decide +kernel
theorem dX9_frame_57 : decode cX9_frame 57 = .ok (.iload_n 3, 1) := by decide +kernel
theorem dX9_frame_58 : decode cX9_frame 58 = .ok (.iload 4, 2) := by decide +kernel
theorem dX9_frame_60 : decode cX9_frame 60 = .ok (.invokevirtual 85, 3) := by decide +kernel
theorem dX9_frame_63 : decode cX9_frame 63 = .ok (.aload_n 0, 1) := by decide +kernel
theorem dX9_frame_64 : decode cX9_frame 64 = .ok (.getfield 7, 3) := by decide +kernel
theorem dX9_frame_67 : decode cX9_frame 67 = .ok (.iload_n 1, 1) := by decide +kernel
theorem dX9_frame_68 : decode cX9_frame 68 = .ok (.iaload, 1) := by decide +kernel
theorem dX9_frame_69 : decode cX9_frame 69 = .ok (.ireturn, 1) := by decide +kernel
theorem dX9_frames_0 : decode cX9_frames 0 = .ok (.aload_n 0, 1) := by decide +kernel
theorem dX9_frames_1 : decode cX9_frames 1 = .ok (.iload_n 1, 1) := by decide +kernel
theorem dX9_frames_2 : decode cX9_frames 2 = .ok (.invokevirtual 81, 3) := by decide +kernel
theorem dX9_frames_5 : decode cX9_frames 5 = .ok (.ifCond .eq 12, 3) := by decide +kernel
theorem dX9_frames_8 : decode cX9_frames 8 = .ok (.iload_n 2, 1) := by decide +kernel
theorem dX9_frames_9 : decode cX9_frames 9 = .ok (.iconst 1, 1) := by decide +kernel
theorem dX9_frames_10 : decode cX9_frames 10 = .ok (.iconst 4, 1) := by decide +kernel
theorem dX9_frames_11 : decode cX9_frames 11 = .ok (.invokestatic 77, 3) := by decide +kernel
theorem dX9_frames_14 : decode cX9_frames 14 = .ok (.ifCond .ne 5, 3) := by decide +kernel
theorem dX9_frames_17 : decode cX9_frames 17 = .ok (.iconst (-1), 1) := by decide +kernel
theorem dX9_frames_18 : decode cX9_frames 18 = .ok (.ireturn, 1) := by decide +kernel
theorem dX9_frames_19 : decode cX9_frames 19 = .ok (.iload_n 2, 1) := by decide +kernel
theorem dX9_frames_20 : decode cX9_frames 20 = .ok (.iconst 1, 1) := by decide +kernel
theorem dX9_frames_21 : decode cX9_frames 21 = .ok (.isub, 1) := by decide +kernel
theorem dX9_frames_22 : decode cX9_frames 22 = .ok (.istore 5, 2) := by decide +kernel
theorem dX9_frames_24 : decode cX9_frames 24 = .ok (.iload 5, 2) := by decide +kernel
theorem dX9_frames_26 : decode cX9_frames 26 = .ok (.ifCond .lt 46, 3) := by decide +kernel
theorem dX9_frames_29 : decode cX9_frames 29 = .ok (.lload_n 3, 1) := by decide +kernel
theorem dX9_frames_30 : decode cX9_frames 30 = .ok (.bipush 16, 2) := by decide +kernel
theorem dX9_frames_32 : decode cX9_frames 32 = .ok (.iload 5, 2) := by decide +kernel
theorem dX9_frames_34 : decode cX9_frames 34 = .ok (.imul, 1) := by decide +kernel
theorem dX9_frames_35 : decode cX9_frames 35 = .ok (.lshr, 1) := by decide +kernel
theorem dX9_frames_36 : decode cX9_frames 36 = .ok (.ldc2_w 89, 3) := by decide +kernel
theorem dX9_frames_39 : decode cX9_frames 39 = .ok (.land, 1) := by decide +kernel
theorem dX9_frames_40 : decode cX9_frames 40 = .ok (.l2i, 1) := by decide +kernel
theorem dX9_frames_41 : decode cX9_frames 41 = .ok (.istore 6, 2) := by decide +kernel
theorem dX9_frames_43 : decode cX9_frames 43 = .ok (.iload 6, 2) := by decide +kernel
theorem dX9_frames_45 : decode cX9_frames 45 = .ok (.bipush 6, 2) := by decide +kernel
theorem dX9_frames_47 : decode cX9_frames 47 = .ok (.ishr, 1) := by decide +kernel
theorem dX9_frames_48 : decode cX9_frames 48 = .ok (.bipush 15, 2) := by decide +kernel
theorem dX9_frames_50 : decode cX9_frames 50 = .ok (.iand, 1) := by decide +kernel
theorem dX9_frames_51 : decode cX9_frames 51 = .ok (.bipush 9, 2) := by decide +kernel
theorem dX9_frames_53 : decode cX9_frames 53 = .ok (.if_icmp .gt 11, 3) := by decide +kernel
theorem dX9_frames_56 : decode cX9_frames 56 = .ok (.iload 6, 2) := by decide +kernel
theorem dX9_frames_58 : decode cX9_frames 58 = .ok (.bipush 31, 2) := by decide +kernel
theorem dX9_frames_60 : decode cX9_frames 60 = .ok (.iand, 1) := by decide +kernel
theorem dX9_frames_61 : decode cX9_frames 61 = .ok (.ifCond .eq 5, 3) := by decide +kernel
theorem dX9_frames_64 : decode cX9_frames 64 = .ok (.iconst (-1), 1) := by decide +kernel
theorem dX9_frames_65 : decode cX9_frames 65 = .ok (.ireturn, 1) := by decide +kernel
theorem dX9_frames_66 : decode cX9_frames 66 = .ok (.iinc 5 (-1), 3) := by decide +kernel
theorem dX9_frames_69 : decode cX9_frames 69 = .ok (.goto (-45), 3) := by decide +kernel
theorem dX9_frames_72 : decode cX9_frames 72 = .ok (.aload_n 0, 1) := by decide +kernel
theorem dX9_frames_73 : decode cX9_frames 73 = .ok (.getfield 7, 3) := by decide +kernel
theorem dX9_frames_76 : decode cX9_frames 76 = .ok (.iload_n 1, 1) := by decide +kernel
theorem dX9_frames_77 : decode cX9_frames 77 = .ok (.iaload, 1) := by decide +kernel
theorem dX9_frames_78 : decode cX9_frames 78 = .ok (.iload_n 2, 1) := by decide +kernel
theorem dX9_frames_79 : decode cX9_frames 79 = .ok (.iadd, 1) := by decide +kernel
theorem dX9_frames_80 : decode cX9_frames 80 = .ok (.bipush 40, 2) := by decide +kernel
theorem dX9_frames_82 : decode cX9_frames 82 = .ok (.if_icmp .le 6, 3) := by decide +kernel
theorem dX9_frames_85 : decode cX9_frames 85 = .ok (.bipush (-3), 2) := by decide +kernel
theorem dX9_frames_87 : decode cX9_frames 87 = .ok (.ireturn, 1) := by decide +kernel
theorem dX9_frames_88 : decode cX9_frames 88 = .ok (.iload_n 2, 1) := by decide +kernel
theorem dX9_frames_89 : decode cX9_frames 89 = .ok (.iconst 1, 1) := by decide +kernel
theorem dX9_frames_90 : decode cX9_frames 90 = .ok (.isub, 1) := by decide +kernel
theorem dX9_frames_91 : decode cX9_frames 91 = .ok (.istore 5, 2) := by decide +kernel
theorem dX9_frames_93 : decode cX9_frames 93 = .ok (.iload 5, 2) := by decide +kernel
theorem dX9_frames_95 : decode cX9_frames 95 = .ok (.ifCond .lt 47, 3) := by decide +kernel
theorem dX9_frames_98 : decode cX9_frames 98 = .ok (.lload_n 3, 1) := by decide +kernel
theorem dX9_frames_99 : decode cX9_frames 99 = .ok (.bipush 16, 2) := by decide +kernel
theorem dX9_frames_101 : decode cX9_frames 101 = .ok (.iload 5, 2) := by decide +kernel
theorem dX9_frames_103 : decode cX9_frames 103 = .ok (.imul, 1) := by decide +kernel
theorem dX9_frames_104 : decode cX9_frames 104 = .ok (.lshr, 1) := by decide +kernel
theorem dX9_frames_105 : decode cX9_frames 105 = .ok (.ldc2_w 89, 3) := by decide +kernel
theorem dX9_frames_108 : decode cX9_frames 108 = .ok (.land, 1) := by decide +kernel
theorem dX9_frames_109 : decode cX9_frames 109 = .ok (.l2i, 1) := by decide +kernel
theorem dX9_frames_110 : decode cX9_frames 110 = .ok (.istore 6, 2) := by decide +kernel
theorem dX9_frames_112 : decode cX9_frames 112 = .ok (.aload_n 0, 1) := by decide +kernel
theorem dX9_frames_113 : decode cX9_frames 113 = .ok (.iload_n 1, 1) := by decide +kernel
theorem dX9_frames_114 : decode cX9_frames 114 = .ok (.iload 6, 2) := by decide +kernel
theorem dX9_frames_116 : decode cX9_frames 116 = .ok (.bipush 10, 2) := by decide +kernel
theorem dX9_frames_118 : decode cX9_frames 118 = .ok (.ishr, 1) := by decide +kernel
theorem dX9_frames_119 : decode cX9_frames 119 = .ok (.iload 6, 2) := by decide +kernel
theorem dX9_frames_121 : decode cX9_frames 121 = .ok (.bipush 6, 2) := by decide +kernel
theorem dX9_frames_123 : decode cX9_frames 123 = .ok (.ishr, 1) := by decide +kernel
theorem dX9_frames_124 : decode cX9_frames 124 = .ok (.bipush 15, 2) := by decide +kernel
theorem dX9_frames_126 : decode cX9_frames 126 = .ok (.iand, 1) := by decide +kernel
theorem dX9_frames_127 : decode cX9_frames 127 = .ok (.iload 6, 2) := by decide +kernel
theorem dX9_frames_129 : decode cX9_frames 129 = .ok (.iconst 5, 1) := by decide +kernel
theorem dX9_frames_130 : decode cX9_frames 130 = .ok (.ishr, 1) := by decide +kernel
theorem dX9_frames_131 : decode cX9_frames 131 = .ok (.iconst 1, 1) := by decide +kernel
theorem dX9_frames_132 : decode cX9_frames 132 = .ok (.iand, 1) := by decide +kernel
theorem dX9_frames_133 : decode cX9_frames 133 = .ok (.invokevirtual 85, 3) := by decide +kernel
theorem dX9_frames_136 : decode cX9_frames 136 = .ok (.iinc 5 (-1), 3) := by decide +kernel
theorem dX9_frames_139 : decode cX9_frames 139 = .ok (.goto (-46), 3) := by decide +kernel
theorem dX9_frames_142 : decode cX9_frames 142 = .ok (.aload_n 0, 1) := by decide +kernel
theorem dX9_frames_143 : decode cX9_frames 143 = .ok (.getfield 7, 3) := by decide +kernel
theorem dX9_frames_146 : decode cX9_frames 146 = .ok (.iload_n 1, 1) := by decide +kernel
theorem dX9_frames_147 : decode cX9_frames 147 = .ok (.iaload, 1) := by decide +kernel
theorem dX9_frames_148 : decode cX9_frames 148 = .ok (.ireturn, 1) := by decide +kernel
theorem dX9_isFrame_0 : decode cX9_isFrame 0 = .ok (.aload_n 0, 1) := by decide +kernel
theorem dX9_isFrame_1 : decode cX9_isFrame 1 = .ok (.iload_n 1, 1) := by decide +kernel
theorem dX9_isFrame_2 : decode cX9_isFrame 2 = .ok (.invokevirtual 81, 3) := by decide +kernel
theorem dX9_isFrame_5 : decode cX9_isFrame 5 = .ok (.ifCond .eq 23, 3) := by decide +kernel
theorem dX9_isFrame_8 : decode cX9_isFrame 8 = .ok (.iload_n 2, 1) := by decide +kernel
theorem dX9_isFrame_9 : decode cX9_isFrame 9 = .ok (.iconst 0, 1) := by decide +kernel
theorem dX9_isFrame_10 : decode cX9_isFrame 10 = .ok (.aload_n 0, 1) := by decide +kernel
theorem dX9_isFrame_11 : decode cX9_isFrame 11 = .ok (.getfield 7, 3) := by decide +kernel
theorem dX9_isFrame_14 : decode cX9_isFrame 14 = .ok (.iload_n 1, 1) := by decide +kernel
theorem dX9_isFrame_15 : decode cX9_isFrame 15 = .ok (.iaload, 1) := by decide +kernel
theorem dX9_isFrame_16 : decode cX9_isFrame 16 = .ok (.iconst 1, 1) := by decide +kernel
theorem dX9_isFrame_17 : decode cX9_isFrame 17 = .ok (.isub, 1) := by decide +kernel
theorem dX9_isFrame_18 : decode cX9_isFrame 18 = .ok (.invokestatic 77, 3) := by decide +kernel
theorem dX9_isFrame_21 : decode cX9_isFrame 21 = .ok (.ifCond .eq 7, 3) := by decide +kernel
theorem dX9_isFrame_24 : decode cX9_isFrame 24 = .ok (.iconst 1, 1) := by decide +kernel
theorem dX9_isFrame_25 : decode cX9_isFrame 25 = .ok (.goto 4, 3) := by decide +kernel
theorem dX9_isFrame_28 : decode cX9_isFrame 28 = .ok (.iconst 0, 1) := by decide +kernel
theorem dX9_isFrame_29 : decode cX9_isFrame 29 = .ok (.ireturn, 1) := by decide +kernel
theorem dX9_at_0 : decode cX9_at 0 = .ok (.aload_n 0, 1) := by decide +kernel
theorem dX9_at_1 : decode cX9_at 1 = .ok (.iload_n 1, 1) := by decide +kernel
theorem dX9_at_2 : decode cX9_at 2 = .ok (.iload_n 2, 1) := by decide +kernel
theorem dX9_at_3 : decode cX9_at 3 = .ok (.invokevirtual 91, 3) := by decide +kernel
theorem dX9_at_6 : decode cX9_at 6 = .ok (.ifCond .eq 12, 3) := by decide +kernel
theorem dX9_at_9 : decode cX9_at 9 = .ok (.iload_n 3, 1) := by decide +kernel
theorem dX9_at_10 : decode cX9_at 10 = .ok (.iconst 0, 1) := by decide +kernel
theorem dX9_at_11 : decode cX9_at 11 = .ok (.iconst 2, 1) := by decide +kernel
theorem dX9_at_12 : decode cX9_at 12 = .ok (.invokestatic 77, 3) := by decide +kernel
theorem dX9_at_15 : decode cX9_at 15 = .ok (.ifCond .ne 5, 3) := by decide +kernel
theorem dX9_at_18 : decode cX9_at 18 = .ok (.iconst (-1), 1) := by decide +kernel
theorem dX9_at_19 : decode cX9_at 19 = .ok (.ireturn, 1) := by decide +kernel
theorem dX9_at_20 : decode cX9_at 20 = .ok (.iload_n 3, 1) := by decide +kernel
theorem dX9_at_21 : decode cX9_at 21 = .ok (.ifCond .ne 17, 3) := by decide +kernel
theorem dX9_at_24 : decode cX9_at 24 = .ok (.aload_n 0, 1) := by decide +kernel
theorem dX9_at_25 : decode cX9_at 25 = .ok (.getfield 13, 3) := by decide +kernel
theorem dX9_at_28 : decode cX9_at 28 = .ok (.bipush 40, 2) := by decide +kernel
theorem dX9_at_30 : decode cX9_at 30 = .ok (.iload_n 1, 1) := by decide +kernel
theorem dX9_at_31 : decode cX9_at 31 = .ok (.imul, 1) := by decide +kernel
theorem dX9_at_32 : decode cX9_at 32 = .ok (.iload_n 2, 1) := by decide +kernel
theorem dX9_at_33 : decode cX9_at 33 = .ok (.iadd, 1) := by decide +kernel
theorem dX9_at_34 : decode cX9_at 34 = .ok (.iaload, 1) := by decide +kernel
theorem dX9_at_35 : decode cX9_at 35 = .ok (.goto 33, 3) := by decide +kernel
theorem dX9_at_38 : decode cX9_at 38 = .ok (.iload_n 3, 1) := by decide +kernel
theorem dX9_at_39 : decode cX9_at 39 = .ok (.iconst 1, 1) := by decide +kernel
theorem dX9_at_40 : decode cX9_at 40 = .ok (.if_icmp .ne 17, 3) := by decide +kernel
theorem dX9_at_43 : decode cX9_at 43 = .ok (.aload_n 0, 1) := by decide +kernel
theorem dX9_at_44 : decode cX9_at 44 = .ok (.getfield 16, 3) := by decide +kernel
theorem dX9_at_47 : decode cX9_at 47 = .ok (.bipush 40, 2) := by decide +kernel
theorem dX9_at_49 : decode cX9_at 49 = .ok (.iload_n 1, 1) := by decide +kernel
theorem dX9_at_50 : decode cX9_at 50 = .ok (.imul, 1) := by decide +kernel
theorem dX9_at_51 : decode cX9_at 51 = .ok (.iload_n 2, 1) := by decide +kernel
theorem dX9_at_52 : decode cX9_at 52 = .ok (.iadd, 1) := by decide +kernel
theorem dX9_at_53 : decode cX9_at 53 = .ok (.iaload, 1) := by decide +kernel
theorem dX9_at_54 : decode cX9_at 54 = .ok (.goto 14, 3) := by decide +kernel
theorem dX9_at_57 : decode cX9_at 57 = .ok (.aload_n 0, 1) := by decide +kernel
theorem dX9_at_58 : decode cX9_at 58 = .ok (.getfield 19, 3) := by decide +kernel
theorem dX9_at_61 : decode cX9_at 61 = .ok (.bipush 40, 2) := by decide +kernel
theorem dX9_at_63 : decode cX9_at 63 = .ok (.iload_n 1, 1) := by decide +kernel
theorem dX9_at_64 : decode cX9_at 64 = .ok (.imul, 1) := by decide +kernel
theorem dX9_at_65 : decode cX9_at 65 = .ok (.iload_n 2, 1) := by decide +kernel
theorem dX9_at_66 : decode cX9_at 66 = .ok (.iadd, 1) := by decide +kernel
theorem dX9_at_67 : decode cX9_at 67 = .ok (.iaload, 1) := by decide +kernel
theorem dX9_at_68 : decode cX9_at 68 = .ok (.ireturn, 1) := by decide +kernel
theorem dX9_keeps_0 : decode cX9_keeps 0 = .ok (.aload_n 0, 1) := by decide +kernel
theorem dX9_keeps_1 : decode cX9_keeps 1 = .ok (.getfield 95, 3) := by decide +kernel
theorem dX9_keeps_4 : decode cX9_keeps 4 = .ok (.bipush 30, 2) := by decide +kernel
theorem dX9_keeps_6 : decode cX9_keeps 6 = .ok (.if_icmp .ne 55, 3) := by decide +kernel
theorem dX9_keeps_9 : decode cX9_keeps 9 = .ok (.iconst 1, 1) := by decide +kernel
theorem dX9_keeps_10 : decode cX9_keeps 10 = .ok (.istore_n 3, 1) := by decide +kernel
theorem dX9_keeps_11 : decode cX9_keeps 11 = .ok (.iload_n 3, 1) := by decide +kernel
theorem dX9_keeps_12 : decode cX9_keeps 12 = .ok (.bipush 30, 2) := by decide +kernel
theorem dX9_keeps_14 : decode cX9_keeps 14 = .ok (.if_icmp .ge 37, 3) := by decide +kernel
theorem dX9_keeps_17 : decode cX9_keeps 17 = .ok (.aload_n 0, 1) := by decide +kernel
theorem dX9_keeps_18 : decode cX9_keeps 18 = .ok (.getfield 49, 3) := by decide +kernel
theorem dX9_keeps_21 : decode cX9_keeps 21 = .ok (.iload_n 3, 1) := by decide +kernel
theorem dX9_keeps_22 : decode cX9_keeps 22 = .ok (.iconst 1, 1) := by decide +kernel
theorem dX9_keeps_23 : decode cX9_keeps 23 = .ok (.isub, 1) := by decide +kernel
theorem dX9_keeps_24 : decode cX9_keeps 24 = .ok (.aload_n 0, 1) := by decide +kernel
theorem dX9_keeps_25 : decode cX9_keeps 25 = .ok (.getfield 49, 3) := by decide +kernel
theorem dX9_keeps_28 : decode cX9_keeps 28 = .ok (.iload_n 3, 1) := by decide +kernel
theorem dX9_keeps_29 : decode cX9_keeps 29 = .ok (.iaload, 1) := by decide +kernel
theorem dX9_keeps_30 : decode cX9_keeps 30 = .ok (.iastore, 1) := by decide +kernel
theorem dX9_keeps_31 : decode cX9_keeps 31 = .ok (.aload_n 0, 1) := by decide +kernel
theorem dX9_keeps_32 : decode cX9_keeps 32 = .ok (.getfield 52, 3) := by decide +kernel
theorem dX9_keeps_35 : decode cX9_keeps 35 = .ok (.iload_n 3, 1) := by decide +kernel
theorem dX9_keeps_36 : decode cX9_keeps 36 = .ok (.iconst 1, 1) := by decide +kernel
theorem dX9_keeps_37 : decode cX9_keeps 37 = .ok (.isub, 1) := by decide +kernel
theorem dX9_keeps_38 : decode cX9_keeps 38 = .ok (.aload_n 0, 1) := by decide +kernel
theorem dX9_keeps_39 : decode cX9_keeps 39 = .ok (.getfield 52, 3) := by decide +kernel
theorem dX9_keeps_42 : decode cX9_keeps 42 = .ok (.iload_n 3, 1) := by decide +kernel
theorem dX9_keeps_43 : decode cX9_keeps 43 = .ok (.iaload, 1) := by decide +kernel
theorem dX9_keeps_44 : decode cX9_keeps 44 = .ok (.iastore, 1) := by decide +kernel
theorem dX9_keeps_45 : decode cX9_keeps 45 = .ok (.iinc 3 1, 3) := by decide +kernel
theorem dX9_keeps_48 : decode cX9_keeps 48 = .ok (.goto (-37), 3) := by decide +kernel
theorem dX9_keeps_51 : decode cX9_keeps 51 = .ok (.aload_n 0, 1) := by decide +kernel
theorem dX9_keeps_52 : decode cX9_keeps 52 = .ok (.dup, 1) := by decide +kernel
theorem dX9_keeps_53 : decode cX9_keeps 53 = .ok (.getfield 95, 3) := by decide +kernel
theorem dX9_keeps_56 : decode cX9_keeps 56 = .ok (.iconst 1, 1) := by decide +kernel
theorem dX9_keeps_57 : decode cX9_keeps 57 = .ok (.isub, 1) := by decide +kernel
theorem dX9_keeps_58 : decode cX9_keeps 58 = .ok (.putfield 95, 3) := by decide +kernel
theorem dX9_keeps_61 : decode cX9_keeps 61 = .ok (.aload_n 0, 1) := by decide +kernel
theorem dX9_keeps_62 : decode cX9_keeps 62 = .ok (.getfield 49, 3) := by decide +kernel
theorem dX9_keeps_65 : decode cX9_keeps 65 = .ok (.aload_n 0, 1) := by decide +kernel
theorem dX9_keeps_66 : decode cX9_keeps 66 = .ok (.getfield 95, 3) := by decide +kernel
theorem dX9_keeps_69 : decode cX9_keeps 69 = .ok (.iload_n 1, 1) := by decide +kernel
theorem dX9_keeps_70 : decode cX9_keeps 70 = .ok (.iastore, 1) := by decide +kernel
theorem dX9_keeps_71 : decode cX9_keeps 71 = .ok (.aload_n 0, 1) := by decide +kernel
theorem dX9_keeps_72 : decode cX9_keeps 72 = .ok (.getfield 52, 3) := by decide +kernel
theorem dX9_keeps_75 : decode cX9_keeps 75 = .ok (.aload_n 0, 1) := by decide +kernel
theorem dX9_keeps_76 : decode cX9_keeps 76 = .ok (.getfield 95, 3) := by decide +kernel
theorem dX9_keeps_79 : decode cX9_keeps 79 = .ok (.aload_n 0, 1) := by decide +kernel
theorem dX9_keeps_80 : decode cX9_keeps 80 = .ok (.getfield 16, 3) := by decide +kernel
theorem dX9_keeps_83 : decode cX9_keeps 83 = .ok (.iload_n 1, 1) := by decide +kernel
theorem dX9_keeps_84 : decode cX9_keeps 84 = .ok (.iaload, 1) := by decide +kernel
theorem dX9_keeps_85 : decode cX9_keeps 85 = .ok (.iastore, 1) := by decide +kernel
theorem dX9_keeps_86 : decode cX9_keeps 86 = .ok (.aload_n 0, 1) := by decide +kernel
theorem dX9_keeps_87 : decode cX9_keeps 87 = .ok (.dup, 1) := by decide +kernel
theorem dX9_keeps_88 : decode cX9_keeps 88 = .ok (.getfield 95, 3) := by decide +kernel
theorem dX9_keeps_91 : decode cX9_keeps 91 = .ok (.iconst 1, 1) := by decide +kernel
theorem dX9_keeps_92 : decode cX9_keeps 92 = .ok (.iadd, 1) := by decide +kernel
theorem dX9_keeps_93 : decode cX9_keeps 93 = .ok (.putfield 95, 3) := by decide +kernel
theorem dX9_keeps_96 : decode cX9_keeps 96 = .ok (.aload_n 0, 1) := by decide +kernel
theorem dX9_keeps_97 : decode cX9_keeps 97 = .ok (.getfield 16, 3) := by decide +kernel
theorem dX9_keeps_100 : decode cX9_keeps 100 = .ok (.iload_n 1, 1) := by decide +kernel
theorem dX9_keeps_101 : decode cX9_keeps 101 = .ok (.iload_n 2, 1) := by decide +kernel
theorem dX9_keeps_102 : decode cX9_keeps 102 = .ok (.iastore, 1) := by decide +kernel
theorem dX9_keeps_103 : decode cX9_keeps 103 = .ok (.return_, 1) := by decide +kernel
theorem dX9_wear_0 : decode cX9_wear 0 = .ok (.aload_n 0, 1) := by decide +kernel
theorem dX9_wear_1 : decode cX9_wear 1 = .ok (.iload_n 1, 1) := by decide +kernel
theorem dX9_wear_2 : decode cX9_wear 2 = .ok (.iload_n 2, 1) := by decide +kernel
theorem dX9_wear_3 : decode cX9_wear 3 = .ok (.invokevirtual 91, 3) := by decide +kernel
theorem dX9_wear_6 : decode cX9_wear 6 = .ok (.ifCond .eq 13, 3) := by decide +kernel
theorem dX9_wear_9 : decode cX9_wear 9 = .ok (.iload_n 3, 1) := by decide +kernel
theorem dX9_wear_10 : decode cX9_wear 10 = .ok (.iconst 0, 1) := by decide +kernel
theorem dX9_wear_11 : decode cX9_wear 11 = .ok (.bipush 9, 2) := by decide +kernel
theorem dX9_wear_13 : decode cX9_wear 13 = .ok (.invokestatic 77, 3) := by decide +kernel
theorem dX9_wear_16 : decode cX9_wear 16 = .ok (.ifCond .ne 5, 3) := by decide +kernel
theorem dX9_wear_19 : decode cX9_wear 19 = .ok (.iconst (-1), 1) := by decide +kernel
theorem dX9_wear_20 : decode cX9_wear 20 = .ok (.ireturn, 1) := by decide +kernel
theorem dX9_wear_21 : decode cX9_wear 21 = .ok (.aload_n 0, 1) := by decide +kernel
theorem dX9_wear_22 : decode cX9_wear 22 = .ok (.getfield 16, 3) := by decide +kernel
theorem dX9_wear_25 : decode cX9_wear 25 = .ok (.bipush 40, 2) := by decide +kernel
theorem dX9_wear_27 : decode cX9_wear 27 = .ok (.iload_n 1, 1) := by decide +kernel
theorem dX9_wear_28 : decode cX9_wear 28 = .ok (.imul, 1) := by decide +kernel
theorem dX9_wear_29 : decode cX9_wear 29 = .ok (.iload_n 2, 1) := by decide +kernel
theorem dX9_wear_30 : decode cX9_wear 30 = .ok (.iadd, 1) := by decide +kernel
theorem dX9_wear_31 : decode cX9_wear 31 = .ok (.iaload, 1) := by decide +kernel
theorem dX9_wear_32 : decode cX9_wear 32 = .ok (.istore 4, 2) := by decide +kernel
theorem dX9_wear_34 : decode cX9_wear 34 = .ok (.aload_n 0, 1) := by decide +kernel
theorem dX9_wear_35 : decode cX9_wear 35 = .ok (.bipush 40, 2) := by decide +kernel
theorem dX9_wear_37 : decode cX9_wear 37 = .ok (.iload_n 1, 1) := by decide +kernel
theorem dX9_wear_38 : decode cX9_wear 38 = .ok (.imul, 1) := by decide +kernel
theorem dX9_wear_39 : decode cX9_wear 39 = .ok (.iload_n 2, 1) := by decide +kernel
theorem dX9_wear_40 : decode cX9_wear 40 = .ok (.iadd, 1) := by decide +kernel
theorem dX9_wear_41 : decode cX9_wear 41 = .ok (.iload_n 3, 1) := by decide +kernel
theorem dX9_wear_42 : decode cX9_wear 42 = .ok (.invokevirtual 98, 3) := by decide +kernel
theorem dX9_wear_45 : decode cX9_wear 45 = .ok (.iload 4, 2) := by decide +kernel
theorem dX9_wear_47 : decode cX9_wear 47 = .ok (.ireturn, 1) := by decide +kernel
theorem dX9_place_0 : decode cX9_place 0 = .ok (.iload_n 1, 1) := by decide +kernel
theorem dX9_place_1 : decode cX9_place 1 = .ok (.iconst 0, 1) := by decide +kernel
theorem dX9_place_2 : decode cX9_place 2 = .ok (.bipush 63, 2) := by decide +kernel
theorem dX9_place_4 : decode cX9_place 4 = .ok (.invokestatic 77, 3) := by decide +kernel
theorem dX9_place_7 : decode cX9_place 7 = .ok (.ifCond .eq 12, 3) := by decide +kernel
theorem dX9_place_10 : decode cX9_place 10 = .ok (.iload_n 2, 1) := by decide +kernel
theorem dX9_place_11 : decode cX9_place 11 = .ok (.iconst 0, 1) := by decide +kernel
theorem dX9_place_12 : decode cX9_place 12 = .ok (.iconst 5, 1) := by decide +kernel
theorem dX9_place_13 : decode cX9_place 13 = .ok (.invokestatic 77, 3) := by decide +kernel
theorem dX9_place_16 : decode cX9_place 16 = .ok (.ifCond .ne 5, 3) := by decide +kernel
theorem dX9_place_19 : decode cX9_place 19 = .ok (.iconst (-1), 1) := by decide +kernel
theorem dX9_place_20 : decode cX9_place 20 = .ok (.ireturn, 1) := by decide +kernel
theorem dX9_place_21 : decode cX9_place 21 = .ok (.aload_n 0, 1) := by decide +kernel
theorem dX9_place_22 : decode cX9_place 22 = .ok (.getfield 7, 3) := by decide +kernel
theorem dX9_place_25 : decode cX9_place 25 = .ok (.bipush 6, 2) := by decide +kernel
theorem dX9_place_27 : decode cX9_place 27 = .ok (.iaload, 1) := by decide +kernel
theorem dX9_place_28 : decode cX9_place 28 = .ok (.bipush 40, 2) := by decide +kernel
theorem dX9_place_30 : decode cX9_place 30 = .ok (.if_icmp .ne 6, 3) := by decide +kernel
theorem dX9_place_33 : decode cX9_place 33 = .ok (.bipush (-3), 2) := by decide +kernel
theorem dX9_place_35 : decode cX9_place 35 = .ok (.ireturn, 1) := by decide +kernel
theorem dX9_place_36 : decode cX9_place 36 = .ok (.aload_n 0, 1) := by decide +kernel
theorem dX9_place_37 : decode cX9_place 37 = .ok (.getfield 13, 3) := by decide +kernel
theorem dX9_place_40 : decode cX9_place 40 = .ok (.sipush 240, 3) := by decide +kernel
theorem dX9_place_43 : decode cX9_place 43 = .ok (.aload_n 0, 1) := by decide +kernel
theorem dX9_place_44 : decode cX9_place 44 = .ok (.getfield 7, 3) := by decide +kernel
theorem dX9_place_47 : decode cX9_place 47 = .ok (.bipush 6, 2) := by decide +kernel
theorem dX9_place_49 : decode cX9_place 49 = .ok (.iaload, 1) := by decide +kernel
theorem dX9_place_50 : decode cX9_place 50 = .ok (.iadd, 1) := by decide +kernel
theorem dX9_place_51 : decode cX9_place 51 = .ok (.iload_n 1, 1) := by decide +kernel
theorem dX9_place_52 : decode cX9_place 52 = .ok (.iastore, 1) := by decide +kernel
theorem dX9_place_53 : decode cX9_place 53 = .ok (.aload_n 0, 1) := by decide +kernel
theorem dX9_place_54 : decode cX9_place 54 = .ok (.getfield 22, 3) := by decide +kernel
theorem dX9_place_57 : decode cX9_place 57 = .ok (.aload_n 0, 1) := by decide +kernel
theorem dX9_place_58 : decode cX9_place 58 = .ok (.getfield 7, 3) := by decide +kernel
theorem dX9_place_61 : decode cX9_place 61 = .ok (.bipush 6, 2) := by decide +kernel
theorem dX9_place_63 : decode cX9_place 63 = .ok (.iaload, 1) := by decide +kernel
theorem dX9_place_64 : decode cX9_place 64 = .ok (.iload_n 2, 1) := by decide +kernel
theorem dX9_place_65 : decode cX9_place 65 = .ok (.iastore, 1) := by decide +kernel
theorem dX9_place_66 : decode cX9_place 66 = .ok (.aload_n 0, 1) := by decide +kernel
theorem dX9_place_67 : decode cX9_place 67 = .ok (.getfield 7, 3) := by decide +kernel
theorem dX9_place_70 : decode cX9_place 70 = .ok (.bipush 6, 2) := by decide +kernel
theorem dX9_place_72 : decode cX9_place 72 = .ok (.dup2, 1) := by decide +kernel
theorem dX9_place_73 : decode cX9_place 73 = .ok (.iaload, 1) := by decide +kernel
theorem dX9_place_74 : decode cX9_place 74 = .ok (.iconst 1, 1) := by decide +kernel
theorem dX9_place_75 : decode cX9_place 75 = .ok (.iadd, 1) := by decide +kernel
theorem dX9_place_76 : decode cX9_place 76 = .ok (.iastore, 1) := by decide +kernel
theorem dX9_place_77 : decode cX9_place 77 = .ok (.aload_n 0, 1) := by decide +kernel
theorem dX9_place_78 : decode cX9_place 78 = .ok (.getfield 7, 3) := by decide +kernel
theorem dX9_place_81 : decode cX9_place 81 = .ok (.bipush 6, 2) := by decide +kernel
theorem dX9_place_83 : decode cX9_place 83 = .ok (.iaload, 1) := by decide +kernel
theorem dX9_place_84 : decode cX9_place 84 = .ok (.ireturn, 1) := by decide +kernel
theorem dX9_noScript_0 : decode cX9_noScript 0 = .ok (.aload_n 0, 1) := by decide +kernel
theorem dX9_noScript_1 : decode cX9_noScript 1 = .ok (.getfield 7, 3) := by decide +kernel
theorem dX9_noScript_4 : decode cX9_noScript 4 = .ok (.bipush 6, 2) := by decide +kernel
theorem dX9_noScript_6 : decode cX9_noScript 6 = .ok (.iaload, 1) := by decide +kernel
theorem dX9_noScript_7 : decode cX9_noScript 7 = .ok (.istore_n 1, 1) := by decide +kernel
theorem dX9_noScript_8 : decode cX9_noScript 8 = .ok (.aload_n 0, 1) := by decide +kernel
theorem dX9_noScript_9 : decode cX9_noScript 9 = .ok (.getfield 7, 3) := by decide +kernel
theorem dX9_noScript_12 : decode cX9_noScript 12 = .ok (.bipush 6, 2) := by decide +kernel
theorem dX9_noScript_14 : decode cX9_noScript 14 = .ok (.iconst 0, 1) := by decide +kernel
theorem dX9_noScript_15 : decode cX9_noScript 15 = .ok (.iastore, 1) := by decide +kernel
theorem dX9_noScript_16 : decode cX9_noScript 16 = .ok (.iload_n 1, 1) := by decide +kernel
theorem dX9_noScript_17 : decode cX9_noScript 17 = .ok (.ireturn, 1) := by decide +kernel
theorem dX9_rule_0 : decode cX9_rule 0 = .ok (.iload_n 1, 1) := by decide +kernel
theorem dX9_rule_1 : decode cX9_rule 1 = .ok (.iconst 0, 1) := by decide +kernel
theorem dX9_rule_2 : decode cX9_rule 2 = .ok (.iconst 3, 1) := by decide +kernel
theorem dX9_rule_3 : decode cX9_rule 3 = .ok (.invokestatic 77, 3) := by decide +kernel
theorem dX9_rule_6 : decode cX9_rule 6 = .ok (.ifCond .eq 21, 3) := by decide +kernel
theorem dX9_rule_9 : decode cX9_rule 9 = .ok (.iload_n 2, 1) := by decide +kernel
theorem dX9_rule_10 : decode cX9_rule 10 = .ok (.iconst 0, 1) := by decide +kernel
theorem dX9_rule_11 : decode cX9_rule 11 = .ok (.iload_n 1, 1) := by decide +kernel
theorem dX9_rule_12 : decode cX9_rule 12 = .ok (.ifCond .ne 7, 3) := by decide +kernel
theorem dX9_rule_15 : decode cX9_rule 15 = .ok (.iconst 5, 1) := by decide +kernel
theorem dX9_rule_16 : decode cX9_rule 16 = .ok (.goto 5, 3) := by decide +kernel
theorem dX9_rule_19 : decode cX9_rule 19 = .ok (.bipush 100, 2) := by decide +kernel
theorem dX9_rule_21 : decode cX9_rule 21 = .ok (.invokestatic 77, 3) := by decide +kernel
theorem dX9_rule_24 : decode cX9_rule 24 = .ok (.ifCond .ne 5, 3) := by decide +kernel
theorem dX9_rule_27 : decode cX9_rule 27 = .ok (.iconst (-1), 1) := by decide +kernel
theorem dX9_rule_28 : decode cX9_rule 28 = .ok (.ireturn, 1) := by decide +kernel
theorem dX9_rule_29 : decode cX9_rule 29 = .ok (.aload_n 0, 1) := by decide +kernel
theorem dX9_rule_30 : decode cX9_rule 30 = .ok (.getfield 25, 3) := by decide +kernel
theorem dX9_rule_33 : decode cX9_rule 33 = .ok (.iload_n 1, 1) := by decide +kernel
theorem dX9_rule_34 : decode cX9_rule 34 = .ok (.iaload, 1) := by decide +kernel
theorem dX9_rule_35 : decode cX9_rule 35 = .ok (.istore_n 3, 1) := by decide +kernel
theorem dX9_rule_36 : decode cX9_rule 36 = .ok (.aload_n 0, 1) := by decide +kernel
theorem dX9_rule_37 : decode cX9_rule 37 = .ok (.getfield 25, 3) := by decide +kernel
theorem dX9_rule_40 : decode cX9_rule 40 = .ok (.iload_n 1, 1) := by decide +kernel
theorem dX9_rule_41 : decode cX9_rule 41 = .ok (.iload_n 2, 1) := by decide +kernel
theorem dX9_rule_42 : decode cX9_rule 42 = .ok (.iastore, 1) := by decide +kernel
theorem dX9_rule_43 : decode cX9_rule 43 = .ok (.iload_n 3, 1) := by decide +kernel
theorem dX9_rule_44 : decode cX9_rule 44 = .ok (.ireturn, 1) := by decide +kernel
theorem dX9_pairCost_0 : decode cX9_pairCost 0 = .ok (.aload_n 0, 1) := by decide +kernel
theorem dX9_pairCost_1 : decode cX9_pairCost 1 = .ok (.getfield 13, 3) := by decide +kernel
theorem dX9_pairCost_4 : decode cX9_pairCost 4 = .ok (.bipush 40, 2) := by decide +kernel
theorem dX9_pairCost_6 : decode cX9_pairCost 6 = .ok (.iload_n 1, 1) := by decide +kernel
theorem dX9_pairCost_7 : decode cX9_pairCost 7 = .ok (.imul, 1) := by decide +kernel
theorem dX9_pairCost_8 : decode cX9_pairCost 8 = .ok (.iload_n 2, 1) := by decide +kernel
theorem dX9_pairCost_9 : decode cX9_pairCost 9 = .ok (.iadd, 1) := by decide +kernel
theorem dX9_pairCost_10 : decode cX9_pairCost 10 = .ok (.iaload, 1) := by decide +kernel
theorem dX9_pairCost_11 : decode cX9_pairCost 11 = .ok (.aload_n 0, 1) := by decide +kernel
theorem dX9_pairCost_12 : decode cX9_pairCost 12 = .ok (.getfield 13, 3) := by decide +kernel
theorem dX9_pairCost_15 : decode cX9_pairCost 15 = .ok (.bipush 40, 2) := by decide +kernel
theorem dX9_pairCost_17 : decode cX9_pairCost 17 = .ok (.iload_n 3, 1) := by decide +kernel
theorem dX9_pairCost_18 : decode cX9_pairCost 18 = .ok (.imul, 1) := by decide +kernel
theorem dX9_pairCost_19 : decode cX9_pairCost 19 = .ok (.iload 4, 2) := by decide +kernel
theorem dX9_pairCost_21 : decode cX9_pairCost 21 = .ok (.iadd, 1) := by decide +kernel
theorem dX9_pairCost_22 : decode cX9_pairCost 22 = .ok (.iaload, 1) := by decide +kernel
theorem dX9_pairCost_23 : decode cX9_pairCost 23 = .ok (.isub, 1) := by decide +kernel
theorem dX9_pairCost_24 : decode cX9_pairCost 24 = .ok (.istore 5, 2) := by decide +kernel
theorem dX9_pairCost_26 : decode cX9_pairCost 26 = .ok (.iload 5, 2) := by decide +kernel
theorem dX9_pairCost_28 : decode cX9_pairCost 28 = .ok (.ifCond .ge 9, 3) := by decide +kernel
theorem dX9_pairCost_31 : decode cX9_pairCost 31 = .ok (.iload 5, 2) := by decide +kernel
theorem dX9_pairCost_33 : decode cX9_pairCost 33 = .ok (.ineg, 1) := by decide +kernel
theorem dX9_pairCost_34 : decode cX9_pairCost 34 = .ok (.goto 5, 3) := by decide +kernel
theorem dX9_pairCost_37 : decode cX9_pairCost 37 = .ok (.iload 5, 2) := by decide +kernel
theorem dX9_pairCost_39 : decode cX9_pairCost 39 = .ok (.istore 5, 2) := by decide +kernel
theorem dX9_pairCost_41 : decode cX9_pairCost 41 = .ok (.iload 5, 2) := by decide +kernel
theorem dX9_pairCost_43 : decode cX9_pairCost 43 = .ok (.iconst 5, 1) := by decide +kernel
theorem dX9_pairCost_44 : decode cX9_pairCost 44 = .ok (.if_icmp .le 7, 3) := by decide +kernel
theorem dX9_pairCost_47 : decode cX9_pairCost 47 = .ok (.iconst 5, 1) := by decide +kernel
theorem dX9_pairCost_48 : decode cX9_pairCost 48 = .ok (.goto 5, 3) := by decide +kernel
theorem dX9_pairCost_51 : decode cX9_pairCost 51 = .ok (.iload 5, 2) := by decide +kernel
theorem dX9_pairCost_53 : decode cX9_pairCost 53 = .ok (.ireturn, 1) := by decide +kernel
theorem dX9_lines_0 : decode cX9_lines 0 = .ok (.aload_n 0, 1) := by decide +kernel
theorem dX9_lines_1 : decode cX9_lines 1 = .ok (.getfield 7, 3) := by decide +kernel
theorem dX9_lines_4 : decode cX9_lines 4 = .ok (.iload_n 1, 1) := by decide +kernel
theorem dX9_lines_5 : decode cX9_lines 5 = .ok (.iaload, 1) := by decide +kernel
theorem dX9_lines_6 : decode cX9_lines 6 = .ok (.istore_n 3, 1) := by decide +kernel
theorem dX9_lines_7 : decode cX9_lines 7 = .ok (.aload_n 0, 1) := by decide +kernel
theorem dX9_lines_8 : decode cX9_lines 8 = .ok (.getfield 7, 3) := by decide +kernel
theorem dX9_lines_11 : decode cX9_lines 11 = .ok (.iload_n 2, 1) := by decide +kernel
theorem dX9_lines_12 : decode cX9_lines 12 = .ok (.iaload, 1) := by decide +kernel
theorem dX9_lines_13 : decode cX9_lines 13 = .ok (.istore 4, 2) := by decide +kernel
theorem dX9_lines_15 : decode cX9_lines 15 = .ok (.iload_n 3, 1) := by decide +kernel
theorem dX9_lines_16 : decode cX9_lines 16 = .ok (.istore 5, 2) := by decide +kernel
theorem dX9_lines_18 : decode cX9_lines 18 = .ok (.iload 5, 2) := by decide +kernel
theorem dX9_lines_20 : decode cX9_lines 20 = .ok (.ifCond .lt 212, 3) := by decide +kernel
theorem dX9_lines_23 : decode cX9_lines 23 = .ok (.iload 4, 2) := by decide +kernel
theorem dX9_lines_25 : decode cX9_lines 25 = .ok (.istore 6, 2) := by decide +kernel
theorem dX9_lines_27 : decode cX9_lines 27 = .ok (.iload 6, 2) := by decide +kernel
theorem dX9_lines_29 : decode cX9_lines 29 = .ok (.ifCond .lt 197, 3) := by decide +kernel
theorem dX9_lines_32 : decode cX9_lines 32 = .ok (.iload 5, 2) := by decide +kernel
theorem dX9_lines_34 : decode cX9_lines 34 = .ok (.iload_n 3, 1) := by decide +kernel
theorem dX9_lines_35 : decode cX9_lines 35 = .ok (.if_icmp .ne 14, 3) := by decide +kernel
theorem dX9_lines_38 : decode cX9_lines 38 = .ok (.iload 6, 2) := by decide +kernel
theorem dX9_lines_40 : decode cX9_lines 40 = .ok (.iload 4, 2) := by decide +kernel
theorem dX9_lines_42 : decode cX9_lines 42 = .ok (.if_icmp .ne 7, 3) := by decide +kernel
theorem dX9_lines_45 : decode cX9_lines 45 = .ok (.iconst 0, 1) := by decide +kernel
theorem dX9_lines_46 : decode cX9_lines 46 = .ok (.goto 6, 3) := by decide +kernel
theorem dX9_lines_49 : decode cX9_lines 49 = .ok (.sipush 9999, 3) := by decide +kernel
theorem dX9_lines_52 : decode cX9_lines 52 = .ok (.istore 7, 2) := by decide +kernel
theorem dX9_lines_54 : decode cX9_lines 54 = .ok (.iload 5, 2) := by decide +kernel
theorem dX9_lines_56 : decode cX9_lines 56 = .ok (.iload_n 3, 1) := by decide +kernel
theorem dX9_lines_57 : decode cX9_lines 57 = .ok (.if_icmp .ge 41, 3) := by decide +kernel
theorem dX9_lines_60 : decode cX9_lines 60 = .ok (.iload 6, 2) := by decide +kernel
theorem dX9_lines_62 : decode cX9_lines 62 = .ok (.iload 4, 2) := by decide +kernel
theorem dX9_lines_64 : decode cX9_lines 64 = .ok (.if_icmp .ge 34, 3) := by decide +kernel
theorem dX9_lines_67 : decode cX9_lines 67 = .ok (.aload_n 0, 1) := by decide +kernel
theorem dX9_lines_68 : decode cX9_lines 68 = .ok (.getfield 55, 3) := by decide +kernel
theorem dX9_lines_71 : decode cX9_lines 71 = .ok (.bipush 41, 2) := by decide +kernel
theorem dX9_lines_73 : decode cX9_lines 73 = .ok (.iload 5, 2) := by decide +kernel
theorem dX9_lines_75 : decode cX9_lines 75 = .ok (.imul, 1) := by decide +kernel
theorem dX9_lines_76 : decode cX9_lines 76 = .ok (.bipush 41, 2) := by decide +kernel
theorem dX9_lines_78 : decode cX9_lines 78 = .ok (.iadd, 1) := by decide +kernel
theorem dX9_lines_79 : decode cX9_lines 79 = .ok (.iload 6, 2) := by decide +kernel
theorem dX9_lines_81 : decode cX9_lines 81 = .ok (.iadd, 1) := by decide +kernel
theorem dX9_lines_82 : decode cX9_lines 82 = .ok (.iconst 1, 1) := by decide +kernel
theorem dX9_lines_83 : decode cX9_lines 83 = .ok (.iadd, 1) := by decide +kernel
theorem dX9_lines_84 : decode cX9_lines 84 = .ok (.iaload, 1) := by decide +kernel
theorem dX9_lines_85 : decode cX9_lines 85 = .ok (.aload_n 0, 1) := by decide +kernel
theorem dX9_lines_86 : decode cX9_lines 86 = .ok (.iload_n 1, 1) := by decide +kernel
theorem dX9_lines_87 : decode cX9_lines 87 = .ok (.iload 5, 2) := by decide +kernel
theorem dX9_lines_89 : decode cX9_lines 89 = .ok (.iload_n 2, 1) := by decide +kernel
theorem dX9_lines_90 : decode cX9_lines 90 = .ok (.iload 6, 2) := by decide +kernel
theorem dX9_lines_92 : decode cX9_lines 92 = .ok (.invokevirtual 102, 3) := by decide +kernel
theorem dX9_lines_95 : decode cX9_lines 95 = .ok (.iadd, 1) := by decide +kernel
theorem dX9_lines_96 : decode cX9_lines 96 = .ok (.istore 7, 2) := by decide +kernel
theorem dX9_lines_98 : decode cX9_lines 98 = .ok (.iload 6, 2) := by decide +kernel
theorem dX9_lines_100 : decode cX9_lines 100 = .ok (.iload 4, 2) := by decide +kernel
theorem dX9_lines_102 : decode cX9_lines 102 = .ok (.if_icmp .ge 45, 3) := by decide +kernel
theorem dX9_lines_105 : decode cX9_lines 105 = .ok (.aload_n 0, 1) := by decide +kernel
theorem dX9_lines_106 : decode cX9_lines 106 = .ok (.getfield 55, 3) := by decide +kernel
theorem dX9_lines_109 : decode cX9_lines 109 = .ok (.bipush 41, 2) := by decide +kernel
theorem dX9_lines_111 : decode cX9_lines 111 = .ok (.iload 5, 2) := by decide +kernel
theorem dX9_lines_113 : decode cX9_lines 113 = .ok (.imul, 1) := by decide +kernel
theorem dX9_lines_114 : decode cX9_lines 114 = .ok (.iload 6, 2) := by decide +kernel
theorem dX9_lines_116 : decode cX9_lines 116 = .ok (.iadd, 1) := by decide +kernel
theorem dX9_lines_117 : decode cX9_lines 117 = .ok (.iconst 1, 1) := by decide +kernel
theorem dX9_lines_118 : decode cX9_lines 118 = .ok (.iadd, 1) := by decide +kernel
theorem dX9_lines_119 : decode cX9_lines 119 = .ok (.iaload, 1) := by decide +kernel
theorem dX9_lines_120 : decode cX9_lines 120 = .ok (.iconst 3, 1) := by decide +kernel
theorem dX9_lines_121 : decode cX9_lines 121 = .ok (.iadd, 1) := by decide +kernel
theorem dX9_lines_122 : decode cX9_lines 122 = .ok (.iload 7, 2) := by decide +kernel
theorem dX9_lines_124 : decode cX9_lines 124 = .ok (.if_icmp .ge 23, 3) := by decide +kernel
theorem dX9_lines_127 : decode cX9_lines 127 = .ok (.aload_n 0, 1) := by decide +kernel
theorem dX9_lines_128 : decode cX9_lines 128 = .ok (.getfield 55, 3) := by decide +kernel
theorem dX9_lines_131 : decode cX9_lines 131 = .ok (.bipush 41, 2) := by decide +kernel
theorem dX9_lines_133 : decode cX9_lines 133 = .ok (.iload 5, 2) := by decide +kernel
theorem dX9_lines_135 : decode cX9_lines 135 = .ok (.imul, 1) := by decide +kernel
theorem dX9_lines_136 : decode cX9_lines 136 = .ok (.iload 6, 2) := by decide +kernel
theorem dX9_lines_138 : decode cX9_lines 138 = .ok (.iadd, 1) := by decide +kernel
theorem dX9_lines_139 : decode cX9_lines 139 = .ok (.iconst 1, 1) := by decide +kernel
theorem dX9_lines_140 : decode cX9_lines 140 = .ok (.iadd, 1) := by decide +kernel
theorem dX9_lines_141 : decode cX9_lines 141 = .ok (.iaload, 1) := by decide +kernel
theorem dX9_lines_142 : decode cX9_lines 142 = .ok (.iconst 3, 1) := by decide +kernel
theorem dX9_lines_143 : decode cX9_lines 143 = .ok (.iadd, 1) := by decide +kernel
theorem dX9_lines_144 : decode cX9_lines 144 = .ok (.goto 5, 3) := by decide +kernel
theorem dX9_lines_147 : decode cX9_lines 147 = .ok (.iload 7, 2) := by decide +kernel
theorem dX9_lines_149 : decode cX9_lines 149 = .ok (.istore 7, 2) := by decide +kernel
theorem dX9_lines_151 : decode cX9_lines 151 = .ok (.iload 5, 2) := by decide +kernel
theorem dX9_lines_153 : decode cX9_lines 153 = .ok (.iload_n 3, 1) := by decide +kernel
theorem dX9_lines_154 : decode cX9_lines 154 = .ok (.if_icmp .ge 47, 3) := by decide +kernel
theorem dX9_lines_157 : decode cX9_lines 157 = .ok (.aload_n 0, 1) := by decide +kernel
theorem dX9_lines_158 : decode cX9_lines 158 = .ok (.getfield 55, 3) := by decide +kernel
theorem dX9_lines_161 : decode cX9_lines 161 = .ok (.bipush 41, 2) := by decide +kernel
theorem dX9_lines_163 : decode cX9_lines 163 = .ok (.iload 5, 2) := by decide +kernel
theorem dX9_lines_165 : decode cX9_lines 165 = .ok (.imul, 1) := by decide +kernel
theorem dX9_lines_166 : decode cX9_lines 166 = .ok (.bipush 41, 2) := by decide +kernel
theorem dX9_lines_168 : decode cX9_lines 168 = .ok (.iadd, 1) := by decide +kernel
theorem dX9_lines_169 : decode cX9_lines 169 = .ok (.iload 6, 2) := by decide +kernel
theorem dX9_lines_171 : decode cX9_lines 171 = .ok (.iadd, 1) := by decide +kernel
theorem dX9_lines_172 : decode cX9_lines 172 = .ok (.iaload, 1) := by decide +kernel
theorem dX9_lines_173 : decode cX9_lines 173 = .ok (.iconst 3, 1) := by decide +kernel
theorem dX9_lines_174 : decode cX9_lines 174 = .ok (.iadd, 1) := by decide +kernel
theorem dX9_lines_175 : decode cX9_lines 175 = .ok (.iload 7, 2) := by decide +kernel
theorem dX9_lines_177 : decode cX9_lines 177 = .ok (.if_icmp .ge 24, 3) := by decide +kernel
theorem dX9_lines_180 : decode cX9_lines 180 = .ok (.aload_n 0, 1) := by decide +kernel
theorem dX9_lines_181 : decode cX9_lines 181 = .ok (.getfield 55, 3) := by decide +kernel
theorem dX9_lines_184 : decode cX9_lines 184 = .ok (.bipush 41, 2) := by decide +kernel
theorem dX9_lines_186 : decode cX9_lines 186 = .ok (.iload 5, 2) := by decide +kernel
theorem dX9_lines_188 : decode cX9_lines 188 = .ok (.imul, 1) := by decide +kernel
theorem dX9_lines_189 : decode cX9_lines 189 = .ok (.bipush 41, 2) := by decide +kernel
theorem dX9_lines_191 : decode cX9_lines 191 = .ok (.iadd, 1) := by decide +kernel
theorem dX9_lines_192 : decode cX9_lines 192 = .ok (.iload 6, 2) := by decide +kernel
theorem dX9_lines_194 : decode cX9_lines 194 = .ok (.iadd, 1) := by decide +kernel
theorem dX9_lines_195 : decode cX9_lines 195 = .ok (.iaload, 1) := by decide +kernel
theorem dX9_lines_196 : decode cX9_lines 196 = .ok (.iconst 3, 1) := by decide +kernel
theorem dX9_lines_197 : decode cX9_lines 197 = .ok (.iadd, 1) := by decide +kernel
theorem dX9_lines_198 : decode cX9_lines 198 = .ok (.goto 5, 3) := by decide +kernel
theorem dX9_lines_201 : decode cX9_lines 201 = .ok (.iload 7, 2) := by decide +kernel
theorem dX9_lines_203 : decode cX9_lines 203 = .ok (.istore 7, 2) := by decide +kernel
theorem dX9_lines_205 : decode cX9_lines 205 = .ok (.aload_n 0, 1) := by decide +kernel
theorem dX9_lines_206 : decode cX9_lines 206 = .ok (.getfield 55, 3) := by decide +kernel
theorem dX9_lines_209 : decode cX9_lines 209 = .ok (.bipush 41, 2) := by decide +kernel
theorem dX9_lines_211 : decode cX9_lines 211 = .ok (.iload 5, 2) := by decide +kernel
theorem dX9_lines_213 : decode cX9_lines 213 = .ok (.imul, 1) := by decide +kernel
theorem dX9_lines_214 : decode cX9_lines 214 = .ok (.iload 6, 2) := by decide +kernel
theorem dX9_lines_216 : decode cX9_lines 216 = .ok (.iadd, 1) := by decide +kernel
theorem dX9_lines_217 : decode cX9_lines 217 = .ok (.iload 7, 2) := by decide +kernel
theorem dX9_lines_219 : decode cX9_lines 219 = .ok (.iastore, 1) := by decide +kernel
theorem dX9_lines_220 : decode cX9_lines 220 = .ok (.iinc 6 (-1), 3) := by decide +kernel
theorem dX9_lines_223 : decode cX9_lines 223 = .ok (.goto (-196), 3) := by decide +kernel
theorem dX9_lines_226 : decode cX9_lines 226 = .ok (.iinc 5 (-1), 3) := by decide +kernel
theorem dX9_lines_229 : decode cX9_lines 229 = .ok (.goto (-211), 3) := by decide +kernel
theorem dX9_lines_232 : decode cX9_lines 232 = .ok (.iconst 0, 1) := by decide +kernel
theorem dX9_lines_233 : decode cX9_lines 233 = .ok (.istore 5, 2) := by decide +kernel
theorem dX9_lines_235 : decode cX9_lines 235 = .ok (.iconst 0, 1) := by decide +kernel
theorem dX9_lines_236 : decode cX9_lines 236 = .ok (.istore 6, 2) := by decide +kernel
theorem dX9_lines_238 : decode cX9_lines 238 = .ok (.iload 6, 2) := by decide +kernel
theorem dX9_lines_240 : decode cX9_lines 240 = .ok (.iload_n 3, 1) := by decide +kernel
theorem dX9_lines_241 : decode cX9_lines 241 = .ok (.if_icmp .ge 127, 3) := by decide +kernel
theorem dX9_lines_244 : decode cX9_lines 244 = .ok (.aload_n 0, 1) := by decide +kernel
theorem dX9_lines_245 : decode cX9_lines 245 = .ok (.getfield 55, 3) := by decide +kernel
theorem dX9_lines_248 : decode cX9_lines 248 = .ok (.bipush 41, 2) := by decide +kernel
theorem dX9_lines_250 : decode cX9_lines 250 = .ok (.iload 6, 2) := by decide +kernel
theorem dX9_lines_252 : decode cX9_lines 252 = .ok (.imul, 1) := by decide +kernel
theorem dX9_lines_253 : decode cX9_lines 253 = .ok (.iload 5, 2) := by decide +kernel
theorem dX9_lines_255 : decode cX9_lines 255 = .ok (.iadd, 1) := by decide +kernel
theorem dX9_lines_256 : decode cX9_lines 256 = .ok (.iaload, 1) := by decide +kernel
theorem dX9_lines_257 : decode cX9_lines 257 = .ok (.istore 7, 2) := by decide +kernel
theorem dX9_lines_259 : decode cX9_lines 259 = .ok (.iload 5, 2) := by decide +kernel
theorem dX9_lines_261 : decode cX9_lines 261 = .ok (.iload 4, 2) := by decide +kernel
theorem dX9_lines_263 : decode cX9_lines 263 = .ok (.if_icmp .ge 55, 3) := by decide +kernel
theorem dX9_lines_266 : decode cX9_lines 266 = .ok (.iload 7, 2) := by decide +kernel
theorem dX9_lines_268 : decode cX9_lines 268 = .ok (.aload_n 0, 1) := by decide +kernel
theorem dX9_lines_269 : decode cX9_lines 269 = .ok (.getfield 55, 3) := by decide +kernel
theorem dX9_lines_272 : decode cX9_lines 272 = .ok (.bipush 41, 2) := by decide +kernel
theorem dX9_lines_274 : decode cX9_lines 274 = .ok (.iload 6, 2) := by decide +kernel
theorem dX9_lines_276 : decode cX9_lines 276 = .ok (.imul, 1) := by decide +kernel
theorem dX9_lines_277 : decode cX9_lines 277 = .ok (.bipush 41, 2) := by decide +kernel
theorem dX9_lines_279 : decode cX9_lines 279 = .ok (.iadd, 1) := by decide +kernel
theorem dX9_lines_280 : decode cX9_lines 280 = .ok (.iload 5, 2) := by decide +kernel
theorem dX9_lines_282 : decode cX9_lines 282 = .ok (.iadd, 1) := by decide +kernel
theorem dX9_lines_283 : decode cX9_lines 283 = .ok (.iconst 1, 1) := by decide +kernel
theorem dX9_lines_284 : decode cX9_lines 284 = .ok (.iadd, 1) := by decide +kernel
theorem dX9_lines_285 : decode cX9_lines 285 = .ok (.iaload, 1) := by decide +kernel
theorem dX9_lines_286 : decode cX9_lines 286 = .ok (.aload_n 0, 1) := by decide +kernel
theorem dX9_lines_287 : decode cX9_lines 287 = .ok (.iload_n 1, 1) := by decide +kernel
theorem dX9_lines_288 : decode cX9_lines 288 = .ok (.iload 6, 2) := by decide +kernel
theorem dX9_lines_290 : decode cX9_lines 290 = .ok (.iload_n 2, 1) := by decide +kernel
theorem dX9_lines_291 : decode cX9_lines 291 = .ok (.iload 5, 2) := by decide +kernel
theorem dX9_lines_293 : decode cX9_lines 293 = .ok (.invokevirtual 102, 3) := by decide +kernel
theorem dX9_lines_296 : decode cX9_lines 296 = .ok (.iadd, 1) := by decide +kernel
theorem dX9_lines_297 : decode cX9_lines 297 = .ok (.if_icmp .ne 21, 3) := by decide +kernel
theorem dX9_lines_300 : decode cX9_lines 300 = .ok (.aload_n 0, 1) := by decide +kernel
theorem dX9_lines_301 : decode cX9_lines 301 = .ok (.getfield 58, 3) := by decide +kernel
theorem dX9_lines_304 : decode cX9_lines 304 = .ok (.iload 6, 2) := by decide +kernel
theorem dX9_lines_306 : decode cX9_lines 306 = .ok (.iload 5, 2) := by decide +kernel
theorem dX9_lines_308 : decode cX9_lines 308 = .ok (.iastore, 1) := by decide +kernel
theorem dX9_lines_309 : decode cX9_lines 309 = .ok (.iinc 6 1, 3) := by decide +kernel
theorem dX9_lines_312 : decode cX9_lines 312 = .ok (.iinc 5 1, 3) := by decide +kernel
theorem dX9_lines_315 : decode cX9_lines 315 = .ok (.goto 50, 3) := by decide +kernel
theorem dX9_lines_318 : decode cX9_lines 318 = .ok (.iload 5, 2) := by decide +kernel
theorem dX9_lines_320 : decode cX9_lines 320 = .ok (.iload 4, 2) := by decide +kernel
theorem dX9_lines_322 : decode cX9_lines 322 = .ok (.if_icmp .ge 31, 3) := by decide +kernel
theorem dX9_lines_325 : decode cX9_lines 325 = .ok (.iload 7, 2) := by decide +kernel
theorem dX9_lines_327 : decode cX9_lines 327 = .ok (.aload_n 0, 1) := by decide +kernel
theorem dX9_lines_328 : decode cX9_lines 328 = .ok (.getfield 55, 3) := by decide +kernel
theorem dX9_lines_331 : decode cX9_lines 331 = .ok (.bipush 41, 2) := by decide +kernel
theorem dX9_lines_333 : decode cX9_lines 333 = .ok (.iload 6, 2) := by decide +kernel
theorem dX9_lines_335 : decode cX9_lines 335 = .ok (.imul, 1) := by decide +kernel
theorem dX9_lines_336 : decode cX9_lines 336 = .ok (.iload 5, 2) := by decide +kernel
theorem dX9_lines_338 : decode cX9_lines 338 = .ok (.iadd, 1) := by decide +kernel
theorem dX9_lines_339 : decode cX9_lines 339 = .ok (.iconst 1, 1) := by decide +kernel
theorem dX9_lines_340 : decode cX9_lines 340 = .ok (.iadd, 1) := by decide +kernel
theorem dX9_lines_341 : decode cX9_lines 341 = .ok (.iaload, 1) := by decide +kernel
theorem dX9_lines_342 : decode cX9_lines 342 = .ok (.iconst 3, 1) := by decide +kernel
theorem dX9_lines_343 : decode cX9_lines 343 = .ok (.iadd, 1) := by decide +kernel
theorem dX9_lines_344 : decode cX9_lines 344 = .ok (.if_icmp .ne 9, 3) := by decide +kernel
theorem dX9_lines_347 : decode cX9_lines 347 = .ok (.iinc 5 1, 3) := by decide +kernel
theorem dX9_lines_350 : decode cX9_lines 350 = .ok (.goto 15, 3) := by decide +kernel
theorem dX9_lines_353 : decode cX9_lines 353 = .ok (.aload_n 0, 1) := by decide +kernel
theorem dX9_lines_354 : decode cX9_lines 354 = .ok (.getfield 58, 3) := by decide +kernel
theorem dX9_lines_357 : decode cX9_lines 357 = .ok (.iload 6, 2) := by decide +kernel
theorem dX9_lines_359 : decode cX9_lines 359 = .ok (.bipush (-4), 2) := by decide +kernel
theorem dX9_lines_361 : decode cX9_lines 361 = .ok (.iastore, 1) := by decide +kernel
theorem dX9_lines_362 : decode cX9_lines 362 = .ok (.iinc 6 1, 3) := by decide +kernel
theorem dX9_lines_365 : decode cX9_lines 365 = .ok (.goto (-127), 3) := by decide +kernel
theorem dX9_lines_368 : decode cX9_lines 368 = .ok (.return_, 1) := by decide +kernel
theorem dX9_line_0 : decode cX9_line 0 = .ok (.iload_n 1, 1) := by decide +kernel
theorem dX9_line_1 : decode cX9_line 1 = .ok (.iconst (-1), 1) := by decide +kernel
theorem dX9_line_2 : decode cX9_line 2 = .ok (.if_icmp .eq 11, 3) := by decide +kernel
theorem dX9_line_5 : decode cX9_line 5 = .ok (.aload_n 0, 1) := by decide +kernel
theorem dX9_line_6 : decode cX9_line 6 = .ok (.iload_n 1, 1) := by decide +kernel
theorem dX9_line_7 : decode cX9_line 7 = .ok (.invokevirtual 81, 3) := by decide +kernel
theorem dX9_line_10 : decode cX9_line 10 = .ok (.ifCond .eq 16, 3) := by decide +kernel
theorem dX9_line_13 : decode cX9_line 13 = .ok (.iload_n 2, 1) := by decide +kernel
theorem dX9_line_14 : decode cX9_line 14 = .ok (.iconst (-1), 1) := by decide +kernel
theorem dX9_line_15 : decode cX9_line 15 = .ok (.if_icmp .eq 13, 3) := by decide +kernel
theorem dX9_line_18 : decode cX9_line 18 = .ok (.aload_n 0, 1) := by decide +kernel
theorem dX9_line_19 : decode cX9_line 19 = .ok (.iload_n 2, 1) := by decide +kernel
theorem dX9_line_20 : decode cX9_line 20 = .ok (.invokevirtual 81, 3) := by decide +kernel
theorem dX9_line_23 : decode cX9_line 23 = .ok (.ifCond .ne 5, 3) := by decide +kernel
theorem dX9_line_26 : decode cX9_line 26 = .ok (.iconst (-1), 1) := by decide +kernel
theorem dX9_line_27 : decode cX9_line 27 = .ok (.ireturn, 1) := by decide +kernel
theorem dX9_line_28 : decode cX9_line 28 = .ok (.iload_n 1, 1) := by decide +kernel
theorem dX9_line_29 : decode cX9_line 29 = .ok (.ifCond .ge 8, 3) := by decide +kernel
theorem dX9_line_32 : decode cX9_line 32 = .ok (.bipush 6, 2) := by decide +kernel
theorem dX9_line_34 : decode cX9_line 34 = .ok (.goto 4, 3) := by decide +kernel
theorem dX9_line_37 : decode cX9_line 37 = .ok (.iload_n 1, 1) := by decide +kernel
theorem dX9_line_38 : decode cX9_line 38 = .ok (.istore 4, 2) := by decide +kernel
theorem dX9_line_40 : decode cX9_line 40 = .ok (.iload_n 3, 1) := by decide +kernel
theorem dX9_line_41 : decode cX9_line 41 = .ok (.iconst (-1), 1) := by decide +kernel
theorem dX9_line_42 : decode cX9_line 42 = .ok (.aload_n 0, 1) := by decide +kernel
theorem dX9_line_43 : decode cX9_line 43 = .ok (.getfield 7, 3) := by decide +kernel
theorem dX9_line_46 : decode cX9_line 46 = .ok (.iload 4, 2) := by decide +kernel
theorem dX9_line_48 : decode cX9_line 48 = .ok (.iaload, 1) := by decide +kernel
theorem dX9_line_49 : decode cX9_line 49 = .ok (.iconst 1, 1) := by decide +kernel
theorem dX9_line_50 : decode cX9_line 50 = .ok (.isub, 1) := by decide +kernel
theorem dX9_line_51 : decode cX9_line 51 = .ok (.invokestatic 77, 3) := by decide +kernel
theorem dX9_line_54 : decode cX9_line 54 = .ok (.ifCond .ne 5, 3) := by decide +kernel
theorem dX9_line_57 : decode cX9_line 57 = .ok (.iconst (-1), 1) := by decide +kernel
theorem dX9_line_58 : decode cX9_line 58 = .ok (.ireturn, 1) := by decide +kernel
theorem dX9_line_59 : decode cX9_line 59 = .ok (.aload_n 0, 1) := by decide +kernel
theorem dX9_line_60 : decode cX9_line 60 = .ok (.iload 4, 2) := by decide +kernel
theorem dX9_line_62 : decode cX9_line 62 = .ok (.iload_n 2, 1) := by decide +kernel
theorem dX9_line_63 : decode cX9_line 63 = .ok (.ifCond .ge 8, 3) := by decide +kernel
theorem dX9_line_66 : decode cX9_line 66 = .ok (.bipush 6, 2) := by decide +kernel
theorem dX9_line_68 : decode cX9_line 68 = .ok (.goto 4, 3) := by decide +kernel
theorem dX9_line_71 : decode cX9_line 71 = .ok (.iload_n 2, 1) := by decide +kernel
theorem dX9_line_72 : decode cX9_line 72 = .ok (.invokevirtual 106, 3) := by decide +kernel
theorem dX9_line_75 : decode cX9_line 75 = .ok (.iload_n 3, 1) := by decide +kernel
theorem dX9_line_76 : decode cX9_line 76 = .ok (.ifCond .ge 12, 3) := by decide +kernel
theorem dX9_line_79 : decode cX9_line 79 = .ok (.aload_n 0, 1) := by decide +kernel
theorem dX9_line_80 : decode cX9_line 80 = .ok (.getfield 55, 3) := by decide +kernel
theorem dX9_line_83 : decode cX9_line 83 = .ok (.iconst 0, 1) := by decide +kernel
theorem dX9_line_84 : decode cX9_line 84 = .ok (.iaload, 1) := by decide +kernel
theorem dX9_line_85 : decode cX9_line 85 = .ok (.goto 9, 3) := by decide +kernel
theorem dX9_line_88 : decode cX9_line 88 = .ok (.aload_n 0, 1) := by decide +kernel
theorem dX9_line_89 : decode cX9_line 89 = .ok (.getfield 58, 3) := by decide +kernel
theorem dX9_line_92 : decode cX9_line 92 = .ok (.iload_n 3, 1) := by decide +kernel
theorem dX9_line_93 : decode cX9_line 93 = .ok (.iaload, 1) := by decide +kernel
theorem dX9_line_94 : decode cX9_line 94 = .ok (.ireturn, 1) := by decide +kernel
theorem dX9_standAll_0 : decode cX9_standAll 0 = .ok (.iconst 0, 1) := by decide +kernel
theorem dX9_standAll_1 : decode cX9_standAll 1 = .ok (.istore_n 1, 1) := by decide +kernel
theorem dX9_standAll_2 : decode cX9_standAll 2 = .ok (.iload_n 1, 1) := by decide +kernel
theorem dX9_standAll_3 : decode cX9_standAll 3 = .ok (.aload_n 0, 1) := by decide +kernel
theorem dX9_standAll_4 : decode cX9_standAll 4 = .ok (.getfield 73, 3) := by decide +kernel
theorem dX9_standAll_7 : decode cX9_standAll 7 = .ok (.if_icmp .ge 113, 3) := by decide +kernel
theorem dX9_standAll_10 : decode cX9_standAll 10 = .ok (.aload_n 0, 1) := by decide +kernel
theorem dX9_standAll_11 : decode cX9_standAll 11 = .ok (.bipush 6, 2) := by decide +kernel
theorem dX9_standAll_13 : decode cX9_standAll 13 = .ok (.iload_n 1, 1) := by decide +kernel
theorem dX9_standAll_14 : decode cX9_standAll 14 = .ok (.invokevirtual 106, 3) := by decide +kernel
theorem dX9_standAll_17 : decode cX9_standAll 17 = .ok (.iconst 0, 1) := by decide +kernel
theorem dX9_standAll_18 : decode cX9_standAll 18 = .ok (.istore_n 2, 1) := by decide +kernel
theorem dX9_standAll_19 : decode cX9_standAll 19 = .ok (.iload_n 2, 1) := by decide +kernel
theorem dX9_standAll_20 : decode cX9_standAll 20 = .ok (.aload_n 0, 1) := by decide +kernel
theorem dX9_standAll_21 : decode cX9_standAll 21 = .ok (.getfield 7, 3) := by decide +kernel
theorem dX9_standAll_24 : decode cX9_standAll 24 = .ok (.bipush 6, 2) := by decide +kernel
theorem dX9_standAll_26 : decode cX9_standAll 26 = .ok (.iaload, 1) := by decide +kernel
theorem dX9_standAll_27 : decode cX9_standAll 27 = .ok (.if_icmp .ge 87, 3) := by decide +kernel
theorem dX9_standAll_30 : decode cX9_standAll 30 = .ok (.aload_n 0, 1) := by decide +kernel
theorem dX9_standAll_31 : decode cX9_standAll 31 = .ok (.getfield 58, 3) := by decide +kernel
theorem dX9_standAll_34 : decode cX9_standAll 34 = .ok (.iload_n 2, 1) := by decide +kernel
theorem dX9_standAll_35 : decode cX9_standAll 35 = .ok (.iaload, 1) := by decide +kernel
theorem dX9_standAll_36 : decode cX9_standAll 36 = .ok (.istore_n 3, 1) := by decide +kernel
theorem dX9_standAll_37 : decode cX9_standAll 37 = .ok (.iload_n 3, 1) := by decide +kernel
theorem dX9_standAll_38 : decode cX9_standAll 38 = .ok (.ifCond .ge 8, 3) := by decide +kernel
theorem dX9_standAll_41 : decode cX9_standAll 41 = .ok (.bipush 99, 2) := by decide +kernel
theorem dX9_standAll_43 : decode cX9_standAll 43 = .ok (.goto 25, 3) := by decide +kernel
theorem dX9_standAll_46 : decode cX9_standAll 46 = .ok (.aload_n 0, 1) := by decide +kernel
theorem dX9_standAll_47 : decode cX9_standAll 47 = .ok (.getfield 13, 3) := by decide +kernel
theorem dX9_standAll_50 : decode cX9_standAll 50 = .ok (.sipush 240, 3) := by decide +kernel
theorem dX9_standAll_53 : decode cX9_standAll 53 = .ok (.iload_n 2, 1) := by decide +kernel
theorem dX9_standAll_54 : decode cX9_standAll 54 = .ok (.iadd, 1) := by decide +kernel
theorem dX9_standAll_55 : decode cX9_standAll 55 = .ok (.iaload, 1) := by decide +kernel
theorem dX9_standAll_56 : decode cX9_standAll 56 = .ok (.aload_n 0, 1) := by decide +kernel
theorem dX9_standAll_57 : decode cX9_standAll 57 = .ok (.getfield 13, 3) := by decide +kernel
theorem dX9_standAll_60 : decode cX9_standAll 60 = .ok (.bipush 40, 2) := by decide +kernel
theorem dX9_standAll_62 : decode cX9_standAll 62 = .ok (.iload_n 1, 1) := by decide +kernel
theorem dX9_standAll_63 : decode cX9_standAll 63 = .ok (.imul, 1) := by decide +kernel
theorem dX9_standAll_64 : decode cX9_standAll 64 = .ok (.iload_n 3, 1) := by decide +kernel
theorem dX9_standAll_65 : decode cX9_standAll 65 = .ok (.iadd, 1) := by decide +kernel
theorem dX9_standAll_66 : decode cX9_standAll 66 = .ok (.iaload, 1) := by decide +kernel
theorem dX9_standAll_67 : decode cX9_standAll 67 = .ok (.isub, 1) := by decide +kernel
theorem dX9_standAll_68 : decode cX9_standAll 68 = .ok (.istore 4, 2) := by decide +kernel
theorem dX9_standAll_70 : decode cX9_standAll 70 = .ok (.aload_n 0, 1) := by decide +kernel
theorem dX9_standAll_71 : decode cX9_standAll 71 = .ok (.getfield 61, 3) := by decide +kernel
theorem dX9_standAll_74 : decode cX9_standAll 74 = .ok (.bipush 40, 2) := by decide +kernel
theorem dX9_standAll_76 : decode cX9_standAll 76 = .ok (.iload_n 1, 1) := by decide +kernel
theorem dX9_standAll_77 : decode cX9_standAll 77 = .ok (.imul, 1) := by decide +kernel
theorem dX9_standAll_78 : decode cX9_standAll 78 = .ok (.iload_n 2, 1) := by decide +kernel
theorem dX9_standAll_79 : decode cX9_standAll 79 = .ok (.iadd, 1) := by decide +kernel
theorem dX9_standAll_80 : decode cX9_standAll 80 = .ok (.iload 4, 2) := by decide +kernel
theorem dX9_standAll_82 : decode cX9_standAll 82 = .ok (.aload_n 0, 1) := by decide +kernel
theorem dX9_standAll_83 : decode cX9_standAll 83 = .ok (.getfield 25, 3) := by decide +kernel
theorem dX9_standAll_86 : decode cX9_standAll 86 = .ok (.iconst 0, 1) := by decide +kernel
theorem dX9_standAll_87 : decode cX9_standAll 87 = .ok (.iaload, 1) := by decide +kernel
theorem dX9_standAll_88 : decode cX9_standAll 88 = .ok (.ineg, 1) := by decide +kernel
theorem dX9_standAll_89 : decode cX9_standAll 89 = .ok (.aload_n 0, 1) := by decide +kernel
theorem dX9_standAll_90 : decode cX9_standAll 90 = .ok (.getfield 25, 3) := by decide +kernel
theorem dX9_standAll_93 : decode cX9_standAll 93 = .ok (.iconst 0, 1) := by decide +kernel
theorem dX9_standAll_94 : decode cX9_standAll 94 = .ok (.iaload, 1) := by decide +kernel
theorem dX9_standAll_95 : decode cX9_standAll 95 = .ok (.invokestatic 77, 3) := by decide +kernel
theorem dX9_standAll_98 : decode cX9_standAll 98 = .ok (.ifCond .eq 7, 3) := by decide +kernel
theorem dX9_standAll_101 : decode cX9_standAll 101 = .ok (.iload_n 3, 1) := by decide +kernel
theorem dX9_standAll_102 : decode cX9_standAll 102 = .ok (.goto 5, 3) := by decide +kernel
theorem dX9_standAll_105 : decode cX9_standAll 105 = .ok (.bipush (-4), 2) := by decide +kernel
theorem dX9_standAll_107 : decode cX9_standAll 107 = .ok (.iastore, 1) := by decide +kernel
theorem dX9_standAll_108 : decode cX9_standAll 108 = .ok (.iinc 2 1, 3) := by decide +kernel
theorem dX9_standAll_111 : decode cX9_standAll 111 = .ok (.goto (-92), 3) := by decide +kernel
theorem dX9_standAll_114 : decode cX9_standAll 114 = .ok (.iinc 1 1, 3) := by decide +kernel
theorem dX9_standAll_117 : decode cX9_standAll 117 = .ok (.goto (-115), 3) := by decide +kernel
theorem dX9_standAll_120 : decode cX9_standAll 120 = .ok (.return_, 1) := by decide +kernel
theorem dX9_isPlace_0 : decode cX9_isPlace 0 = .ok (.iload_n 1, 1) := by decide +kernel
theorem dX9_isPlace_1 : decode cX9_isPlace 1 = .ok (.iconst 0, 1) := by decide +kernel
theorem dX9_isPlace_2 : decode cX9_isPlace 2 = .ok (.aload_n 0, 1) := by decide +kernel
theorem dX9_isPlace_3 : decode cX9_isPlace 3 = .ok (.getfield 7, 3) := by decide +kernel
theorem dX9_isPlace_6 : decode cX9_isPlace 6 = .ok (.bipush 6, 2) := by decide +kernel
theorem dX9_isPlace_8 : decode cX9_isPlace 8 = .ok (.iaload, 1) := by decide +kernel
theorem dX9_isPlace_9 : decode cX9_isPlace 9 = .ok (.iconst 1, 1) := by decide +kernel
theorem dX9_isPlace_10 : decode cX9_isPlace 10 = .ok (.isub, 1) := by decide +kernel
theorem dX9_isPlace_11 : decode cX9_isPlace 11 = .ok (.invokestatic 77, 3) := by decide +kernel
theorem dX9_isPlace_14 : decode cX9_isPlace 14 = .ok (.ireturn, 1) := by decide +kernel
theorem dX9_stands_0 : decode cX9_stands 0 = .ok (.aload_n 0, 1) := by decide +kernel
theorem dX9_stands_1 : decode cX9_stands 1 = .ok (.iload_n 1, 1) := by decide +kernel
theorem dX9_stands_2 : decode cX9_stands 2 = .ok (.invokevirtual 81, 3) := by decide +kernel
theorem dX9_stands_5 : decode cX9_stands 5 = .ok (.ifCond .eq 11, 3) := by decide +kernel
theorem dX9_stands_8 : decode cX9_stands 8 = .ok (.aload_n 0, 1) := by decide +kernel
theorem dX9_stands_9 : decode cX9_stands 9 = .ok (.iload_n 2, 1) := by decide +kernel
theorem dX9_stands_10 : decode cX9_stands 10 = .ok (.invokevirtual 109, 3) := by decide +kernel
theorem dX9_stands_13 : decode cX9_stands 13 = .ok (.ifCond .ne 5, 3) := by decide +kernel
theorem dX9_stands_16 : decode cX9_stands 16 = .ok (.iconst (-1), 1) := by decide +kernel
theorem dX9_stands_17 : decode cX9_stands 17 = .ok (.ireturn, 1) := by decide +kernel
theorem dX9_stands_18 : decode cX9_stands 18 = .ok (.aload_n 0, 1) := by decide +kernel
theorem dX9_stands_19 : decode cX9_stands 19 = .ok (.invokevirtual 112, 3) := by decide +kernel
theorem dX9_stands_22 : decode cX9_stands 22 = .ok (.aload_n 0, 1) := by decide +kernel
theorem dX9_stands_23 : decode cX9_stands 23 = .ok (.getfield 61, 3) := by decide +kernel
theorem dX9_stands_26 : decode cX9_stands 26 = .ok (.bipush 40, 2) := by decide +kernel
theorem dX9_stands_28 : decode cX9_stands 28 = .ok (.iload_n 1, 1) := by decide +kernel
theorem dX9_stands_29 : decode cX9_stands 29 = .ok (.imul, 1) := by decide +kernel
theorem dX9_stands_30 : decode cX9_stands 30 = .ok (.iload_n 2, 1) := by decide +kernel
theorem dX9_stands_31 : decode cX9_stands 31 = .ok (.iadd, 1) := by decide +kernel
theorem dX9_stands_32 : decode cX9_stands 32 = .ok (.iaload, 1) := by decide +kernel
theorem dX9_stands_33 : decode cX9_stands 33 = .ok (.ireturn, 1) := by decide +kernel
theorem dX9_may_0 : decode cX9_may 0 = .ok (.iload_n 2, 1) := by decide +kernel
theorem dX9_may_1 : decode cX9_may 1 = .ok (.bipush 6, 2) := by decide +kernel
theorem dX9_may_3 : decode cX9_may 3 = .ok (.if_icmp .eq 25, 3) := by decide +kernel
theorem dX9_may_6 : decode cX9_may 6 = .ok (.iload_n 2, 1) := by decide +kernel
theorem dX9_may_7 : decode cX9_may 7 = .ok (.aload_n 0, 1) := by decide +kernel
theorem dX9_may_8 : decode cX9_may 8 = .ok (.getfield 73, 3) := by decide +kernel
theorem dX9_may_11 : decode cX9_may 11 = .ok (.if_icmp .ge 21, 3) := by decide +kernel
theorem dX9_may_14 : decode cX9_may 14 = .ok (.aload_n 0, 1) := by decide +kernel
theorem dX9_may_15 : decode cX9_may 15 = .ok (.getfield 61, 3) := by decide +kernel
theorem dX9_may_18 : decode cX9_may 18 = .ok (.bipush 40, 2) := by decide +kernel
theorem dX9_may_20 : decode cX9_may 20 = .ok (.iload_n 2, 1) := by decide +kernel
theorem dX9_may_21 : decode cX9_may 21 = .ok (.imul, 1) := by decide +kernel
theorem dX9_may_22 : decode cX9_may 22 = .ok (.iload_n 1, 1) := by decide +kernel
theorem dX9_may_23 : decode cX9_may 23 = .ok (.iadd, 1) := by decide +kernel
theorem dX9_may_24 : decode cX9_may 24 = .ok (.iaload, 1) := by decide +kernel
theorem dX9_may_25 : decode cX9_may 25 = .ok (.ifCond .lt 7, 3) := by decide +kernel
theorem dX9_may_28 : decode cX9_may 28 = .ok (.iconst 1, 1) := by decide +kernel
theorem dX9_may_29 : decode cX9_may 29 = .ok (.goto 4, 3) := by decide +kernel
theorem dX9_may_32 : decode cX9_may 32 = .ok (.iconst 0, 1) := by decide +kernel
theorem dX9_may_33 : decode cX9_may 33 = .ok (.ireturn, 1) := by decide +kernel
theorem dX9_worn_0 : decode cX9_worn 0 = .ok (.aload_n 0, 1) := by decide +kernel
theorem dX9_worn_1 : decode cX9_worn 1 = .ok (.getfield 16, 3) := by decide +kernel
theorem dX9_worn_4 : decode cX9_worn 4 = .ok (.bipush 40, 2) := by decide +kernel
theorem dX9_worn_6 : decode cX9_worn 6 = .ok (.iload_n 1, 1) := by decide +kernel
theorem dX9_worn_7 : decode cX9_worn 7 = .ok (.imul, 1) := by decide +kernel
theorem dX9_worn_8 : decode cX9_worn 8 = .ok (.aload_n 0, 1) := by decide +kernel
theorem dX9_worn_9 : decode cX9_worn 9 = .ok (.getfield 61, 3) := by decide +kernel
theorem dX9_worn_12 : decode cX9_worn 12 = .ok (.bipush 40, 2) := by decide +kernel
theorem dX9_worn_14 : decode cX9_worn 14 = .ok (.iload_n 1, 1) := by decide +kernel
theorem dX9_worn_15 : decode cX9_worn 15 = .ok (.imul, 1) := by decide +kernel
theorem dX9_worn_16 : decode cX9_worn 16 = .ok (.iload_n 2, 1) := by decide +kernel
theorem dX9_worn_17 : decode cX9_worn 17 = .ok (.iadd, 1) := by decide +kernel
theorem dX9_worn_18 : decode cX9_worn 18 = .ok (.iaload, 1) := by decide +kernel
theorem dX9_worn_19 : decode cX9_worn 19 = .ok (.iadd, 1) := by decide +kernel
theorem dX9_worn_20 : decode cX9_worn 20 = .ok (.iaload, 1) := by decide +kernel
theorem dX9_worn_21 : decode cX9_worn 21 = .ok (.ireturn, 1) := by decide +kernel
theorem dX9_view_0 : decode cX9_view 0 = .ok (.aload_n 0, 1) := by decide +kernel
theorem dX9_view_1 : decode cX9_view 1 = .ok (.getfield 19, 3) := by decide +kernel
theorem dX9_view_4 : decode cX9_view 4 = .ok (.bipush 40, 2) := by decide +kernel
theorem dX9_view_6 : decode cX9_view 6 = .ok (.iload_n 1, 1) := by decide +kernel
theorem dX9_view_7 : decode cX9_view 7 = .ok (.imul, 1) := by decide +kernel
theorem dX9_view_8 : decode cX9_view 8 = .ok (.aload_n 0, 1) := by decide +kernel
theorem dX9_view_9 : decode cX9_view 9 = .ok (.getfield 61, 3) := by decide +kernel
theorem dX9_view_12 : decode cX9_view 12 = .ok (.bipush 40, 2) := by decide +kernel
theorem dX9_view_14 : decode cX9_view 14 = .ok (.iload_n 1, 1) := by decide +kernel
theorem dX9_view_15 : decode cX9_view 15 = .ok (.imul, 1) := by decide +kernel
theorem dX9_view_16 : decode cX9_view 16 = .ok (.iload_n 2, 1) := by decide +kernel
theorem dX9_view_17 : decode cX9_view 17 = .ok (.iadd, 1) := by decide +kernel
theorem dX9_view_18 : decode cX9_view 18 = .ok (.iaload, 1) := by decide +kernel
theorem dX9_view_19 : decode cX9_view 19 = .ok (.iadd, 1) := by decide +kernel
theorem dX9_view_20 : decode cX9_view 20 = .ok (.iaload, 1) := by decide +kernel
theorem dX9_view_21 : decode cX9_view 21 = .ok (.ireturn, 1) := by decide +kernel
theorem dX9_between_0 : decode cX9_between 0 = .ok (.iload_n 2, 1) := by decide +kernel
theorem dX9_between_1 : decode cX9_between 1 = .ok (.bipush 6, 2) := by decide +kernel
theorem dX9_between_3 : decode cX9_between 3 = .ok (.if_icmp .eq 26, 3) := by decide +kernel
theorem dX9_between_6 : decode cX9_between 6 = .ok (.iload_n 3, 1) := by decide +kernel
theorem dX9_between_7 : decode cX9_between 7 = .ok (.bipush 6, 2) := by decide +kernel
theorem dX9_between_9 : decode cX9_between 9 = .ok (.if_icmp .eq 20, 3) := by decide +kernel
theorem dX9_between_12 : decode cX9_between 12 = .ok (.aload_n 0, 1) := by decide +kernel
theorem dX9_between_13 : decode cX9_between 13 = .ok (.getfield 22, 3) := by decide +kernel
theorem dX9_between_16 : decode cX9_between 16 = .ok (.iload_n 1, 1) := by decide +kernel
theorem dX9_between_17 : decode cX9_between 17 = .ok (.iaload, 1) := by decide +kernel
theorem dX9_between_18 : decode cX9_between 18 = .ok (.aload_n 0, 1) := by decide +kernel
theorem dX9_between_19 : decode cX9_between 19 = .ok (.getfield 22, 3) := by decide +kernel
theorem dX9_between_22 : decode cX9_between 22 = .ok (.iload_n 1, 1) := by decide +kernel
theorem dX9_between_23 : decode cX9_between 23 = .ok (.iconst 1, 1) := by decide +kernel
theorem dX9_between_24 : decode cX9_between 24 = .ok (.iadd, 1) := by decide +kernel
theorem dX9_between_25 : decode cX9_between 25 = .ok (.iaload, 1) := by decide +kernel
theorem dX9_between_26 : decode cX9_between 26 = .ok (.if_icmp .eq 5, 3) := by decide +kernel
theorem dX9_between_29 : decode cX9_between 29 = .ok (.iconst 0, 1) := by decide +kernel
theorem dX9_between_30 : decode cX9_between 30 = .ok (.ireturn, 1) := by decide +kernel
theorem dX9_between_31 : decode cX9_between 31 = .ok (.iload_n 2, 1) := by decide +kernel
theorem dX9_between_32 : decode cX9_between 32 = .ok (.iload_n 3, 1) := by decide +kernel
theorem dX9_between_33 : decode cX9_between 33 = .ok (.if_icmp .ne 7, 3) := by decide +kernel
theorem dX9_between_36 : decode cX9_between 36 = .ok (.iconst 0, 1) := by decide +kernel
theorem dX9_between_37 : decode cX9_between 37 = .ok (.goto 9, 3) := by decide +kernel
theorem dX9_between_40 : decode cX9_between 40 = .ok (.aload_n 0, 1) := by decide +kernel
theorem dX9_between_41 : decode cX9_between 41 = .ok (.getfield 25, 3) := by decide +kernel
theorem dX9_between_44 : decode cX9_between 44 = .ok (.iconst 2, 1) := by decide +kernel
theorem dX9_between_45 : decode cX9_between 45 = .ok (.iaload, 1) := by decide +kernel
theorem dX9_between_46 : decode cX9_between 46 = .ok (.aload_n 0, 1) := by decide +kernel
theorem dX9_between_47 : decode cX9_between 47 = .ok (.iload_n 2, 1) := by decide +kernel
theorem dX9_between_48 : decode cX9_between 48 = .ok (.iload_n 1, 1) := by decide +kernel
theorem dX9_between_49 : decode cX9_between 49 = .ok (.invokevirtual 115, 3) := by decide +kernel
theorem dX9_between_52 : decode cX9_between 52 = .ok (.aload_n 0, 1) := by decide +kernel
theorem dX9_between_53 : decode cX9_between 53 = .ok (.iload_n 3, 1) := by decide +kernel
theorem dX9_between_54 : decode cX9_between 54 = .ok (.iload_n 1, 1) := by decide +kernel
theorem dX9_between_55 : decode cX9_between 55 = .ok (.iconst 1, 1) := by decide +kernel
theorem dX9_between_56 : decode cX9_between 56 = .ok (.iadd, 1) := by decide +kernel
theorem dX9_between_57 : decode cX9_between 57 = .ok (.invokevirtual 115, 3) := by decide +kernel
theorem dX9_between_60 : decode cX9_between 60 = .ok (.if_icmp .ne 7, 3) := by decide +kernel
theorem dX9_between_63 : decode cX9_between 63 = .ok (.iconst 0, 1) := by decide +kernel
theorem dX9_between_64 : decode cX9_between 64 = .ok (.goto 9, 3) := by decide +kernel
theorem dX9_between_67 : decode cX9_between 67 = .ok (.aload_n 0, 1) := by decide +kernel
theorem dX9_between_68 : decode cX9_between 68 = .ok (.getfield 25, 3) := by decide +kernel
theorem dX9_between_71 : decode cX9_between 71 = .ok (.iconst 3, 1) := by decide +kernel
theorem dX9_between_72 : decode cX9_between 72 = .ok (.iaload, 1) := by decide +kernel
theorem dX9_between_73 : decode cX9_between 73 = .ok (.iadd, 1) := by decide +kernel
theorem dX9_between_74 : decode cX9_between 74 = .ok (.ireturn, 1) := by decide +kernel
theorem dX9_own_0 : decode cX9_own 0 = .ok (.iload_n 2, 1) := by decide +kernel
theorem dX9_own_1 : decode cX9_own 1 = .ok (.bipush 6, 2) := by decide +kernel
theorem dX9_own_3 : decode cX9_own 3 = .ok (.if_icmp .ne 12, 3) := by decide +kernel
theorem dX9_own_6 : decode cX9_own 6 = .ok (.aload_n 0, 1) := by decide +kernel
theorem dX9_own_7 : decode cX9_own 7 = .ok (.getfield 25, 3) := by decide +kernel
theorem dX9_own_10 : decode cX9_own 10 = .ok (.iconst 1, 1) := by decide +kernel
theorem dX9_own_11 : decode cX9_own 11 = .ok (.iaload, 1) := by decide +kernel
theorem dX9_own_12 : decode cX9_own 12 = .ok (.goto 9, 3) := by decide +kernel
theorem dX9_own_15 : decode cX9_own 15 = .ok (.aload_n 0, 1) := by decide +kernel
theorem dX9_own_16 : decode cX9_own 16 = .ok (.iload_n 2, 1) := by decide +kernel
theorem dX9_own_17 : decode cX9_own 17 = .ok (.iload_n 1, 1) := by decide +kernel
theorem dX9_own_18 : decode cX9_own 18 = .ok (.invokevirtual 119, 3) := by decide +kernel
theorem dX9_own_21 : decode cX9_own 21 = .ok (.ireturn, 1) := by decide +kernel
theorem dX9_rest_0 : decode cX9_rest 0 = .ok (.ldc 122, 2) := by decide +kernel
theorem dX9_rest_2 : decode cX9_rest 2 = .ok (.istore_n 3, 1) := by decide +kernel
theorem dX9_rest_3 : decode cX9_rest 3 = .ok (.iconst 0, 1) := by decide +kernel
theorem dX9_rest_4 : decode cX9_rest 4 = .ok (.istore 4, 2) := by decide +kernel
theorem dX9_rest_6 : decode cX9_rest 6 = .ok (.iload 4, 2) := by decide +kernel
theorem dX9_rest_8 : decode cX9_rest 8 = .ok (.bipush 6, 2) := by decide +kernel
theorem dX9_rest_10 : decode cX9_rest 10 = .ok (.if_icmp .gt 72, 3) := by decide +kernel
theorem dX9_rest_13 : decode cX9_rest 13 = .ok (.iload_n 1, 1) := by decide +kernel
theorem dX9_rest_14 : decode cX9_rest 14 = .ok (.iconst 1, 1) := by decide +kernel
theorem dX9_rest_15 : decode cX9_rest 15 = .ok (.iadd, 1) := by decide +kernel
theorem dX9_rest_16 : decode cX9_rest 16 = .ok (.aload_n 0, 1) := by decide +kernel
theorem dX9_rest_17 : decode cX9_rest 17 = .ok (.getfield 7, 3) := by decide +kernel
theorem dX9_rest_20 : decode cX9_rest 20 = .ok (.bipush 6, 2) := by decide +kernel
theorem dX9_rest_22 : decode cX9_rest 22 = .ok (.iaload, 1) := by decide +kernel
theorem dX9_rest_23 : decode cX9_rest 23 = .ok (.if_icmp .ge 59, 3) := by decide +kernel
theorem dX9_rest_26 : decode cX9_rest 26 = .ok (.aload_n 0, 1) := by decide +kernel
theorem dX9_rest_27 : decode cX9_rest 27 = .ok (.iload_n 1, 1) := by decide +kernel
theorem dX9_rest_28 : decode cX9_rest 28 = .ok (.iconst 1, 1) := by decide +kernel
theorem dX9_rest_29 : decode cX9_rest 29 = .ok (.iadd, 1) := by decide +kernel
theorem dX9_rest_30 : decode cX9_rest 30 = .ok (.iload 4, 2) := by decide +kernel
theorem dX9_rest_32 : decode cX9_rest 32 = .ok (.invokevirtual 123, 3) := by decide +kernel
theorem dX9_rest_35 : decode cX9_rest 35 = .ok (.ifCond .eq 41, 3) := by decide +kernel
theorem dX9_rest_38 : decode cX9_rest 38 = .ok (.aload_n 0, 1) := by decide +kernel
theorem dX9_rest_39 : decode cX9_rest 39 = .ok (.getfield 64, 3) := by decide +kernel
theorem dX9_rest_42 : decode cX9_rest 42 = .ok (.bipush 7, 2) := by decide +kernel
theorem dX9_rest_44 : decode cX9_rest 44 = .ok (.iload_n 1, 1) := by decide +kernel
theorem dX9_rest_45 : decode cX9_rest 45 = .ok (.iconst 1, 1) := by decide +kernel
theorem dX9_rest_46 : decode cX9_rest 46 = .ok (.iadd, 1) := by decide +kernel
theorem dX9_rest_47 : decode cX9_rest 47 = .ok (.imul, 1) := by decide +kernel
theorem dX9_rest_48 : decode cX9_rest 48 = .ok (.iload 4, 2) := by decide +kernel
theorem dX9_rest_50 : decode cX9_rest 50 = .ok (.iadd, 1) := by decide +kernel
theorem dX9_rest_51 : decode cX9_rest 51 = .ok (.iaload, 1) := by decide +kernel
theorem dX9_rest_52 : decode cX9_rest 52 = .ok (.aload_n 0, 1) := by decide +kernel
theorem dX9_rest_53 : decode cX9_rest 53 = .ok (.iload_n 1, 1) := by decide +kernel
theorem dX9_rest_54 : decode cX9_rest 54 = .ok (.iload_n 2, 1) := by decide +kernel
theorem dX9_rest_55 : decode cX9_rest 55 = .ok (.iload 4, 2) := by decide +kernel
theorem dX9_rest_57 : decode cX9_rest 57 = .ok (.invokevirtual 126, 3) := by decide +kernel
theorem dX9_rest_60 : decode cX9_rest 60 = .ok (.iadd, 1) := by decide +kernel
theorem dX9_rest_61 : decode cX9_rest 61 = .ok (.istore 5, 2) := by decide +kernel
theorem dX9_rest_63 : decode cX9_rest 63 = .ok (.iload 5, 2) := by decide +kernel
theorem dX9_rest_65 : decode cX9_rest 65 = .ok (.iload_n 3, 1) := by decide +kernel
theorem dX9_rest_66 : decode cX9_rest 66 = .ok (.if_icmp .ge 8, 3) := by decide +kernel
theorem dX9_rest_69 : decode cX9_rest 69 = .ok (.iload 5, 2) := by decide +kernel
theorem dX9_rest_71 : decode cX9_rest 71 = .ok (.goto 4, 3) := by decide +kernel
theorem dX9_rest_74 : decode cX9_rest 74 = .ok (.iload_n 3, 1) := by decide +kernel
theorem dX9_rest_75 : decode cX9_rest 75 = .ok (.istore_n 3, 1) := by decide +kernel
theorem dX9_rest_76 : decode cX9_rest 76 = .ok (.iinc 4 1, 3) := by decide +kernel
theorem dX9_rest_79 : decode cX9_rest 79 = .ok (.goto (-73), 3) := by decide +kernel
theorem dX9_rest_82 : decode cX9_rest 82 = .ok (.iload_n 1, 1) := by decide +kernel
theorem dX9_rest_83 : decode cX9_rest 83 = .ok (.iconst 1, 1) := by decide +kernel
theorem dX9_rest_84 : decode cX9_rest 84 = .ok (.iadd, 1) := by decide +kernel
theorem dX9_rest_85 : decode cX9_rest 85 = .ok (.aload_n 0, 1) := by decide +kernel
theorem dX9_rest_86 : decode cX9_rest 86 = .ok (.getfield 7, 3) := by decide +kernel
theorem dX9_rest_89 : decode cX9_rest 89 = .ok (.bipush 6, 2) := by decide +kernel
theorem dX9_rest_91 : decode cX9_rest 91 = .ok (.iaload, 1) := by decide +kernel
theorem dX9_rest_92 : decode cX9_rest 92 = .ok (.if_icmp .ne 7, 3) := by decide +kernel
theorem dX9_rest_95 : decode cX9_rest 95 = .ok (.iconst 0, 1) := by decide +kernel
theorem dX9_rest_96 : decode cX9_rest 96 = .ok (.goto 4, 3) := by decide +kernel
theorem dX9_rest_99 : decode cX9_rest 99 = .ok (.iload_n 3, 1) := by decide +kernel
theorem dX9_rest_100 : decode cX9_rest 100 = .ok (.ireturn, 1) := by decide +kernel
theorem dX9_wholes_0 : decode cX9_wholes 0 = .ok (.aload_n 0, 1) := by decide +kernel
theorem dX9_wholes_1 : decode cX9_wholes 1 = .ok (.invokevirtual 112, 3) := by decide +kernel
theorem dX9_wholes_4 : decode cX9_wholes 4 = .ok (.aload_n 0, 1) := by decide +kernel
theorem dX9_wholes_5 : decode cX9_wholes 5 = .ok (.getfield 7, 3) := by decide +kernel
theorem dX9_wholes_8 : decode cX9_wholes 8 = .ok (.bipush 6, 2) := by decide +kernel
theorem dX9_wholes_10 : decode cX9_wholes 10 = .ok (.iaload, 1) := by decide +kernel
theorem dX9_wholes_11 : decode cX9_wholes 11 = .ok (.istore_n 1, 1) := by decide +kernel
theorem dX9_wholes_12 : decode cX9_wholes 12 = .ok (.iload_n 1, 1) := by decide +kernel
theorem dX9_wholes_13 : decode cX9_wholes 13 = .ok (.iconst 1, 1) := by decide +kernel
theorem dX9_wholes_14 : decode cX9_wholes 14 = .ok (.isub, 1) := by decide +kernel
theorem dX9_wholes_15 : decode cX9_wholes 15 = .ok (.istore_n 2, 1) := by decide +kernel
theorem dX9_wholes_16 : decode cX9_wholes 16 = .ok (.iload_n 2, 1) := by decide +kernel
theorem dX9_wholes_17 : decode cX9_wholes 17 = .ok (.ifCond .lt 61, 3) := by decide +kernel
theorem dX9_wholes_20 : decode cX9_wholes 20 = .ok (.iconst 0, 1) := by decide +kernel
theorem dX9_wholes_21 : decode cX9_wholes 21 = .ok (.istore_n 3, 1) := by decide +kernel
theorem dX9_wholes_22 : decode cX9_wholes 22 = .ok (.iload_n 3, 1) := by decide +kernel
theorem dX9_wholes_23 : decode cX9_wholes 23 = .ok (.bipush 6, 2) := by decide +kernel
theorem dX9_wholes_25 : decode cX9_wholes 25 = .ok (.if_icmp .gt 47, 3) := by decide +kernel
theorem dX9_wholes_28 : decode cX9_wholes 28 = .ok (.aload_n 0, 1) := by decide +kernel
theorem dX9_wholes_29 : decode cX9_wholes 29 = .ok (.getfield 64, 3) := by decide +kernel
theorem dX9_wholes_32 : decode cX9_wholes 32 = .ok (.bipush 7, 2) := by decide +kernel
theorem dX9_wholes_34 : decode cX9_wholes 34 = .ok (.iload_n 2, 1) := by decide +kernel
theorem dX9_wholes_35 : decode cX9_wholes 35 = .ok (.imul, 1) := by decide +kernel
theorem dX9_wholes_36 : decode cX9_wholes 36 = .ok (.iload_n 3, 1) := by decide +kernel
theorem dX9_wholes_37 : decode cX9_wholes 37 = .ok (.iadd, 1) := by decide +kernel
theorem dX9_wholes_38 : decode cX9_wholes 38 = .ok (.aload_n 0, 1) := by decide +kernel
theorem dX9_wholes_39 : decode cX9_wholes 39 = .ok (.iload_n 2, 1) := by decide +kernel
theorem dX9_wholes_40 : decode cX9_wholes 40 = .ok (.iload_n 3, 1) := by decide +kernel
theorem dX9_wholes_41 : decode cX9_wholes 41 = .ok (.invokevirtual 123, 3) := by decide +kernel
theorem dX9_wholes_44 : decode cX9_wholes 44 = .ok (.ifCond .eq 19, 3) := by decide +kernel
theorem dX9_wholes_47 : decode cX9_wholes 47 = .ok (.aload_n 0, 1) := by decide +kernel
theorem dX9_wholes_48 : decode cX9_wholes 48 = .ok (.iload_n 2, 1) := by decide +kernel
theorem dX9_wholes_49 : decode cX9_wholes 49 = .ok (.iload_n 3, 1) := by decide +kernel
theorem dX9_wholes_50 : decode cX9_wholes 50 = .ok (.invokevirtual 130, 3) := by decide +kernel
theorem dX9_wholes_53 : decode cX9_wholes 53 = .ok (.aload_n 0, 1) := by decide +kernel
theorem dX9_wholes_54 : decode cX9_wholes 54 = .ok (.iload_n 2, 1) := by decide +kernel
theorem dX9_wholes_55 : decode cX9_wholes 55 = .ok (.iload_n 3, 1) := by decide +kernel
theorem dX9_wholes_56 : decode cX9_wholes 56 = .ok (.invokevirtual 133, 3) := by decide +kernel
theorem dX9_wholes_59 : decode cX9_wholes 59 = .ok (.iadd, 1) := by decide +kernel
theorem dX9_wholes_60 : decode cX9_wholes 60 = .ok (.goto 5, 3) := by decide +kernel
theorem dX9_wholes_63 : decode cX9_wholes 63 = .ok (.ldc 122, 2) := by decide +kernel
theorem dX9_wholes_65 : decode cX9_wholes 65 = .ok (.iastore, 1) := by decide +kernel
theorem dX9_wholes_66 : decode cX9_wholes 66 = .ok (.iinc 3 1, 3) := by decide +kernel
theorem dX9_wholes_69 : decode cX9_wholes 69 = .ok (.goto (-47), 3) := by decide +kernel
theorem dX9_wholes_72 : decode cX9_wholes 72 = .ok (.iinc 2 (-1), 3) := by decide +kernel
theorem dX9_wholes_75 : decode cX9_wholes 75 = .ok (.goto (-59), 3) := by decide +kernel
theorem dX9_wholes_78 : decode cX9_wholes 78 = .ok (.iconst 0, 1) := by decide +kernel
theorem dX9_wholes_79 : decode cX9_wholes 79 = .ok (.istore_n 2, 1) := by decide +kernel
theorem dX9_wholes_80 : decode cX9_wholes 80 = .ok (.iconst 0, 1) := by decide +kernel
theorem dX9_wholes_81 : decode cX9_wholes 81 = .ok (.istore_n 3, 1) := by decide +kernel
theorem dX9_wholes_82 : decode cX9_wholes 82 = .ok (.iload_n 3, 1) := by decide +kernel
theorem dX9_wholes_83 : decode cX9_wholes 83 = .ok (.iload_n 1, 1) := by decide +kernel
theorem dX9_wholes_84 : decode cX9_wholes 84 = .ok (.if_icmp .ge 114, 3) := by decide +kernel
theorem dX9_wholes_87 : decode cX9_wholes 87 = .ok (.ldc 122, 2) := by decide +kernel
theorem dX9_wholes_89 : decode cX9_wholes 89 = .ok (.istore 4, 2) := by decide +kernel
theorem dX9_wholes_91 : decode cX9_wholes 91 = .ok (.iconst 0, 1) := by decide +kernel
theorem dX9_wholes_92 : decode cX9_wholes 92 = .ok (.istore 5, 2) := by decide +kernel
theorem dX9_wholes_94 : decode cX9_wholes 94 = .ok (.iload 5, 2) := by decide +kernel
theorem dX9_wholes_96 : decode cX9_wholes 96 = .ok (.bipush 6, 2) := by decide +kernel
theorem dX9_wholes_98 : decode cX9_wholes 98 = .ok (.if_icmp .gt 83, 3) := by decide +kernel
theorem dX9_wholes_101 : decode cX9_wholes 101 = .ok (.aload_n 0, 1) := by decide +kernel
theorem dX9_wholes_102 : decode cX9_wholes 102 = .ok (.iload_n 3, 1) := by decide +kernel
theorem dX9_wholes_103 : decode cX9_wholes 103 = .ok (.iload 5, 2) := by decide +kernel
theorem dX9_wholes_105 : decode cX9_wholes 105 = .ok (.invokevirtual 123, 3) := by decide +kernel
theorem dX9_wholes_108 : decode cX9_wholes 108 = .ok (.ifCond .eq 44, 3) := by decide +kernel
theorem dX9_wholes_111 : decode cX9_wholes 111 = .ok (.aload_n 0, 1) := by decide +kernel
theorem dX9_wholes_112 : decode cX9_wholes 112 = .ok (.getfield 64, 3) := by decide +kernel
theorem dX9_wholes_115 : decode cX9_wholes 115 = .ok (.bipush 7, 2) := by decide +kernel
theorem dX9_wholes_117 : decode cX9_wholes 117 = .ok (.iload_n 3, 1) := by decide +kernel
theorem dX9_wholes_118 : decode cX9_wholes 118 = .ok (.imul, 1) := by decide +kernel
theorem dX9_wholes_119 : decode cX9_wholes 119 = .ok (.iload 5, 2) := by decide +kernel
theorem dX9_wholes_121 : decode cX9_wholes 121 = .ok (.iadd, 1) := by decide +kernel
theorem dX9_wholes_122 : decode cX9_wholes 122 = .ok (.iaload, 1) := by decide +kernel
theorem dX9_wholes_123 : decode cX9_wholes 123 = .ok (.iload_n 3, 1) := by decide +kernel
theorem dX9_wholes_124 : decode cX9_wholes 124 = .ok (.ifCond .ne 7, 3) := by decide +kernel
theorem dX9_wholes_127 : decode cX9_wholes 127 = .ok (.iconst 0, 1) := by decide +kernel
theorem dX9_wholes_128 : decode cX9_wholes 128 = .ok (.goto 20, 3) := by decide +kernel
theorem dX9_wholes_131 : decode cX9_wholes 131 = .ok (.aload_n 0, 1) := by decide +kernel
theorem dX9_wholes_132 : decode cX9_wholes 132 = .ok (.iload_n 3, 1) := by decide +kernel
theorem dX9_wholes_133 : decode cX9_wholes 133 = .ok (.iconst 1, 1) := by decide +kernel
theorem dX9_wholes_134 : decode cX9_wholes 134 = .ok (.isub, 1) := by decide +kernel
theorem dX9_wholes_135 : decode cX9_wholes 135 = .ok (.aload_n 0, 1) := by decide +kernel
theorem dX9_wholes_136 : decode cX9_wholes 136 = .ok (.getfield 67, 3) := by decide +kernel
theorem dX9_wholes_139 : decode cX9_wholes 139 = .ok (.iload_n 3, 1) := by decide +kernel
theorem dX9_wholes_140 : decode cX9_wholes 140 = .ok (.iconst 1, 1) := by decide +kernel
theorem dX9_wholes_141 : decode cX9_wholes 141 = .ok (.isub, 1) := by decide +kernel
theorem dX9_wholes_142 : decode cX9_wholes 142 = .ok (.iaload, 1) := by decide +kernel
theorem dX9_wholes_143 : decode cX9_wholes 143 = .ok (.iload 5, 2) := by decide +kernel
theorem dX9_wholes_145 : decode cX9_wholes 145 = .ok (.invokevirtual 126, 3) := by decide +kernel
theorem dX9_wholes_148 : decode cX9_wholes 148 = .ok (.iadd, 1) := by decide +kernel
theorem dX9_wholes_149 : decode cX9_wholes 149 = .ok (.goto 5, 3) := by decide +kernel
theorem dX9_wholes_152 : decode cX9_wholes 152 = .ok (.ldc 122, 2) := by decide +kernel
theorem dX9_wholes_154 : decode cX9_wholes 154 = .ok (.istore 6, 2) := by decide +kernel
theorem dX9_wholes_156 : decode cX9_wholes 156 = .ok (.iload 6, 2) := by decide +kernel
theorem dX9_wholes_158 : decode cX9_wholes 158 = .ok (.iload 4, 2) := by decide +kernel
theorem dX9_wholes_160 : decode cX9_wholes 160 = .ok (.if_icmp .ge 15, 3) := by decide +kernel
theorem dX9_wholes_163 : decode cX9_wholes 163 = .ok (.iload 6, 2) := by decide +kernel
theorem dX9_wholes_165 : decode cX9_wholes 165 = .ok (.istore 4, 2) := by decide +kernel
theorem dX9_wholes_167 : decode cX9_wholes 167 = .ok (.aload_n 0, 1) := by decide +kernel
theorem dX9_wholes_168 : decode cX9_wholes 168 = .ok (.getfield 67, 3) := by decide +kernel
theorem dX9_wholes_171 : decode cX9_wholes 171 = .ok (.iload_n 3, 1) := by decide +kernel
theorem dX9_wholes_172 : decode cX9_wholes 172 = .ok (.iload 5, 2) := by decide +kernel
theorem dX9_wholes_174 : decode cX9_wholes 174 = .ok (.iastore, 1) := by decide +kernel
theorem dX9_wholes_175 : decode cX9_wholes 175 = .ok (.iinc 5 1, 3) := by decide +kernel
theorem dX9_wholes_178 : decode cX9_wholes 178 = .ok (.goto (-84), 3) := by decide +kernel
theorem dX9_wholes_181 : decode cX9_wholes 181 = .ok (.iload_n 3, 1) := by decide +kernel
theorem dX9_wholes_182 : decode cX9_wholes 182 = .ok (.ifCond .ne 8, 3) := by decide +kernel
theorem dX9_wholes_185 : decode cX9_wholes 185 = .ok (.iload 4, 2) := by decide +kernel
theorem dX9_wholes_187 : decode cX9_wholes 187 = .ok (.goto 4, 3) := by decide +kernel
theorem dX9_wholes_190 : decode cX9_wholes 190 = .ok (.iload_n 2, 1) := by decide +kernel
theorem dX9_wholes_191 : decode cX9_wholes 191 = .ok (.istore_n 2, 1) := by decide +kernel
theorem dX9_wholes_192 : decode cX9_wholes 192 = .ok (.iinc 3 1, 3) := by decide +kernel
theorem dX9_wholes_195 : decode cX9_wholes 195 = .ok (.goto (-113), 3) := by decide +kernel
theorem dX9_wholes_198 : decode cX9_wholes 198 = .ok (.iload_n 2, 1) := by decide +kernel
theorem dX9_wholes_199 : decode cX9_wholes 199 = .ok (.ireturn, 1) := by decide +kernel
theorem dX9_whole_0 : decode cX9_whole 0 = .ok (.iload_n 1, 1) := by decide +kernel
theorem dX9_whole_1 : decode cX9_whole 1 = .ok (.iconst (-1), 1) := by decide +kernel
theorem dX9_whole_2 : decode cX9_whole 2 = .ok (.aload_n 0, 1) := by decide +kernel
theorem dX9_whole_3 : decode cX9_whole 3 = .ok (.getfield 7, 3) := by decide +kernel
theorem dX9_whole_6 : decode cX9_whole 6 = .ok (.bipush 6, 2) := by decide +kernel
theorem dX9_whole_8 : decode cX9_whole 8 = .ok (.iaload, 1) := by decide +kernel
theorem dX9_whole_9 : decode cX9_whole 9 = .ok (.iconst 1, 1) := by decide +kernel
theorem dX9_whole_10 : decode cX9_whole 10 = .ok (.isub, 1) := by decide +kernel
theorem dX9_whole_11 : decode cX9_whole 11 = .ok (.invokestatic 77, 3) := by decide +kernel
theorem dX9_whole_14 : decode cX9_whole 14 = .ok (.ifCond .ne 5, 3) := by decide +kernel
theorem dX9_whole_17 : decode cX9_whole 17 = .ok (.iconst (-1), 1) := by decide +kernel
theorem dX9_whole_18 : decode cX9_whole 18 = .ok (.ireturn, 1) := by decide +kernel
theorem dX9_whole_19 : decode cX9_whole 19 = .ok (.aload_n 0, 1) := by decide +kernel
theorem dX9_whole_20 : decode cX9_whole 20 = .ok (.invokevirtual 136, 3) := by decide +kernel
theorem dX9_whole_23 : decode cX9_whole 23 = .ok (.istore_n 2, 1) := by decide +kernel
theorem dX9_whole_24 : decode cX9_whole 24 = .ok (.iload_n 1, 1) := by decide +kernel
theorem dX9_whole_25 : decode cX9_whole 25 = .ok (.ifCond .ge 7, 3) := by decide +kernel
theorem dX9_whole_28 : decode cX9_whole 28 = .ok (.iload_n 2, 1) := by decide +kernel
theorem dX9_whole_29 : decode cX9_whole 29 = .ok (.goto 25, 3) := by decide +kernel
theorem dX9_whole_32 : decode cX9_whole 32 = .ok (.aload_n 0, 1) := by decide +kernel
theorem dX9_whole_33 : decode cX9_whole 33 = .ok (.getfield 67, 3) := by decide +kernel
theorem dX9_whole_36 : decode cX9_whole 36 = .ok (.iload_n 1, 1) := by decide +kernel
theorem dX9_whole_37 : decode cX9_whole 37 = .ok (.iaload, 1) := by decide +kernel
theorem dX9_whole_38 : decode cX9_whole 38 = .ok (.bipush 6, 2) := by decide +kernel
theorem dX9_whole_40 : decode cX9_whole 40 = .ok (.if_icmp .ne 8, 3) := by decide +kernel
theorem dX9_whole_43 : decode cX9_whole 43 = .ok (.bipush (-4), 2) := by decide +kernel
theorem dX9_whole_45 : decode cX9_whole 45 = .ok (.goto 9, 3) := by decide +kernel
theorem dX9_whole_48 : decode cX9_whole 48 = .ok (.aload_n 0, 1) := by decide +kernel
theorem dX9_whole_49 : decode cX9_whole 49 = .ok (.getfield 67, 3) := by decide +kernel
theorem dX9_whole_52 : decode cX9_whole 52 = .ok (.iload_n 1, 1) := by decide +kernel
theorem dX9_whole_53 : decode cX9_whole 53 = .ok (.iaload, 1) := by decide +kernel
theorem dX9_whole_54 : decode cX9_whole 54 = .ok (.ireturn, 1) := by decide +kernel
theorem dX9_about_0 : decode cX9_about 0 = .ok (.iload_n 1, 1) := by decide +kernel
theorem dX9_about_1 : decode cX9_about 1 = .ok (.iconst 0, 1) := by decide +kernel
theorem dX9_about_2 : decode cX9_about 2 = .ok (.iconst 2, 1) := by decide +kernel
theorem dX9_about_3 : decode cX9_about 3 = .ok (.invokestatic 77, 3) := by decide +kernel
theorem dX9_about_6 : decode cX9_about 6 = .ok (.ifCond .ne 5, 3) := by decide +kernel
theorem dX9_about_9 : decode cX9_about 9 = .ok (.iconst (-1), 1) := by decide +kernel
theorem dX9_about_10 : decode cX9_about 10 = .ok (.ireturn, 1) := by decide +kernel
theorem dX9_about_11 : decode cX9_about 11 = .ok (.aload_n 0, 1) := by decide +kernel
theorem dX9_about_12 : decode cX9_about 12 = .ok (.invokevirtual 136, 3) := by decide +kernel
theorem dX9_about_15 : decode cX9_about 15 = .ok (.pop, 1) := by decide +kernel
theorem dX9_about_16 : decode cX9_about 16 = .ok (.iconst 0, 1) := by decide +kernel
theorem dX9_about_17 : decode cX9_about 17 = .ok (.istore_n 2, 1) := by decide +kernel
theorem dX9_about_18 : decode cX9_about 18 = .ok (.iconst 0, 1) := by decide +kernel
theorem dX9_about_19 : decode cX9_about 19 = .ok (.istore_n 3, 1) := by decide +kernel
theorem dX9_about_20 : decode cX9_about 20 = .ok (.iload_n 3, 1) := by decide +kernel
theorem dX9_about_21 : decode cX9_about 21 = .ok (.aload_n 0, 1) := by decide +kernel
theorem dX9_about_22 : decode cX9_about 22 = .ok (.getfield 7, 3) := by decide +kernel
theorem dX9_about_25 : decode cX9_about 25 = .ok (.bipush 6, 2) := by decide +kernel
theorem dX9_about_27 : decode cX9_about 27 = .ok (.iaload, 1) := by decide +kernel
theorem dX9_about_28 : decode cX9_about 28 = .ok (.if_icmp .ge 154, 3) := by decide +kernel
theorem dX9_about_31 : decode cX9_about 31 = .ok (.iload_n 3, 1) := by decide +kernel
theorem dX9_about_32 : decode cX9_about 32 = .ok (.ifCond .le 48, 3) := by decide +kernel
theorem dX9_about_35 : decode cX9_about 35 = .ok (.aload_n 0, 1) := by decide +kernel
theorem dX9_about_36 : decode cX9_about 36 = .ok (.getfield 22, 3) := by decide +kernel
theorem dX9_about_39 : decode cX9_about 39 = .ok (.iload_n 3, 1) := by decide +kernel
theorem dX9_about_40 : decode cX9_about 40 = .ok (.iaload, 1) := by decide +kernel
theorem dX9_about_41 : decode cX9_about 41 = .ok (.aload_n 0, 1) := by decide +kernel
theorem dX9_about_42 : decode cX9_about 42 = .ok (.getfield 22, 3) := by decide +kernel
theorem dX9_about_45 : decode cX9_about 45 = .ok (.iload_n 3, 1) := by decide +kernel
theorem dX9_about_46 : decode cX9_about 46 = .ok (.iconst 1, 1) := by decide +kernel
theorem dX9_about_47 : decode cX9_about 47 = .ok (.isub, 1) := by decide +kernel
theorem dX9_about_48 : decode cX9_about 48 = .ok (.iaload, 1) := by decide +kernel
theorem dX9_about_49 : decode cX9_about 49 = .ok (.if_icmp .ne 31, 3) := by decide +kernel
theorem dX9_about_52 : decode cX9_about 52 = .ok (.aload_n 0, 1) := by decide +kernel
theorem dX9_about_53 : decode cX9_about 53 = .ok (.getfield 67, 3) := by decide +kernel
theorem dX9_about_56 : decode cX9_about 56 = .ok (.iload_n 3, 1) := by decide +kernel
theorem dX9_about_57 : decode cX9_about 57 = .ok (.iaload, 1) := by decide +kernel
theorem dX9_about_58 : decode cX9_about 58 = .ok (.bipush 6, 2) := by decide +kernel
theorem dX9_about_60 : decode cX9_about 60 = .ok (.if_icmp .eq 20, 3) := by decide +kernel
theorem dX9_about_63 : decode cX9_about 63 = .ok (.aload_n 0, 1) := by decide +kernel
theorem dX9_about_64 : decode cX9_about 64 = .ok (.getfield 67, 3) := by decide +kernel
theorem dX9_about_67 : decode cX9_about 67 = .ok (.iload_n 3, 1) := by decide +kernel
theorem dX9_about_68 : decode cX9_about 68 = .ok (.iconst 1, 1) := by decide +kernel
theorem dX9_about_69 : decode cX9_about 69 = .ok (.isub, 1) := by decide +kernel
theorem dX9_about_70 : decode cX9_about 70 = .ok (.iaload, 1) := by decide +kernel
theorem dX9_about_71 : decode cX9_about 71 = .ok (.bipush 6, 2) := by decide +kernel
theorem dX9_about_73 : decode cX9_about 73 = .ok (.if_icmp .eq 7, 3) := by decide +kernel
theorem dX9_about_76 : decode cX9_about 76 = .ok (.iconst 1, 1) := by decide +kernel
theorem dX9_about_77 : decode cX9_about 77 = .ok (.goto 4, 3) := by decide +kernel
theorem dX9_about_80 : decode cX9_about 80 = .ok (.iconst 0, 1) := by decide +kernel
theorem dX9_about_81 : decode cX9_about 81 = .ok (.istore 4, 2) := by decide +kernel
theorem dX9_about_83 : decode cX9_about 83 = .ok (.iload_n 1, 1) := by decide +kernel
theorem dX9_about_84 : decode cX9_about 84 = .ok (.ifCond .ne 25, 3) := by decide +kernel
theorem dX9_about_87 : decode cX9_about 87 = .ok (.iload_n 2, 1) := by decide +kernel
theorem dX9_about_88 : decode cX9_about 88 = .ok (.aload_n 0, 1) := by decide +kernel
theorem dX9_about_89 : decode cX9_about 89 = .ok (.getfield 67, 3) := by decide +kernel
theorem dX9_about_92 : decode cX9_about 92 = .ok (.iload_n 3, 1) := by decide +kernel
theorem dX9_about_93 : decode cX9_about 93 = .ok (.iaload, 1) := by decide +kernel
theorem dX9_about_94 : decode cX9_about 94 = .ok (.bipush 6, 2) := by decide +kernel
theorem dX9_about_96 : decode cX9_about 96 = .ok (.if_icmp .ne 7, 3) := by decide +kernel
theorem dX9_about_99 : decode cX9_about 99 = .ok (.iconst 1, 1) := by decide +kernel
theorem dX9_about_100 : decode cX9_about 100 = .ok (.goto 4, 3) := by decide +kernel
theorem dX9_about_103 : decode cX9_about 103 = .ok (.iconst 0, 1) := by decide +kernel
theorem dX9_about_104 : decode cX9_about 104 = .ok (.iadd, 1) := by decide +kernel
theorem dX9_about_105 : decode cX9_about 105 = .ok (.istore_n 2, 1) := by decide +kernel
theorem dX9_about_106 : decode cX9_about 106 = .ok (.goto 70, 3) := by decide +kernel
theorem dX9_about_109 : decode cX9_about 109 = .ok (.iload 4, 2) := by decide +kernel
theorem dX9_about_111 : decode cX9_about 111 = .ok (.ifCond .eq 65, 3) := by decide +kernel
theorem dX9_about_114 : decode cX9_about 114 = .ok (.iload_n 2, 1) := by decide +kernel
theorem dX9_about_115 : decode cX9_about 115 = .ok (.iload_n 1, 1) := by decide +kernel
theorem dX9_about_116 : decode cX9_about 116 = .ok (.iconst 1, 1) := by decide +kernel
theorem dX9_about_117 : decode cX9_about 117 = .ok (.if_icmp .ne 23, 3) := by decide +kernel
theorem dX9_about_120 : decode cX9_about 120 = .ok (.aload_n 0, 1) := by decide +kernel
theorem dX9_about_121 : decode cX9_about 121 = .ok (.getfield 67, 3) := by decide +kernel
theorem dX9_about_124 : decode cX9_about 124 = .ok (.iload_n 3, 1) := by decide +kernel
theorem dX9_about_125 : decode cX9_about 125 = .ok (.iaload, 1) := by decide +kernel
theorem dX9_about_126 : decode cX9_about 126 = .ok (.aload_n 0, 1) := by decide +kernel
theorem dX9_about_127 : decode cX9_about 127 = .ok (.getfield 67, 3) := by decide +kernel
theorem dX9_about_130 : decode cX9_about 130 = .ok (.iload_n 3, 1) := by decide +kernel
theorem dX9_about_131 : decode cX9_about 131 = .ok (.iconst 1, 1) := by decide +kernel
theorem dX9_about_132 : decode cX9_about 132 = .ok (.isub, 1) := by decide +kernel
theorem dX9_about_133 : decode cX9_about 133 = .ok (.iaload, 1) := by decide +kernel
theorem dX9_about_134 : decode cX9_about 134 = .ok (.if_icmp .eq 39, 3) := by decide +kernel
theorem dX9_about_137 : decode cX9_about 137 = .ok (.goto 32, 3) := by decide +kernel
theorem dX9_about_140 : decode cX9_about 140 = .ok (.aload_n 0, 1) := by decide +kernel
theorem dX9_about_141 : decode cX9_about 141 = .ok (.aload_n 0, 1) := by decide +kernel
theorem dX9_about_142 : decode cX9_about 142 = .ok (.getfield 67, 3) := by decide +kernel
theorem dX9_about_145 : decode cX9_about 145 = .ok (.iload_n 3, 1) := by decide +kernel
theorem dX9_about_146 : decode cX9_about 146 = .ok (.iaload, 1) := by decide +kernel
theorem dX9_about_147 : decode cX9_about 147 = .ok (.iload_n 3, 1) := by decide +kernel
theorem dX9_about_148 : decode cX9_about 148 = .ok (.invokevirtual 115, 3) := by decide +kernel
theorem dX9_about_151 : decode cX9_about 151 = .ok (.aload_n 0, 1) := by decide +kernel
theorem dX9_about_152 : decode cX9_about 152 = .ok (.aload_n 0, 1) := by decide +kernel
theorem dX9_about_153 : decode cX9_about 153 = .ok (.getfield 67, 3) := by decide +kernel
theorem dX9_about_156 : decode cX9_about 156 = .ok (.iload_n 3, 1) := by decide +kernel
theorem dX9_about_157 : decode cX9_about 157 = .ok (.iconst 1, 1) := by decide +kernel
theorem dX9_about_158 : decode cX9_about 158 = .ok (.isub, 1) := by decide +kernel
theorem dX9_about_159 : decode cX9_about 159 = .ok (.iaload, 1) := by decide +kernel
theorem dX9_about_160 : decode cX9_about 160 = .ok (.iload_n 3, 1) := by decide +kernel
theorem dX9_about_161 : decode cX9_about 161 = .ok (.iconst 1, 1) := by decide +kernel
theorem dX9_about_162 : decode cX9_about 162 = .ok (.isub, 1) := by decide +kernel
theorem dX9_about_163 : decode cX9_about 163 = .ok (.invokevirtual 115, 3) := by decide +kernel
theorem dX9_about_166 : decode cX9_about 166 = .ok (.if_icmp .eq 7, 3) := by decide +kernel
theorem dX9_about_169 : decode cX9_about 169 = .ok (.iconst 1, 1) := by decide +kernel
theorem dX9_about_170 : decode cX9_about 170 = .ok (.goto 4, 3) := by decide +kernel
theorem dX9_about_173 : decode cX9_about 173 = .ok (.iconst 0, 1) := by decide +kernel
theorem dX9_about_174 : decode cX9_about 174 = .ok (.iadd, 1) := by decide +kernel
theorem dX9_about_175 : decode cX9_about 175 = .ok (.istore_n 2, 1) := by decide +kernel
theorem dX9_about_176 : decode cX9_about 176 = .ok (.iinc 3 1, 3) := by decide +kernel
theorem dX9_about_179 : decode cX9_about 179 = .ok (.goto (-159), 3) := by decide +kernel
theorem dX9_about_182 : decode cX9_about 182 = .ok (.iload_n 2, 1) := by decide +kernel
theorem dX9_about_183 : decode cX9_about 183 = .ok (.ireturn, 1) := by decide +kernel
theorem dX9_mend_0 : decode cX9_mend 0 = .ok (.aload_n 0, 1) := by decide +kernel
theorem dX9_mend_1 : decode cX9_mend 1 = .ok (.iload_n 1, 1) := by decide +kernel
theorem dX9_mend_2 : decode cX9_mend 2 = .ok (.invokevirtual 109, 3) := by decide +kernel
theorem dX9_mend_5 : decode cX9_mend 5 = .ok (.ifCond .ne 5, 3) := by decide +kernel
theorem dX9_mend_8 : decode cX9_mend 8 = .ok (.iconst (-1), 1) := by decide +kernel
theorem dX9_mend_9 : decode cX9_mend 9 = .ok (.ireturn, 1) := by decide +kernel
theorem dX9_mend_10 : decode cX9_mend 10 = .ok (.aload_n 0, 1) := by decide +kernel
theorem dX9_mend_11 : decode cX9_mend 11 = .ok (.invokevirtual 136, 3) := by decide +kernel
theorem dX9_mend_14 : decode cX9_mend 14 = .ok (.pop, 1) := by decide +kernel
theorem dX9_mend_15 : decode cX9_mend 15 = .ok (.aload_n 0, 1) := by decide +kernel
theorem dX9_mend_16 : decode cX9_mend 16 = .ok (.getfield 67, 3) := by decide +kernel
theorem dX9_mend_19 : decode cX9_mend 19 = .ok (.iload_n 1, 1) := by decide +kernel
theorem dX9_mend_20 : decode cX9_mend 20 = .ok (.iaload, 1) := by decide +kernel
theorem dX9_mend_21 : decode cX9_mend 21 = .ok (.istore_n 2, 1) := by decide +kernel
theorem dX9_mend_22 : decode cX9_mend 22 = .ok (.iload_n 1, 1) := by decide +kernel
theorem dX9_mend_23 : decode cX9_mend 23 = .ok (.ifCond .eq 80, 3) := by decide +kernel
theorem dX9_mend_26 : decode cX9_mend 26 = .ok (.iload_n 1, 1) := by decide +kernel
theorem dX9_mend_27 : decode cX9_mend 27 = .ok (.aload_n 0, 1) := by decide +kernel
theorem dX9_mend_28 : decode cX9_mend 28 = .ok (.getfield 7, 3) := by decide +kernel
theorem dX9_mend_31 : decode cX9_mend 31 = .ok (.bipush 6, 2) := by decide +kernel
theorem dX9_mend_33 : decode cX9_mend 33 = .ok (.iaload, 1) := by decide +kernel
theorem dX9_mend_34 : decode cX9_mend 34 = .ok (.iconst 1, 1) := by decide +kernel
theorem dX9_mend_35 : decode cX9_mend 35 = .ok (.isub, 1) := by decide +kernel
theorem dX9_mend_36 : decode cX9_mend 36 = .ok (.if_icmp .eq 67, 3) := by decide +kernel
theorem dX9_mend_39 : decode cX9_mend 39 = .ok (.iload_n 2, 1) := by decide +kernel
theorem dX9_mend_40 : decode cX9_mend 40 = .ok (.bipush 6, 2) := by decide +kernel
theorem dX9_mend_42 : decode cX9_mend 42 = .ok (.if_icmp .eq 61, 3) := by decide +kernel
theorem dX9_mend_45 : decode cX9_mend 45 = .ok (.aload_n 0, 1) := by decide +kernel
theorem dX9_mend_46 : decode cX9_mend 46 = .ok (.getfield 67, 3) := by decide +kernel
theorem dX9_mend_49 : decode cX9_mend 49 = .ok (.iload_n 1, 1) := by decide +kernel
theorem dX9_mend_50 : decode cX9_mend 50 = .ok (.iconst 1, 1) := by decide +kernel
theorem dX9_mend_51 : decode cX9_mend 51 = .ok (.isub, 1) := by decide +kernel
theorem dX9_mend_52 : decode cX9_mend 52 = .ok (.iaload, 1) := by decide +kernel
theorem dX9_mend_53 : decode cX9_mend 53 = .ok (.iload_n 2, 1) := by decide +kernel
theorem dX9_mend_54 : decode cX9_mend 54 = .ok (.if_icmp .ne 49, 3) := by decide +kernel
theorem dX9_mend_57 : decode cX9_mend 57 = .ok (.aload_n 0, 1) := by decide +kernel
theorem dX9_mend_58 : decode cX9_mend 58 = .ok (.getfield 67, 3) := by decide +kernel
theorem dX9_mend_61 : decode cX9_mend 61 = .ok (.iload_n 1, 1) := by decide +kernel
theorem dX9_mend_62 : decode cX9_mend 62 = .ok (.iconst 1, 1) := by decide +kernel
theorem dX9_mend_63 : decode cX9_mend 63 = .ok (.iadd, 1) := by decide +kernel
theorem dX9_mend_64 : decode cX9_mend 64 = .ok (.iaload, 1) := by decide +kernel
theorem dX9_mend_65 : decode cX9_mend 65 = .ok (.iload_n 2, 1) := by decide +kernel
theorem dX9_mend_66 : decode cX9_mend 66 = .ok (.if_icmp .ne 37, 3) := by decide +kernel
theorem dX9_mend_69 : decode cX9_mend 69 = .ok (.aload_n 0, 1) := by decide +kernel
theorem dX9_mend_70 : decode cX9_mend 70 = .ok (.getfield 22, 3) := by decide +kernel
theorem dX9_mend_73 : decode cX9_mend 73 = .ok (.iload_n 1, 1) := by decide +kernel
theorem dX9_mend_74 : decode cX9_mend 74 = .ok (.iconst 1, 1) := by decide +kernel
theorem dX9_mend_75 : decode cX9_mend 75 = .ok (.isub, 1) := by decide +kernel
theorem dX9_mend_76 : decode cX9_mend 76 = .ok (.iaload, 1) := by decide +kernel
theorem dX9_mend_77 : decode cX9_mend 77 = .ok (.aload_n 0, 1) := by decide +kernel
theorem dX9_mend_78 : decode cX9_mend 78 = .ok (.getfield 22, 3) := by decide +kernel
theorem dX9_mend_81 : decode cX9_mend 81 = .ok (.iload_n 1, 1) := by decide +kernel
theorem dX9_mend_82 : decode cX9_mend 82 = .ok (.iaload, 1) := by decide +kernel
theorem dX9_mend_83 : decode cX9_mend 83 = .ok (.if_icmp .ne 20, 3) := by decide +kernel
theorem dX9_mend_86 : decode cX9_mend 86 = .ok (.aload_n 0, 1) := by decide +kernel
theorem dX9_mend_87 : decode cX9_mend 87 = .ok (.getfield 22, 3) := by decide +kernel
theorem dX9_mend_90 : decode cX9_mend 90 = .ok (.iload_n 1, 1) := by decide +kernel
theorem dX9_mend_91 : decode cX9_mend 91 = .ok (.iconst 1, 1) := by decide +kernel
theorem dX9_mend_92 : decode cX9_mend 92 = .ok (.iadd, 1) := by decide +kernel
theorem dX9_mend_93 : decode cX9_mend 93 = .ok (.iaload, 1) := by decide +kernel
theorem dX9_mend_94 : decode cX9_mend 94 = .ok (.aload_n 0, 1) := by decide +kernel
theorem dX9_mend_95 : decode cX9_mend 95 = .ok (.getfield 22, 3) := by decide +kernel
theorem dX9_mend_98 : decode cX9_mend 98 = .ok (.iload_n 1, 1) := by decide +kernel
theorem dX9_mend_99 : decode cX9_mend 99 = .ok (.iaload, 1) := by decide +kernel
theorem dX9_mend_100 : decode cX9_mend 100 = .ok (.if_icmp .eq 6, 3) := by decide +kernel
theorem dX9_mend_103 : decode cX9_mend 103 = .ok (.bipush (-2), 2) := by decide +kernel
theorem dX9_mend_105 : decode cX9_mend 105 = .ok (.ireturn, 1) := by decide +kernel
theorem dX9_mend_106 : decode cX9_mend 106 = .ok (.aload_n 0, 1) := by decide +kernel
theorem dX9_mend_107 : decode cX9_mend 107 = .ok (.iload_n 2, 1) := by decide +kernel
theorem dX9_mend_108 : decode cX9_mend 108 = .ok (.iload_n 1, 1) := by decide +kernel
theorem dX9_mend_109 : decode cX9_mend 109 = .ok (.iconst 1, 1) := by decide +kernel
theorem dX9_mend_110 : decode cX9_mend 110 = .ok (.isub, 1) := by decide +kernel
theorem dX9_mend_111 : decode cX9_mend 111 = .ok (.invokevirtual 119, 3) := by decide +kernel
theorem dX9_mend_114 : decode cX9_mend 114 = .ok (.istore_n 3, 1) := by decide +kernel
theorem dX9_mend_115 : decode cX9_mend 115 = .ok (.aload_n 0, 1) := by decide +kernel
theorem dX9_mend_116 : decode cX9_mend 116 = .ok (.iload_n 2, 1) := by decide +kernel
theorem dX9_mend_117 : decode cX9_mend 117 = .ok (.iload_n 1, 1) := by decide +kernel
theorem dX9_mend_118 : decode cX9_mend 118 = .ok (.iconst 1, 1) := by decide +kernel
theorem dX9_mend_119 : decode cX9_mend 119 = .ok (.iadd, 1) := by decide +kernel
theorem dX9_mend_120 : decode cX9_mend 120 = .ok (.invokevirtual 119, 3) := by decide +kernel
theorem dX9_mend_123 : decode cX9_mend 123 = .ok (.istore 4, 2) := by decide +kernel
theorem dX9_mend_125 : decode cX9_mend 125 = .ok (.iload_n 3, 1) := by decide +kernel
theorem dX9_mend_126 : decode cX9_mend 126 = .ok (.aload_n 0, 1) := by decide +kernel
theorem dX9_mend_127 : decode cX9_mend 127 = .ok (.iload_n 2, 1) := by decide +kernel
theorem dX9_mend_128 : decode cX9_mend 128 = .ok (.iload_n 1, 1) := by decide +kernel
theorem dX9_mend_129 : decode cX9_mend 129 = .ok (.invokevirtual 119, 3) := by decide +kernel
theorem dX9_mend_132 : decode cX9_mend 132 = .ok (.if_icmp .ge 14, 3) := by decide +kernel
theorem dX9_mend_135 : decode cX9_mend 135 = .ok (.iload 4, 2) := by decide +kernel
theorem dX9_mend_137 : decode cX9_mend 137 = .ok (.aload_n 0, 1) := by decide +kernel
theorem dX9_mend_138 : decode cX9_mend 138 = .ok (.iload_n 2, 1) := by decide +kernel
theorem dX9_mend_139 : decode cX9_mend 139 = .ok (.iload_n 1, 1) := by decide +kernel
theorem dX9_mend_140 : decode cX9_mend 140 = .ok (.invokevirtual 119, 3) := by decide +kernel
theorem dX9_mend_143 : decode cX9_mend 143 = .ok (.if_icmp .lt 6, 3) := by decide +kernel
theorem dX9_mend_146 : decode cX9_mend 146 = .ok (.bipush (-2), 2) := by decide +kernel
theorem dX9_mend_148 : decode cX9_mend 148 = .ok (.ireturn, 1) := by decide +kernel
theorem dX9_mend_149 : decode cX9_mend 149 = .ok (.iload_n 3, 1) := by decide +kernel
theorem dX9_mend_150 : decode cX9_mend 150 = .ok (.iload 4, 2) := by decide +kernel
theorem dX9_mend_152 : decode cX9_mend 152 = .ok (.if_icmp .le 7, 3) := by decide +kernel
theorem dX9_mend_155 : decode cX9_mend 155 = .ok (.iload_n 3, 1) := by decide +kernel
theorem dX9_mend_156 : decode cX9_mend 156 = .ok (.goto 5, 3) := by decide +kernel
theorem dX9_mend_159 : decode cX9_mend 159 = .ok (.iload 4, 2) := by decide +kernel
theorem dX9_mend_161 : decode cX9_mend 161 = .ok (.istore 5, 2) := by decide +kernel
theorem dX9_mend_163 : decode cX9_mend 163 = .ok (.aload_n 0, 1) := by decide +kernel
theorem dX9_mend_164 : decode cX9_mend 164 = .ok (.bipush 40, 2) := by decide +kernel
theorem dX9_mend_166 : decode cX9_mend 166 = .ok (.iload_n 2, 1) := by decide +kernel
theorem dX9_mend_167 : decode cX9_mend 167 = .ok (.imul, 1) := by decide +kernel
theorem dX9_mend_168 : decode cX9_mend 168 = .ok (.aload_n 0, 1) := by decide +kernel
theorem dX9_mend_169 : decode cX9_mend 169 = .ok (.getfield 61, 3) := by decide +kernel
theorem dX9_mend_172 : decode cX9_mend 172 = .ok (.bipush 40, 2) := by decide +kernel
theorem dX9_mend_174 : decode cX9_mend 174 = .ok (.iload_n 2, 1) := by decide +kernel
theorem dX9_mend_175 : decode cX9_mend 175 = .ok (.imul, 1) := by decide +kernel
theorem dX9_mend_176 : decode cX9_mend 176 = .ok (.iload_n 1, 1) := by decide +kernel
theorem dX9_mend_177 : decode cX9_mend 177 = .ok (.iadd, 1) := by decide +kernel
theorem dX9_mend_178 : decode cX9_mend 178 = .ok (.iaload, 1) := by decide +kernel
theorem dX9_mend_179 : decode cX9_mend 179 = .ok (.iadd, 1) := by decide +kernel
theorem dX9_mend_180 : decode cX9_mend 180 = .ok (.iload 5, 2) := by decide +kernel
theorem dX9_mend_182 : decode cX9_mend 182 = .ok (.invokevirtual 98, 3) := by decide +kernel
theorem dX9_mend_185 : decode cX9_mend 185 = .ok (.iload 5, 2) := by decide +kernel
theorem dX9_mend_187 : decode cX9_mend 187 = .ok (.ireturn, 1) := by decide +kernel
theorem dX9_note_0 : decode cX9_note 0 = .ok (.aload_n 0, 1) := by decide +kernel
theorem dX9_note_1 : decode cX9_note 1 = .ok (.iload_n 1, 1) := by decide +kernel
theorem dX9_note_2 : decode cX9_note 2 = .ok (.iload_n 2, 1) := by decide +kernel
theorem dX9_note_3 : decode cX9_note 3 = .ok (.invokevirtual 91, 3) := by decide +kernel
theorem dX9_note_6 : decode cX9_note 6 = .ok (.ifCond .eq 28, 3) := by decide +kernel
theorem dX9_note_9 : decode cX9_note 9 = .ok (.aload_n 0, 1) := by decide +kernel
theorem dX9_note_10 : decode cX9_note 10 = .ok (.iload_n 1, 1) := by decide +kernel
theorem dX9_note_11 : decode cX9_note 11 = .ok (.iload_n 3, 1) := by decide +kernel
theorem dX9_note_12 : decode cX9_note 12 = .ok (.invokevirtual 91, 3) := by decide +kernel
theorem dX9_note_15 : decode cX9_note 15 = .ok (.ifCond .eq 19, 3) := by decide +kernel
theorem dX9_note_18 : decode cX9_note 18 = .ok (.iload_n 2, 1) := by decide +kernel
theorem dX9_note_19 : decode cX9_note 19 = .ok (.iload_n 3, 1) := by decide +kernel
theorem dX9_note_20 : decode cX9_note 20 = .ok (.if_icmp .gt 14, 3) := by decide +kernel
theorem dX9_note_23 : decode cX9_note 23 = .ok (.iload 4, 2) := by decide +kernel
theorem dX9_note_25 : decode cX9_note 25 = .ok (.iconst 1, 1) := by decide +kernel
theorem dX9_note_26 : decode cX9_note 26 = .ok (.bipush 9, 2) := by decide +kernel
theorem dX9_note_28 : decode cX9_note 28 = .ok (.invokestatic 77, 3) := by decide +kernel
theorem dX9_note_31 : decode cX9_note 31 = .ok (.ifCond .ne 5, 3) := by decide +kernel
theorem dX9_note_34 : decode cX9_note 34 = .ok (.iconst (-1), 1) := by decide +kernel
theorem dX9_note_35 : decode cX9_note 35 = .ok (.ireturn, 1) := by decide +kernel
theorem dX9_note_36 : decode cX9_note 36 = .ok (.aload_n 0, 1) := by decide +kernel
theorem dX9_note_37 : decode cX9_note 37 = .ok (.getfield 140, 3) := by decide +kernel
theorem dX9_note_40 : decode cX9_note 40 = .ok (.bipush 12, 2) := by decide +kernel
theorem dX9_note_42 : decode cX9_note 42 = .ok (.if_icmp .ne 6, 3) := by decide +kernel
theorem dX9_note_45 : decode cX9_note 45 = .ok (.bipush (-3), 2) := by decide +kernel
theorem dX9_note_47 : decode cX9_note 47 = .ok (.ireturn, 1) := by decide +kernel
theorem dX9_note_48 : decode cX9_note 48 = .ok (.aload_n 0, 1) := by decide +kernel
theorem dX9_note_49 : decode cX9_note 49 = .ok (.getfield 28, 3) := by decide +kernel
theorem dX9_note_52 : decode cX9_note 52 = .ok (.aload_n 0, 1) := by decide +kernel
theorem dX9_note_53 : decode cX9_note 53 = .ok (.getfield 140, 3) := by decide +kernel
theorem dX9_note_56 : decode cX9_note 56 = .ok (.iload_n 1, 1) := by decide +kernel
theorem dX9_note_57 : decode cX9_note 57 = .ok (.iastore, 1) := by decide +kernel
theorem dX9_note_58 : decode cX9_note 58 = .ok (.aload_n 0, 1) := by decide +kernel
theorem dX9_note_59 : decode cX9_note 59 = .ok (.getfield 31, 3) := by decide +kernel
theorem dX9_note_62 : decode cX9_note 62 = .ok (.aload_n 0, 1) := by decide +kernel
theorem dX9_note_63 : decode cX9_note 63 = .ok (.getfield 140, 3) := by decide +kernel
theorem dX9_note_66 : decode cX9_note 66 = .ok (.iload_n 2, 1) := by decide +kernel
theorem dX9_note_67 : decode cX9_note 67 = .ok (.iastore, 1) := by decide +kernel
theorem dX9_note_68 : decode cX9_note 68 = .ok (.aload_n 0, 1) := by decide +kernel
theorem dX9_note_69 : decode cX9_note 69 = .ok (.getfield 34, 3) := by decide +kernel
theorem dX9_note_72 : decode cX9_note 72 = .ok (.aload_n 0, 1) := by decide +kernel
theorem dX9_note_73 : decode cX9_note 73 = .ok (.getfield 140, 3) := by decide +kernel
theorem dX9_note_76 : decode cX9_note 76 = .ok (.iload_n 3, 1) := by decide +kernel
theorem dX9_note_77 : decode cX9_note 77 = .ok (.iastore, 1) := by decide +kernel
theorem dX9_note_78 : decode cX9_note 78 = .ok (.aload_n 0, 1) := by decide +kernel
theorem dX9_note_79 : decode cX9_note 79 = .ok (.getfield 37, 3) := by decide +kernel
theorem dX9_note_82 : decode cX9_note 82 = .ok (.aload_n 0, 1) := by decide +kernel
theorem dX9_note_83 : decode cX9_note 83 = .ok (.getfield 140, 3) := by decide +kernel
theorem dX9_note_86 : decode cX9_note 86 = .ok (.iload 4, 2) := by decide +kernel
theorem dX9_note_88 : decode cX9_note 88 = .ok (.iastore, 1) := by decide +kernel
theorem dX9_note_89 : decode cX9_note 89 = .ok (.aload_n 0, 1) := by decide +kernel
theorem dX9_note_90 : decode cX9_note 90 = .ok (.dup, 1) := by decide +kernel
theorem dX9_note_91 : decode cX9_note 91 = .ok (.getfield 140, 3) := by decide +kernel
theorem dX9_note_94 : decode cX9_note 94 = .ok (.iconst 1, 1) := by decide +kernel
theorem dX9_note_95 : decode cX9_note 95 = .ok (.iadd, 1) := by decide +kernel
theorem dX9_note_96 : decode cX9_note 96 = .ok (.putfield 140, 3) := by decide +kernel
theorem dX9_note_99 : decode cX9_note 99 = .ok (.aload_n 0, 1) := by decide +kernel
theorem dX9_note_100 : decode cX9_note 100 = .ok (.getfield 140, 3) := by decide +kernel
theorem dX9_note_103 : decode cX9_note 103 = .ok (.ireturn, 1) := by decide +kernel
theorem dX9_tintOf_0 : decode cX9_tintOf 0 = .ok (.iconst 0, 1) := by decide +kernel
theorem dX9_tintOf_1 : decode cX9_tintOf 1 = .ok (.istore_n 3, 1) := by decide +kernel
theorem dX9_tintOf_2 : decode cX9_tintOf 2 = .ok (.iconst 0, 1) := by decide +kernel
theorem dX9_tintOf_3 : decode cX9_tintOf 3 = .ok (.istore 4, 2) := by decide +kernel
theorem dX9_tintOf_5 : decode cX9_tintOf 5 = .ok (.iload 4, 2) := by decide +kernel
theorem dX9_tintOf_7 : decode cX9_tintOf 7 = .ok (.aload_n 0, 1) := by decide +kernel
theorem dX9_tintOf_8 : decode cX9_tintOf 8 = .ok (.getfield 140, 3) := by decide +kernel
theorem dX9_tintOf_11 : decode cX9_tintOf 11 = .ok (.if_icmp .ge 53, 3) := by decide +kernel
theorem dX9_tintOf_14 : decode cX9_tintOf 14 = .ok (.aload_n 0, 1) := by decide +kernel
theorem dX9_tintOf_15 : decode cX9_tintOf 15 = .ok (.getfield 28, 3) := by decide +kernel
theorem dX9_tintOf_18 : decode cX9_tintOf 18 = .ok (.iload 4, 2) := by decide +kernel
theorem dX9_tintOf_20 : decode cX9_tintOf 20 = .ok (.iaload, 1) := by decide +kernel
theorem dX9_tintOf_21 : decode cX9_tintOf 21 = .ok (.iload_n 1, 1) := by decide +kernel
theorem dX9_tintOf_22 : decode cX9_tintOf 22 = .ok (.if_icmp .ne 34, 3) := by decide +kernel
theorem dX9_tintOf_25 : decode cX9_tintOf 25 = .ok (.iload_n 2, 1) := by decide +kernel
theorem dX9_tintOf_26 : decode cX9_tintOf 26 = .ok (.aload_n 0, 1) := by decide +kernel
theorem dX9_tintOf_27 : decode cX9_tintOf 27 = .ok (.getfield 31, 3) := by decide +kernel
theorem dX9_tintOf_30 : decode cX9_tintOf 30 = .ok (.iload 4, 2) := by decide +kernel
theorem dX9_tintOf_32 : decode cX9_tintOf 32 = .ok (.iaload, 1) := by decide +kernel
theorem dX9_tintOf_33 : decode cX9_tintOf 33 = .ok (.aload_n 0, 1) := by decide +kernel
theorem dX9_tintOf_34 : decode cX9_tintOf 34 = .ok (.getfield 34, 3) := by decide +kernel
theorem dX9_tintOf_37 : decode cX9_tintOf 37 = .ok (.iload 4, 2) := by decide +kernel
theorem dX9_tintOf_39 : decode cX9_tintOf 39 = .ok (.iaload, 1) := by decide +kernel
theorem dX9_tintOf_40 : decode cX9_tintOf 40 = .ok (.invokestatic 77, 3) := by decide +kernel
theorem dX9_tintOf_43 : decode cX9_tintOf 43 = .ok (.ifCond .eq 13, 3) := by decide +kernel
theorem dX9_tintOf_46 : decode cX9_tintOf 46 = .ok (.aload_n 0, 1) := by decide +kernel
theorem dX9_tintOf_47 : decode cX9_tintOf 47 = .ok (.getfield 37, 3) := by decide +kernel
theorem dX9_tintOf_50 : decode cX9_tintOf 50 = .ok (.iload 4, 2) := by decide +kernel
theorem dX9_tintOf_52 : decode cX9_tintOf 52 = .ok (.iaload, 1) := by decide +kernel
theorem dX9_tintOf_53 : decode cX9_tintOf 53 = .ok (.goto 4, 3) := by decide +kernel
theorem dX9_tintOf_56 : decode cX9_tintOf 56 = .ok (.iload_n 3, 1) := by decide +kernel
theorem dX9_tintOf_57 : decode cX9_tintOf 57 = .ok (.istore_n 3, 1) := by decide +kernel
theorem dX9_tintOf_58 : decode cX9_tintOf 58 = .ok (.iinc 4 1, 3) := by decide +kernel
theorem dX9_tintOf_61 : decode cX9_tintOf 61 = .ok (.goto (-56), 3) := by decide +kernel
theorem dX9_tintOf_64 : decode cX9_tintOf 64 = .ok (.iload_n 3, 1) := by decide +kernel
theorem dX9_tintOf_65 : decode cX9_tintOf 65 = .ok (.ireturn, 1) := by decide +kernel
theorem dX9_tint_0 : decode cX9_tint 0 = .ok (.aload_n 0, 1) := by decide +kernel
theorem dX9_tint_1 : decode cX9_tint 1 = .ok (.iload_n 1, 1) := by decide +kernel
theorem dX9_tint_2 : decode cX9_tint 2 = .ok (.invokevirtual 109, 3) := by decide +kernel
theorem dX9_tint_5 : decode cX9_tint 5 = .ok (.ifCond .ne 5, 3) := by decide +kernel
theorem dX9_tint_8 : decode cX9_tint 8 = .ok (.iconst (-1), 1) := by decide +kernel
theorem dX9_tint_9 : decode cX9_tint 9 = .ok (.ireturn, 1) := by decide +kernel
theorem dX9_tint_10 : decode cX9_tint 10 = .ok (.aload_n 0, 1) := by decide +kernel
theorem dX9_tint_11 : decode cX9_tint 11 = .ok (.invokevirtual 136, 3) := by decide +kernel
theorem dX9_tint_14 : decode cX9_tint 14 = .ok (.pop, 1) := by decide +kernel
theorem dX9_tint_15 : decode cX9_tint 15 = .ok (.aload_n 0, 1) := by decide +kernel
theorem dX9_tint_16 : decode cX9_tint 16 = .ok (.getfield 67, 3) := by decide +kernel
theorem dX9_tint_19 : decode cX9_tint 19 = .ok (.iload_n 1, 1) := by decide +kernel
theorem dX9_tint_20 : decode cX9_tint 20 = .ok (.iaload, 1) := by decide +kernel
theorem dX9_tint_21 : decode cX9_tint 21 = .ok (.bipush 6, 2) := by decide +kernel
theorem dX9_tint_23 : decode cX9_tint 23 = .ok (.if_icmp .ne 7, 3) := by decide +kernel
theorem dX9_tint_26 : decode cX9_tint 26 = .ok (.iconst 0, 1) := by decide +kernel
theorem dX9_tint_27 : decode cX9_tint 27 = .ok (.goto 29, 3) := by decide +kernel
theorem dX9_tint_30 : decode cX9_tint 30 = .ok (.aload_n 0, 1) := by decide +kernel
theorem dX9_tint_31 : decode cX9_tint 31 = .ok (.aload_n 0, 1) := by decide +kernel
theorem dX9_tint_32 : decode cX9_tint 32 = .ok (.getfield 67, 3) := by decide +kernel
theorem dX9_tint_35 : decode cX9_tint 35 = .ok (.iload_n 1, 1) := by decide +kernel
theorem dX9_tint_36 : decode cX9_tint 36 = .ok (.iaload, 1) := by decide +kernel
theorem dX9_tint_37 : decode cX9_tint 37 = .ok (.aload_n 0, 1) := by decide +kernel
theorem dX9_tint_38 : decode cX9_tint 38 = .ok (.getfield 61, 3) := by decide +kernel
theorem dX9_tint_41 : decode cX9_tint 41 = .ok (.bipush 40, 2) := by decide +kernel
theorem dX9_tint_43 : decode cX9_tint 43 = .ok (.aload_n 0, 1) := by decide +kernel
theorem dX9_tint_44 : decode cX9_tint 44 = .ok (.getfield 67, 3) := by decide +kernel
theorem dX9_tint_47 : decode cX9_tint 47 = .ok (.iload_n 1, 1) := by decide +kernel
theorem dX9_tint_48 : decode cX9_tint 48 = .ok (.iaload, 1) := by decide +kernel
theorem dX9_tint_49 : decode cX9_tint 49 = .ok (.imul, 1) := by decide +kernel
theorem dX9_tint_50 : decode cX9_tint 50 = .ok (.iload_n 1, 1) := by decide +kernel
theorem dX9_tint_51 : decode cX9_tint 51 = .ok (.iadd, 1) := by decide +kernel
theorem dX9_tint_52 : decode cX9_tint 52 = .ok (.iaload, 1) := by decide +kernel
theorem dX9_tint_53 : decode cX9_tint 53 = .ok (.invokevirtual 143, 3) := by decide +kernel
theorem dX9_tint_56 : decode cX9_tint 56 = .ok (.istore_n 2, 1) := by decide +kernel
theorem dX9_tint_57 : decode cX9_tint 57 = .ok (.iload_n 2, 1) := by decide +kernel
theorem dX9_tint_58 : decode cX9_tint 58 = .ok (.ifCond .le 5, 3) := by decide +kernel
theorem dX9_tint_61 : decode cX9_tint 61 = .ok (.iload_n 2, 1) := by decide +kernel
theorem dX9_tint_62 : decode cX9_tint 62 = .ok (.ireturn, 1) := by decide +kernel
theorem dX9_tint_63 : decode cX9_tint 63 = .ok (.bipush 99, 2) := by decide +kernel
theorem dX9_tint_65 : decode cX9_tint 65 = .ok (.istore_n 3, 1) := by decide +kernel
theorem dX9_tint_66 : decode cX9_tint 66 = .ok (.iconst 0, 1) := by decide +kernel
theorem dX9_tint_67 : decode cX9_tint 67 = .ok (.istore 4, 2) := by decide +kernel
theorem dX9_tint_69 : decode cX9_tint 69 = .ok (.iload 4, 2) := by decide +kernel
theorem dX9_tint_71 : decode cX9_tint 71 = .ok (.aload_n 0, 1) := by decide +kernel
theorem dX9_tint_72 : decode cX9_tint 72 = .ok (.getfield 73, 3) := by decide +kernel
theorem dX9_tint_75 : decode cX9_tint 75 = .ok (.if_icmp .ge 75, 3) := by decide +kernel
theorem dX9_tint_78 : decode cX9_tint 78 = .ok (.aload_n 0, 1) := by decide +kernel
theorem dX9_tint_79 : decode cX9_tint 79 = .ok (.getfield 61, 3) := by decide +kernel
theorem dX9_tint_82 : decode cX9_tint 82 = .ok (.bipush 40, 2) := by decide +kernel
theorem dX9_tint_84 : decode cX9_tint 84 = .ok (.iload 4, 2) := by decide +kernel
theorem dX9_tint_86 : decode cX9_tint 86 = .ok (.imul, 1) := by decide +kernel
theorem dX9_tint_87 : decode cX9_tint 87 = .ok (.iload_n 1, 1) := by decide +kernel
theorem dX9_tint_88 : decode cX9_tint 88 = .ok (.iadd, 1) := by decide +kernel
theorem dX9_tint_89 : decode cX9_tint 89 = .ok (.iaload, 1) := by decide +kernel
theorem dX9_tint_90 : decode cX9_tint 90 = .ok (.ifCond .ge 7, 3) := by decide +kernel
theorem dX9_tint_93 : decode cX9_tint 93 = .ok (.iconst 0, 1) := by decide +kernel
theorem dX9_tint_94 : decode cX9_tint 94 = .ok (.goto 21, 3) := by decide +kernel
theorem dX9_tint_97 : decode cX9_tint 97 = .ok (.aload_n 0, 1) := by decide +kernel
theorem dX9_tint_98 : decode cX9_tint 98 = .ok (.iload 4, 2) := by decide +kernel
theorem dX9_tint_100 : decode cX9_tint 100 = .ok (.aload_n 0, 1) := by decide +kernel
theorem dX9_tint_101 : decode cX9_tint 101 = .ok (.getfield 61, 3) := by decide +kernel
theorem dX9_tint_104 : decode cX9_tint 104 = .ok (.bipush 40, 2) := by decide +kernel
theorem dX9_tint_106 : decode cX9_tint 106 = .ok (.iload 4, 2) := by decide +kernel
theorem dX9_tint_108 : decode cX9_tint 108 = .ok (.imul, 1) := by decide +kernel
theorem dX9_tint_109 : decode cX9_tint 109 = .ok (.iload_n 1, 1) := by decide +kernel
theorem dX9_tint_110 : decode cX9_tint 110 = .ok (.iadd, 1) := by decide +kernel
theorem dX9_tint_111 : decode cX9_tint 111 = .ok (.iaload, 1) := by decide +kernel
theorem dX9_tint_112 : decode cX9_tint 112 = .ok (.invokevirtual 143, 3) := by decide +kernel
theorem dX9_tint_115 : decode cX9_tint 115 = .ok (.istore 5, 2) := by decide +kernel
theorem dX9_tint_117 : decode cX9_tint 117 = .ok (.iload 5, 2) := by decide +kernel
theorem dX9_tint_119 : decode cX9_tint 119 = .ok (.ifCond .le 25, 3) := by decide +kernel
theorem dX9_tint_122 : decode cX9_tint 122 = .ok (.aload_n 0, 1) := by decide +kernel
theorem dX9_tint_123 : decode cX9_tint 123 = .ok (.iload 4, 2) := by decide +kernel
theorem dX9_tint_125 : decode cX9_tint 125 = .ok (.iload_n 1, 1) := by decide +kernel
theorem dX9_tint_126 : decode cX9_tint 126 = .ok (.invokevirtual 119, 3) := by decide +kernel
theorem dX9_tint_129 : decode cX9_tint 129 = .ok (.iload_n 3, 1) := by decide +kernel
theorem dX9_tint_130 : decode cX9_tint 130 = .ok (.if_icmp .ge 14, 3) := by decide +kernel
theorem dX9_tint_133 : decode cX9_tint 133 = .ok (.aload_n 0, 1) := by decide +kernel
theorem dX9_tint_134 : decode cX9_tint 134 = .ok (.iload 4, 2) := by decide +kernel
theorem dX9_tint_136 : decode cX9_tint 136 = .ok (.iload_n 1, 1) := by decide +kernel
theorem dX9_tint_137 : decode cX9_tint 137 = .ok (.invokevirtual 119, 3) := by decide +kernel
theorem dX9_tint_140 : decode cX9_tint 140 = .ok (.istore_n 3, 1) := by decide +kernel
theorem dX9_tint_141 : decode cX9_tint 141 = .ok (.iload 5, 2) := by decide +kernel
theorem dX9_tint_143 : decode cX9_tint 143 = .ok (.istore_n 2, 1) := by decide +kernel
theorem dX9_tint_144 : decode cX9_tint 144 = .ok (.iinc 4 1, 3) := by decide +kernel
theorem dX9_tint_147 : decode cX9_tint 147 = .ok (.goto (-78), 3) := by decide +kernel
theorem dX9_tint_150 : decode cX9_tint 150 = .ok (.iload_n 2, 1) := by decide +kernel
theorem dX9_tint_151 : decode cX9_tint 151 = .ok (.ireturn, 1) := by decide +kernel
theorem dX9_cue_0 : decode cX9_cue 0 = .ok (.iload_n 1, 1) := by decide +kernel
theorem dX9_cue_1 : decode cX9_cue 1 = .ok (.iconst 0, 1) := by decide +kernel
theorem dX9_cue_2 : decode cX9_cue 2 = .ok (.iconst 5, 1) := by decide +kernel
theorem dX9_cue_3 : decode cX9_cue 3 = .ok (.invokestatic 77, 3) := by decide +kernel
theorem dX9_cue_6 : decode cX9_cue 6 = .ok (.ifCond .eq 27, 3) := by decide +kernel
theorem dX9_cue_9 : decode cX9_cue 9 = .ok (.iload_n 2, 1) := by decide +kernel
theorem dX9_cue_10 : decode cX9_cue 10 = .ok (.iconst 0, 1) := by decide +kernel
theorem dX9_cue_11 : decode cX9_cue 11 = .ok (.iconst 5, 1) := by decide +kernel
theorem dX9_cue_12 : decode cX9_cue 12 = .ok (.invokestatic 77, 3) := by decide +kernel
theorem dX9_cue_15 : decode cX9_cue 15 = .ok (.ifCond .eq 18, 3) := by decide +kernel
theorem dX9_cue_18 : decode cX9_cue 18 = .ok (.iload_n 1, 1) := by decide +kernel
theorem dX9_cue_19 : decode cX9_cue 19 = .ok (.iload_n 2, 1) := by decide +kernel
theorem dX9_cue_20 : decode cX9_cue 20 = .ok (.if_icmp .eq 13, 3) := by decide +kernel
theorem dX9_cue_23 : decode cX9_cue 23 = .ok (.iload_n 3, 1) := by decide +kernel
theorem dX9_cue_24 : decode cX9_cue 24 = .ok (.iconst 1, 1) := by decide +kernel
theorem dX9_cue_25 : decode cX9_cue 25 = .ok (.bipush 100, 2) := by decide +kernel
theorem dX9_cue_27 : decode cX9_cue 27 = .ok (.invokestatic 77, 3) := by decide +kernel
theorem dX9_cue_30 : decode cX9_cue 30 = .ok (.ifCond .ne 5, 3) := by decide +kernel
theorem dX9_cue_33 : decode cX9_cue 33 = .ok (.iconst (-1), 1) := by decide +kernel
theorem dX9_cue_34 : decode cX9_cue 34 = .ok (.ireturn, 1) := by decide +kernel
theorem dX9_cue_35 : decode cX9_cue 35 = .ok (.aload_n 0, 1) := by decide +kernel
theorem dX9_cue_36 : decode cX9_cue 36 = .ok (.getfield 146, 3) := by decide +kernel
theorem dX9_cue_39 : decode cX9_cue 39 = .ok (.bipush 20, 2) := by decide +kernel
theorem dX9_cue_41 : decode cX9_cue 41 = .ok (.if_icmp .ne 6, 3) := by decide +kernel
theorem dX9_cue_44 : decode cX9_cue 44 = .ok (.bipush (-3), 2) := by decide +kernel
theorem dX9_cue_46 : decode cX9_cue 46 = .ok (.ireturn, 1) := by decide +kernel
theorem dX9_cue_47 : decode cX9_cue 47 = .ok (.aload_n 0, 1) := by decide +kernel
theorem dX9_cue_48 : decode cX9_cue 48 = .ok (.getfield 40, 3) := by decide +kernel
theorem dX9_cue_51 : decode cX9_cue 51 = .ok (.aload_n 0, 1) := by decide +kernel
theorem dX9_cue_52 : decode cX9_cue 52 = .ok (.getfield 146, 3) := by decide +kernel
theorem dX9_cue_55 : decode cX9_cue 55 = .ok (.iload_n 1, 1) := by decide +kernel
theorem dX9_cue_56 : decode cX9_cue 56 = .ok (.iastore, 1) := by decide +kernel
theorem dX9_cue_57 : decode cX9_cue 57 = .ok (.aload_n 0, 1) := by decide +kernel
theorem dX9_cue_58 : decode cX9_cue 58 = .ok (.getfield 43, 3) := by decide +kernel
theorem dX9_cue_61 : decode cX9_cue 61 = .ok (.aload_n 0, 1) := by decide +kernel
theorem dX9_cue_62 : decode cX9_cue 62 = .ok (.getfield 146, 3) := by decide +kernel
theorem dX9_cue_65 : decode cX9_cue 65 = .ok (.iload_n 2, 1) := by decide +kernel
theorem dX9_cue_66 : decode cX9_cue 66 = .ok (.iastore, 1) := by decide +kernel
theorem dX9_cue_67 : decode cX9_cue 67 = .ok (.aload_n 0, 1) := by decide +kernel
theorem dX9_cue_68 : decode cX9_cue 68 = .ok (.getfield 46, 3) := by decide +kernel
theorem dX9_cue_71 : decode cX9_cue 71 = .ok (.aload_n 0, 1) := by decide +kernel
theorem dX9_cue_72 : decode cX9_cue 72 = .ok (.getfield 146, 3) := by decide +kernel
theorem dX9_cue_75 : decode cX9_cue 75 = .ok (.iload_n 3, 1) := by decide +kernel
theorem dX9_cue_76 : decode cX9_cue 76 = .ok (.iastore, 1) := by decide +kernel
theorem dX9_cue_77 : decode cX9_cue 77 = .ok (.aload_n 0, 1) := by decide +kernel
theorem dX9_cue_78 : decode cX9_cue 78 = .ok (.dup, 1) := by decide +kernel
theorem dX9_cue_79 : decode cX9_cue 79 = .ok (.getfield 146, 3) := by decide +kernel
theorem dX9_cue_82 : decode cX9_cue 82 = .ok (.iconst 1, 1) := by decide +kernel
theorem dX9_cue_83 : decode cX9_cue 83 = .ok (.iadd, 1) := by decide +kernel
theorem dX9_cue_84 : decode cX9_cue 84 = .ok (.putfield 146, 3) := by decide +kernel
theorem dX9_cue_87 : decode cX9_cue 87 = .ok (.aload_n 0, 1) := by decide +kernel
theorem dX9_cue_88 : decode cX9_cue 88 = .ok (.getfield 146, 3) := by decide +kernel
theorem dX9_cue_91 : decode cX9_cue 91 = .ok (.ireturn, 1) := by decide +kernel
theorem dX9_noCues_0 : decode cX9_noCues 0 = .ok (.aload_n 0, 1) := by decide +kernel
theorem dX9_noCues_1 : decode cX9_noCues 1 = .ok (.getfield 146, 3) := by decide +kernel
theorem dX9_noCues_4 : decode cX9_noCues 4 = .ok (.istore_n 1, 1) := by decide +kernel
theorem dX9_noCues_5 : decode cX9_noCues 5 = .ok (.aload_n 0, 1) := by decide +kernel
theorem dX9_noCues_6 : decode cX9_noCues 6 = .ok (.iconst 0, 1) := by decide +kernel
theorem dX9_noCues_7 : decode cX9_noCues 7 = .ok (.putfield 146, 3) := by decide +kernel
theorem dX9_noCues_10 : decode cX9_noCues 10 = .ok (.iload_n 1, 1) := by decide +kernel
theorem dX9_noCues_11 : decode cX9_noCues 11 = .ok (.ireturn, 1) := by decide +kernel
theorem dX9_ordered_0 : decode cX9_ordered 0 = .ok (.iconst 1, 1) := by decide +kernel
theorem dX9_ordered_1 : decode cX9_ordered 1 = .ok (.istore_n 3, 1) := by decide +kernel
theorem dX9_ordered_2 : decode cX9_ordered 2 = .ok (.iconst 2, 1) := by decide +kernel
theorem dX9_ordered_3 : decode cX9_ordered 3 = .ok (.istore 4, 2) := by decide +kernel
theorem dX9_ordered_5 : decode cX9_ordered 5 = .ok (.iload 4, 2) := by decide +kernel
theorem dX9_ordered_7 : decode cX9_ordered 7 = .ok (.iload_n 1, 1) := by decide +kernel
theorem dX9_ordered_8 : decode cX9_ordered 8 = .ok (.if_icmp .ge 14, 3) := by decide +kernel
theorem dX9_ordered_11 : decode cX9_ordered 11 = .ok (.iload_n 3, 1) := by decide +kernel
theorem dX9_ordered_12 : decode cX9_ordered 12 = .ok (.iload 4, 2) := by decide +kernel
theorem dX9_ordered_14 : decode cX9_ordered 14 = .ok (.imul, 1) := by decide +kernel
theorem dX9_ordered_15 : decode cX9_ordered 15 = .ok (.istore_n 3, 1) := by decide +kernel
theorem dX9_ordered_16 : decode cX9_ordered 16 = .ok (.iinc 4 1, 3) := by decide +kernel
theorem dX9_ordered_19 : decode cX9_ordered 19 = .ok (.goto (-14), 3) := by decide +kernel
theorem dX9_ordered_22 : decode cX9_ordered 22 = .ok (.iload_n 2, 1) := by decide +kernel
theorem dX9_ordered_23 : decode cX9_ordered 23 = .ok (.istore 4, 2) := by decide +kernel
theorem dX9_ordered_25 : decode cX9_ordered 25 = .ok (.iconst 0, 1) := by decide +kernel
theorem dX9_ordered_26 : decode cX9_ordered 26 = .ok (.istore 5, 2) := by decide +kernel
theorem dX9_ordered_28 : decode cX9_ordered 28 = .ok (.iconst 0, 1) := by decide +kernel
theorem dX9_ordered_29 : decode cX9_ordered 29 = .ok (.istore 6, 2) := by decide +kernel
theorem dX9_ordered_31 : decode cX9_ordered 31 = .ok (.iconst 0, 1) := by decide +kernel
theorem dX9_ordered_32 : decode cX9_ordered 32 = .ok (.istore 7, 2) := by decide +kernel
theorem dX9_ordered_34 : decode cX9_ordered 34 = .ok (.iload 7, 2) := by decide +kernel
theorem dX9_ordered_36 : decode cX9_ordered 36 = .ok (.iload_n 1, 1) := by decide +kernel
theorem dX9_ordered_37 : decode cX9_ordered 37 = .ok (.if_icmp .ge 118, 3) := by decide +kernel
theorem dX9_ordered_40 : decode cX9_ordered 40 = .ok (.iload 4, 2) := by decide +kernel
theorem dX9_ordered_42 : decode cX9_ordered 42 = .ok (.iload_n 3, 1) := by decide +kernel
theorem dX9_ordered_43 : decode cX9_ordered 43 = .ok (.idiv, 1) := by decide +kernel
theorem dX9_ordered_44 : decode cX9_ordered 44 = .ok (.istore 8, 2) := by decide +kernel
theorem dX9_ordered_46 : decode cX9_ordered 46 = .ok (.iload 4, 2) := by decide +kernel
theorem dX9_ordered_48 : decode cX9_ordered 48 = .ok (.iload_n 3, 1) := by decide +kernel
theorem dX9_ordered_49 : decode cX9_ordered 49 = .ok (.irem, 1) := by decide +kernel
theorem dX9_ordered_50 : decode cX9_ordered 50 = .ok (.istore 4, 2) := by decide +kernel
theorem dX9_ordered_52 : decode cX9_ordered 52 = .ok (.iload 7, 2) := by decide +kernel
theorem dX9_ordered_54 : decode cX9_ordered 54 = .ok (.iload_n 1, 1) := by decide +kernel
theorem dX9_ordered_55 : decode cX9_ordered 55 = .ok (.iconst 1, 1) := by decide +kernel
theorem dX9_ordered_56 : decode cX9_ordered 56 = .ok (.isub, 1) := by decide +kernel
theorem dX9_ordered_57 : decode cX9_ordered 57 = .ok (.if_icmp .ge 14, 3) := by decide +kernel
theorem dX9_ordered_60 : decode cX9_ordered 60 = .ok (.iload_n 3, 1) := by decide +kernel
theorem dX9_ordered_61 : decode cX9_ordered 61 = .ok (.iload_n 1, 1) := by decide +kernel
theorem dX9_ordered_62 : decode cX9_ordered 62 = .ok (.iconst 1, 1) := by decide +kernel
theorem dX9_ordered_63 : decode cX9_ordered 63 = .ok (.isub, 1) := by decide +kernel
theorem dX9_ordered_64 : decode cX9_ordered 64 = .ok (.iload 7, 2) := by decide +kernel
theorem dX9_ordered_66 : decode cX9_ordered 66 = .ok (.isub, 1) := by decide +kernel
theorem dX9_ordered_67 : decode cX9_ordered 67 = .ok (.idiv, 1) := by decide +kernel
theorem dX9_ordered_68 : decode cX9_ordered 68 = .ok (.goto 4, 3) := by decide +kernel
theorem dX9_ordered_71 : decode cX9_ordered 71 = .ok (.iconst 1, 1) := by decide +kernel
theorem dX9_ordered_72 : decode cX9_ordered 72 = .ok (.istore_n 3, 1) := by decide +kernel
theorem dX9_ordered_73 : decode cX9_ordered 73 = .ok (.iconst 0, 1) := by decide +kernel
theorem dX9_ordered_74 : decode cX9_ordered 74 = .ok (.istore 9, 2) := by decide +kernel
theorem dX9_ordered_76 : decode cX9_ordered 76 = .ok (.iload 5, 2) := by decide +kernel
theorem dX9_ordered_78 : decode cX9_ordered 78 = .ok (.iload 9, 2) := by decide +kernel
theorem dX9_ordered_80 : decode cX9_ordered 80 = .ok (.ishr, 1) := by decide +kernel
theorem dX9_ordered_81 : decode cX9_ordered 81 = .ok (.iconst 1, 1) := by decide +kernel
theorem dX9_ordered_82 : decode cX9_ordered 82 = .ok (.iand, 1) := by decide +kernel
theorem dX9_ordered_83 : decode cX9_ordered 83 = .ok (.iconst 1, 1) := by decide +kernel
theorem dX9_ordered_84 : decode cX9_ordered 84 = .ok (.if_icmp .eq 8, 3) := by decide +kernel
theorem dX9_ordered_87 : decode cX9_ordered 87 = .ok (.iload 8, 2) := by decide +kernel
theorem dX9_ordered_89 : decode cX9_ordered 89 = .ok (.ifCond .le 30, 3) := by decide +kernel
theorem dX9_ordered_92 : decode cX9_ordered 92 = .ok (.iload 8, 2) := by decide +kernel
theorem dX9_ordered_94 : decode cX9_ordered 94 = .ok (.iload 5, 2) := by decide +kernel
theorem dX9_ordered_96 : decode cX9_ordered 96 = .ok (.iload 9, 2) := by decide +kernel
theorem dX9_ordered_98 : decode cX9_ordered 98 = .ok (.ishr, 1) := by decide +kernel
theorem dX9_ordered_99 : decode cX9_ordered 99 = .ok (.iconst 1, 1) := by decide +kernel
theorem dX9_ordered_100 : decode cX9_ordered 100 = .ok (.iand, 1) := by decide +kernel
theorem dX9_ordered_101 : decode cX9_ordered 101 = .ok (.iconst 1, 1) := by decide +kernel
theorem dX9_ordered_102 : decode cX9_ordered 102 = .ok (.if_icmp .ne 7, 3) := by decide +kernel
theorem dX9_ordered_105 : decode cX9_ordered 105 = .ok (.iconst 0, 1) := by decide +kernel
theorem dX9_ordered_106 : decode cX9_ordered 106 = .ok (.goto 4, 3) := by decide +kernel
theorem dX9_ordered_109 : decode cX9_ordered 109 = .ok (.iconst 1, 1) := by decide +kernel
theorem dX9_ordered_110 : decode cX9_ordered 110 = .ok (.isub, 1) := by decide +kernel
theorem dX9_ordered_111 : decode cX9_ordered 111 = .ok (.istore 8, 2) := by decide +kernel
theorem dX9_ordered_113 : decode cX9_ordered 113 = .ok (.iinc 9 1, 3) := by decide +kernel
theorem dX9_ordered_116 : decode cX9_ordered 116 = .ok (.goto (-40), 3) := by decide +kernel
theorem dX9_ordered_119 : decode cX9_ordered 119 = .ok (.iload 5, 2) := by decide +kernel
theorem dX9_ordered_121 : decode cX9_ordered 121 = .ok (.iconst 1, 1) := by decide +kernel
theorem dX9_ordered_122 : decode cX9_ordered 122 = .ok (.iload 9, 2) := by decide +kernel
theorem dX9_ordered_124 : decode cX9_ordered 124 = .ok (.ishl, 1) := by decide +kernel
theorem dX9_ordered_125 : decode cX9_ordered 125 = .ok (.ior, 1) := by decide +kernel
theorem dX9_ordered_126 : decode cX9_ordered 126 = .ok (.istore 5, 2) := by decide +kernel
theorem dX9_ordered_128 : decode cX9_ordered 128 = .ok (.aload_n 0, 1) := by decide +kernel
theorem dX9_ordered_129 : decode cX9_ordered 129 = .ok (.getfield 70, 3) := by decide +kernel
theorem dX9_ordered_132 : decode cX9_ordered 132 = .ok (.iload 9, 2) := by decide +kernel
theorem dX9_ordered_134 : decode cX9_ordered 134 = .ok (.iload 7, 2) := by decide +kernel
theorem dX9_ordered_136 : decode cX9_ordered 136 = .ok (.iastore, 1) := by decide +kernel
theorem dX9_ordered_137 : decode cX9_ordered 137 = .ok (.iload 6, 2) := by decide +kernel
theorem dX9_ordered_139 : decode cX9_ordered 139 = .ok (.iload 9, 2) := by decide +kernel
theorem dX9_ordered_141 : decode cX9_ordered 141 = .ok (.iconst 3, 1) := by decide +kernel
theorem dX9_ordered_142 : decode cX9_ordered 142 = .ok (.iload 7, 2) := by decide +kernel
theorem dX9_ordered_144 : decode cX9_ordered 144 = .ok (.imul, 1) := by decide +kernel
theorem dX9_ordered_145 : decode cX9_ordered 145 = .ok (.ishl, 1) := by decide +kernel
theorem dX9_ordered_146 : decode cX9_ordered 146 = .ok (.ior, 1) := by decide +kernel
theorem dX9_ordered_147 : decode cX9_ordered 147 = .ok (.istore 6, 2) := by decide +kernel
theorem dX9_ordered_149 : decode cX9_ordered 149 = .ok (.iinc 7 1, 3) := by decide +kernel
theorem dX9_ordered_152 : decode cX9_ordered 152 = .ok (.goto (-118), 3) := by decide +kernel
theorem dX9_ordered_155 : decode cX9_ordered 155 = .ok (.iload 6, 2) := by decide +kernel
theorem dX9_ordered_157 : decode cX9_ordered 157 = .ok (.ireturn, 1) := by decide +kernel
theorem dX9_quarrel_0 : decode cX9_quarrel 0 = .ok (.iconst 0, 1) := by decide +kernel
theorem dX9_quarrel_1 : decode cX9_quarrel 1 = .ok (.istore_n 2, 1) := by decide +kernel
theorem dX9_quarrel_2 : decode cX9_quarrel 2 = .ok (.iconst 0, 1) := by decide +kernel
theorem dX9_quarrel_3 : decode cX9_quarrel 3 = .ok (.istore_n 3, 1) := by decide +kernel
theorem dX9_quarrel_4 : decode cX9_quarrel 4 = .ok (.iload_n 3, 1) := by decide +kernel
theorem dX9_quarrel_5 : decode cX9_quarrel 5 = .ok (.aload_n 0, 1) := by decide +kernel
theorem dX9_quarrel_6 : decode cX9_quarrel 6 = .ok (.getfield 146, 3) := by decide +kernel
theorem dX9_quarrel_9 : decode cX9_quarrel 9 = .ok (.if_icmp .ge 79, 3) := by decide +kernel
theorem dX9_quarrel_12 : decode cX9_quarrel 12 = .ok (.aload_n 0, 1) := by decide +kernel
theorem dX9_quarrel_13 : decode cX9_quarrel 13 = .ok (.getfield 40, 3) := by decide +kernel
theorem dX9_quarrel_16 : decode cX9_quarrel 16 = .ok (.iload_n 3, 1) := by decide +kernel
theorem dX9_quarrel_17 : decode cX9_quarrel 17 = .ok (.iaload, 1) := by decide +kernel
theorem dX9_quarrel_18 : decode cX9_quarrel 18 = .ok (.iload_n 1, 1) := by decide +kernel
theorem dX9_quarrel_19 : decode cX9_quarrel 19 = .ok (.if_icmp .ge 17, 3) := by decide +kernel
theorem dX9_quarrel_22 : decode cX9_quarrel 22 = .ok (.aload_n 0, 1) := by decide +kernel
theorem dX9_quarrel_23 : decode cX9_quarrel 23 = .ok (.getfield 43, 3) := by decide +kernel
theorem dX9_quarrel_26 : decode cX9_quarrel 26 = .ok (.iload_n 3, 1) := by decide +kernel
theorem dX9_quarrel_27 : decode cX9_quarrel 27 = .ok (.iaload, 1) := by decide +kernel
theorem dX9_quarrel_28 : decode cX9_quarrel 28 = .ok (.iload_n 1, 1) := by decide +kernel
theorem dX9_quarrel_29 : decode cX9_quarrel 29 = .ok (.if_icmp .ge 7, 3) := by decide +kernel
theorem dX9_quarrel_32 : decode cX9_quarrel 32 = .ok (.iconst 1, 1) := by decide +kernel
theorem dX9_quarrel_33 : decode cX9_quarrel 33 = .ok (.goto 4, 3) := by decide +kernel
theorem dX9_quarrel_36 : decode cX9_quarrel 36 = .ok (.iconst 0, 1) := by decide +kernel
theorem dX9_quarrel_37 : decode cX9_quarrel 37 = .ok (.istore 4, 2) := by decide +kernel
theorem dX9_quarrel_39 : decode cX9_quarrel 39 = .ok (.iload_n 2, 1) := by decide +kernel
theorem dX9_quarrel_40 : decode cX9_quarrel 40 = .ok (.iload 4, 2) := by decide +kernel
theorem dX9_quarrel_42 : decode cX9_quarrel 42 = .ok (.ifCond .eq 37, 3) := by decide +kernel
theorem dX9_quarrel_45 : decode cX9_quarrel 45 = .ok (.aload_n 0, 1) := by decide +kernel
theorem dX9_quarrel_46 : decode cX9_quarrel 46 = .ok (.getfield 70, 3) := by decide +kernel
theorem dX9_quarrel_49 : decode cX9_quarrel 49 = .ok (.aload_n 0, 1) := by decide +kernel
theorem dX9_quarrel_50 : decode cX9_quarrel 50 = .ok (.getfield 40, 3) := by decide +kernel
theorem dX9_quarrel_53 : decode cX9_quarrel 53 = .ok (.iload_n 3, 1) := by decide +kernel
theorem dX9_quarrel_54 : decode cX9_quarrel 54 = .ok (.iaload, 1) := by decide +kernel
theorem dX9_quarrel_55 : decode cX9_quarrel 55 = .ok (.iaload, 1) := by decide +kernel
theorem dX9_quarrel_56 : decode cX9_quarrel 56 = .ok (.aload_n 0, 1) := by decide +kernel
theorem dX9_quarrel_57 : decode cX9_quarrel 57 = .ok (.getfield 70, 3) := by decide +kernel
theorem dX9_quarrel_60 : decode cX9_quarrel 60 = .ok (.aload_n 0, 1) := by decide +kernel
theorem dX9_quarrel_61 : decode cX9_quarrel 61 = .ok (.getfield 43, 3) := by decide +kernel
theorem dX9_quarrel_64 : decode cX9_quarrel 64 = .ok (.iload_n 3, 1) := by decide +kernel
theorem dX9_quarrel_65 : decode cX9_quarrel 65 = .ok (.iaload, 1) := by decide +kernel
theorem dX9_quarrel_66 : decode cX9_quarrel 66 = .ok (.iaload, 1) := by decide +kernel
theorem dX9_quarrel_67 : decode cX9_quarrel 67 = .ok (.if_icmp .le 12, 3) := by decide +kernel
theorem dX9_quarrel_70 : decode cX9_quarrel 70 = .ok (.aload_n 0, 1) := by decide +kernel
theorem dX9_quarrel_71 : decode cX9_quarrel 71 = .ok (.getfield 46, 3) := by decide +kernel
theorem dX9_quarrel_74 : decode cX9_quarrel 74 = .ok (.iload_n 3, 1) := by decide +kernel
theorem dX9_quarrel_75 : decode cX9_quarrel 75 = .ok (.iaload, 1) := by decide +kernel
theorem dX9_quarrel_76 : decode cX9_quarrel 76 = .ok (.goto 4, 3) := by decide +kernel
theorem dX9_quarrel_79 : decode cX9_quarrel 79 = .ok (.iconst 0, 1) := by decide +kernel
theorem dX9_quarrel_80 : decode cX9_quarrel 80 = .ok (.iadd, 1) := by decide +kernel
theorem dX9_quarrel_81 : decode cX9_quarrel 81 = .ok (.istore_n 2, 1) := by decide +kernel
theorem dX9_quarrel_82 : decode cX9_quarrel 82 = .ok (.iinc 3 1, 3) := by decide +kernel
theorem dX9_quarrel_85 : decode cX9_quarrel 85 = .ok (.goto (-81), 3) := by decide +kernel
theorem dX9_quarrel_88 : decode cX9_quarrel 88 = .ok (.iload_n 2, 1) := by decide +kernel
theorem dX9_quarrel_89 : decode cX9_quarrel 89 = .ok (.ireturn, 1) := by decide +kernel
theorem dX9_order_0 : decode cX9_order 0 = .ok (.iload_n 1, 1) := by decide +kernel
theorem dX9_order_1 : decode cX9_order 1 = .ok (.iconst 2, 1) := by decide +kernel
theorem dX9_order_2 : decode cX9_order 2 = .ok (.bipush 6, 2) := by decide +kernel
theorem dX9_order_4 : decode cX9_order 4 = .ok (.invokestatic 77, 3) := by decide +kernel
theorem dX9_order_7 : decode cX9_order 7 = .ok (.ifCond .eq 9, 3) := by decide +kernel
theorem dX9_order_10 : decode cX9_order 10 = .ok (.iload_n 2, 1) := by decide +kernel
theorem dX9_order_11 : decode cX9_order 11 = .ok (.bipush (-2), 2) := by decide +kernel
theorem dX9_order_13 : decode cX9_order 13 = .ok (.if_icmp .ge 5, 3) := by decide +kernel
theorem dX9_order_16 : decode cX9_order 16 = .ok (.iconst (-1), 1) := by decide +kernel
theorem dX9_order_17 : decode cX9_order 17 = .ok (.ireturn, 1) := by decide +kernel
theorem dX9_order_18 : decode cX9_order 18 = .ok (.iconst 1, 1) := by decide +kernel
theorem dX9_order_19 : decode cX9_order 19 = .ok (.istore_n 3, 1) := by decide +kernel
theorem dX9_order_20 : decode cX9_order 20 = .ok (.iconst 2, 1) := by decide +kernel
theorem dX9_order_21 : decode cX9_order 21 = .ok (.istore 4, 2) := by decide +kernel
theorem dX9_order_23 : decode cX9_order 23 = .ok (.iload 4, 2) := by decide +kernel
theorem dX9_order_25 : decode cX9_order 25 = .ok (.iload_n 1, 1) := by decide +kernel
theorem dX9_order_26 : decode cX9_order 26 = .ok (.if_icmp .gt 14, 3) := by decide +kernel
theorem dX9_order_29 : decode cX9_order 29 = .ok (.iload_n 3, 1) := by decide +kernel
theorem dX9_order_30 : decode cX9_order 30 = .ok (.iload 4, 2) := by decide +kernel
theorem dX9_order_32 : decode cX9_order 32 = .ok (.imul, 1) := by decide +kernel
theorem dX9_order_33 : decode cX9_order 33 = .ok (.istore_n 3, 1) := by decide +kernel
theorem dX9_order_34 : decode cX9_order 34 = .ok (.iinc 4 1, 3) := by decide +kernel
theorem dX9_order_37 : decode cX9_order 37 = .ok (.goto (-14), 3) := by decide +kernel
theorem dX9_order_40 : decode cX9_order 40 = .ok (.ldc 122, 2) := by decide +kernel
theorem dX9_order_42 : decode cX9_order 42 = .ok (.istore 4, 2) := by decide +kernel
theorem dX9_order_44 : decode cX9_order 44 = .ok (.iconst 0, 1) := by decide +kernel
theorem dX9_order_45 : decode cX9_order 45 = .ok (.istore 5, 2) := by decide +kernel
theorem dX9_order_47 : decode cX9_order 47 = .ok (.iconst 0, 1) := by decide +kernel
theorem dX9_order_48 : decode cX9_order 48 = .ok (.istore 6, 2) := by decide +kernel
theorem dX9_order_50 : decode cX9_order 50 = .ok (.iconst 0, 1) := by decide +kernel
theorem dX9_order_51 : decode cX9_order 51 = .ok (.istore 7, 2) := by decide +kernel
theorem dX9_order_53 : decode cX9_order 53 = .ok (.iload 7, 2) := by decide +kernel
theorem dX9_order_55 : decode cX9_order 55 = .ok (.iload_n 3, 1) := by decide +kernel
theorem dX9_order_56 : decode cX9_order 56 = .ok (.if_icmp .ge 86, 3) := by decide +kernel
theorem dX9_order_59 : decode cX9_order 59 = .ok (.aload_n 0, 1) := by decide +kernel
theorem dX9_order_60 : decode cX9_order 60 = .ok (.iload_n 1, 1) := by decide +kernel
theorem dX9_order_61 : decode cX9_order 61 = .ok (.iload 7, 2) := by decide +kernel
theorem dX9_order_63 : decode cX9_order 63 = .ok (.invokevirtual 149, 3) := by decide +kernel
theorem dX9_order_66 : decode cX9_order 66 = .ok (.istore 8, 2) := by decide +kernel
theorem dX9_order_68 : decode cX9_order 68 = .ok (.aload_n 0, 1) := by decide +kernel
theorem dX9_order_69 : decode cX9_order 69 = .ok (.iload_n 1, 1) := by decide +kernel
theorem dX9_order_70 : decode cX9_order 70 = .ok (.invokevirtual 152, 3) := by decide +kernel
theorem dX9_order_73 : decode cX9_order 73 = .ok (.istore 9, 2) := by decide +kernel
theorem dX9_order_75 : decode cX9_order 75 = .ok (.iload 9, 2) := by decide +kernel
theorem dX9_order_77 : decode cX9_order 77 = .ok (.iload 4, 2) := by decide +kernel
theorem dX9_order_79 : decode cX9_order 79 = .ok (.if_icmp .ge 8, 3) := by decide +kernel
theorem dX9_order_82 : decode cX9_order 82 = .ok (.iload 8, 2) := by decide +kernel
theorem dX9_order_84 : decode cX9_order 84 = .ok (.goto 5, 3) := by decide +kernel
theorem dX9_order_87 : decode cX9_order 87 = .ok (.iload 6, 2) := by decide +kernel
theorem dX9_order_89 : decode cX9_order 89 = .ok (.istore 6, 2) := by decide +kernel
theorem dX9_order_91 : decode cX9_order 91 = .ok (.iload 9, 2) := by decide +kernel
theorem dX9_order_93 : decode cX9_order 93 = .ok (.iload 4, 2) := by decide +kernel
theorem dX9_order_95 : decode cX9_order 95 = .ok (.if_icmp .ge 7, 3) := by decide +kernel
theorem dX9_order_98 : decode cX9_order 98 = .ok (.iconst 1, 1) := by decide +kernel
theorem dX9_order_99 : decode cX9_order 99 = .ok (.goto 19, 3) := by decide +kernel
theorem dX9_order_102 : decode cX9_order 102 = .ok (.iload 9, 2) := by decide +kernel
theorem dX9_order_104 : decode cX9_order 104 = .ok (.iload 4, 2) := by decide +kernel
theorem dX9_order_106 : decode cX9_order 106 = .ok (.if_icmp .ne 10, 3) := by decide +kernel
theorem dX9_order_109 : decode cX9_order 109 = .ok (.iload 5, 2) := by decide +kernel
theorem dX9_order_111 : decode cX9_order 111 = .ok (.iconst 1, 1) := by decide +kernel
theorem dX9_order_112 : decode cX9_order 112 = .ok (.iadd, 1) := by decide +kernel
theorem dX9_order_113 : decode cX9_order 113 = .ok (.goto 5, 3) := by decide +kernel
theorem dX9_order_116 : decode cX9_order 116 = .ok (.iload 5, 2) := by decide +kernel
theorem dX9_order_118 : decode cX9_order 118 = .ok (.istore 5, 2) := by decide +kernel
theorem dX9_order_120 : decode cX9_order 120 = .ok (.iload 9, 2) := by decide +kernel
theorem dX9_order_122 : decode cX9_order 122 = .ok (.iload 4, 2) := by decide +kernel
theorem dX9_order_124 : decode cX9_order 124 = .ok (.if_icmp .ge 8, 3) := by decide +kernel
theorem dX9_order_127 : decode cX9_order 127 = .ok (.iload 9, 2) := by decide +kernel
theorem dX9_order_129 : decode cX9_order 129 = .ok (.goto 5, 3) := by decide +kernel
theorem dX9_order_132 : decode cX9_order 132 = .ok (.iload 4, 2) := by decide +kernel
theorem dX9_order_134 : decode cX9_order 134 = .ok (.istore 4, 2) := by decide +kernel
theorem dX9_order_136 : decode cX9_order 136 = .ok (.iinc 7 1, 3) := by decide +kernel
theorem dX9_order_139 : decode cX9_order 139 = .ok (.goto (-86), 3) := by decide +kernel
theorem dX9_order_142 : decode cX9_order 142 = .ok (.iload_n 2, 1) := by decide +kernel
theorem dX9_order_143 : decode cX9_order 143 = .ok (.iconst (-1), 1) := by decide +kernel
theorem dX9_order_144 : decode cX9_order 144 = .ok (.if_icmp .ne 8, 3) := by decide +kernel
theorem dX9_order_147 : decode cX9_order 147 = .ok (.iload 4, 2) := by decide +kernel
theorem dX9_order_149 : decode cX9_order 149 = .ok (.goto 33, 3) := by decide +kernel
theorem dX9_order_152 : decode cX9_order 152 = .ok (.iload_n 2, 1) := by decide +kernel
theorem dX9_order_153 : decode cX9_order 153 = .ok (.bipush (-2), 2) := by decide +kernel
theorem dX9_order_155 : decode cX9_order 155 = .ok (.if_icmp .ne 8, 3) := by decide +kernel
theorem dX9_order_158 : decode cX9_order 158 = .ok (.iload 5, 2) := by decide +kernel
theorem dX9_order_160 : decode cX9_order 160 = .ok (.goto 22, 3) := by decide +kernel
theorem dX9_order_163 : decode cX9_order 163 = .ok (.iload_n 2, 1) := by decide +kernel
theorem dX9_order_164 : decode cX9_order 164 = .ok (.iload_n 1, 1) := by decide +kernel
theorem dX9_order_165 : decode cX9_order 165 = .ok (.if_icmp .ge 15, 3) := by decide +kernel
theorem dX9_order_168 : decode cX9_order 168 = .ok (.iload 6, 2) := by decide +kernel
theorem dX9_order_170 : decode cX9_order 170 = .ok (.iconst 3, 1) := by decide +kernel
theorem dX9_order_171 : decode cX9_order 171 = .ok (.iload_n 2, 1) := by decide +kernel
theorem dX9_order_172 : decode cX9_order 172 = .ok (.imul, 1) := by decide +kernel
theorem dX9_order_173 : decode cX9_order 173 = .ok (.ishr, 1) := by decide +kernel
theorem dX9_order_174 : decode cX9_order 174 = .ok (.bipush 7, 2) := by decide +kernel
theorem dX9_order_176 : decode cX9_order 176 = .ok (.iand, 1) := by decide +kernel
theorem dX9_order_177 : decode cX9_order 177 = .ok (.goto 5, 3) := by decide +kernel
theorem dX9_order_180 : decode cX9_order 180 = .ok (.bipush (-4), 2) := by decide +kernel
theorem dX9_order_182 : decode cX9_order 182 = .ok (.ireturn, 1) := by decide +kernel
theorem dX9_undo_0 : decode cX9_undo 0 = .ok (.aload_n 0, 1) := by decide +kernel
theorem dX9_undo_1 : decode cX9_undo 1 = .ok (.getfield 95, 3) := by decide +kernel
theorem dX9_undo_4 : decode cX9_undo 4 = .ok (.ifCond .ne 6, 3) := by decide +kernel
theorem dX9_undo_7 : decode cX9_undo 7 = .ok (.bipush (-2), 2) := by decide +kernel
theorem dX9_undo_9 : decode cX9_undo 9 = .ok (.ireturn, 1) := by decide +kernel
theorem dX9_undo_10 : decode cX9_undo 10 = .ok (.aload_n 0, 1) := by decide +kernel
theorem dX9_undo_11 : decode cX9_undo 11 = .ok (.dup, 1) := by decide +kernel
theorem dX9_undo_12 : decode cX9_undo 12 = .ok (.getfield 95, 3) := by decide +kernel
theorem dX9_undo_15 : decode cX9_undo 15 = .ok (.iconst 1, 1) := by decide +kernel
theorem dX9_undo_16 : decode cX9_undo 16 = .ok (.isub, 1) := by decide +kernel
theorem dX9_undo_17 : decode cX9_undo 17 = .ok (.putfield 95, 3) := by decide +kernel
theorem dX9_undo_20 : decode cX9_undo 20 = .ok (.aload_n 0, 1) := by decide +kernel
theorem dX9_undo_21 : decode cX9_undo 21 = .ok (.getfield 16, 3) := by decide +kernel
theorem dX9_undo_24 : decode cX9_undo 24 = .ok (.aload_n 0, 1) := by decide +kernel
theorem dX9_undo_25 : decode cX9_undo 25 = .ok (.getfield 49, 3) := by decide +kernel
theorem dX9_undo_28 : decode cX9_undo 28 = .ok (.aload_n 0, 1) := by decide +kernel
theorem dX9_undo_29 : decode cX9_undo 29 = .ok (.getfield 95, 3) := by decide +kernel
theorem dX9_undo_32 : decode cX9_undo 32 = .ok (.iaload, 1) := by decide +kernel
theorem dX9_undo_33 : decode cX9_undo 33 = .ok (.aload_n 0, 1) := by decide +kernel
theorem dX9_undo_34 : decode cX9_undo 34 = .ok (.getfield 52, 3) := by decide +kernel
theorem dX9_undo_37 : decode cX9_undo 37 = .ok (.aload_n 0, 1) := by decide +kernel
theorem dX9_undo_38 : decode cX9_undo 38 = .ok (.getfield 95, 3) := by decide +kernel
theorem dX9_undo_41 : decode cX9_undo 41 = .ok (.iaload, 1) := by decide +kernel
theorem dX9_undo_42 : decode cX9_undo 42 = .ok (.iastore, 1) := by decide +kernel
theorem dX9_undo_43 : decode cX9_undo 43 = .ok (.aload_n 0, 1) := by decide +kernel
theorem dX9_undo_44 : decode cX9_undo 44 = .ok (.getfield 49, 3) := by decide +kernel
theorem dX9_undo_47 : decode cX9_undo 47 = .ok (.aload_n 0, 1) := by decide +kernel
theorem dX9_undo_48 : decode cX9_undo 48 = .ok (.getfield 95, 3) := by decide +kernel
theorem dX9_undo_51 : decode cX9_undo 51 = .ok (.iaload, 1) := by decide +kernel
theorem dX9_undo_52 : decode cX9_undo 52 = .ok (.bipush 40, 2) := by decide +kernel
theorem dX9_undo_54 : decode cX9_undo 54 = .ok (.idiv, 1) := by decide +kernel
theorem dX9_undo_55 : decode cX9_undo 55 = .ok (.bipush 100, 2) := by decide +kernel
theorem dX9_undo_57 : decode cX9_undo 57 = .ok (.imul, 1) := by decide +kernel
theorem dX9_undo_58 : decode cX9_undo 58 = .ok (.aload_n 0, 1) := by decide +kernel
theorem dX9_undo_59 : decode cX9_undo 59 = .ok (.getfield 49, 3) := by decide +kernel
theorem dX9_undo_62 : decode cX9_undo 62 = .ok (.aload_n 0, 1) := by decide +kernel
theorem dX9_undo_63 : decode cX9_undo 63 = .ok (.getfield 95, 3) := by decide +kernel
theorem dX9_undo_66 : decode cX9_undo 66 = .ok (.iaload, 1) := by decide +kernel
theorem dX9_undo_67 : decode cX9_undo 67 = .ok (.bipush 40, 2) := by decide +kernel
theorem dX9_undo_69 : decode cX9_undo 69 = .ok (.irem, 1) := by decide +kernel
theorem dX9_undo_70 : decode cX9_undo 70 = .ok (.iadd, 1) := by decide +kernel
theorem dX9_undo_71 : decode cX9_undo 71 = .ok (.ireturn, 1) := by decide +kernel
theorem dX9_count_0 : decode cX9_count 0 = .ok (.iload_n 1, 1) := by decide +kernel
theorem dX9_count_1 : decode cX9_count 1 = .ok (.tableswitch 63 0 4 #[35, 40, 48, 53, 58], 35) := by decide +kernel
theorem dX9_count_36 : decode cX9_count 36 = .ok (.aload_n 0, 1) := by decide +kernel
theorem dX9_count_37 : decode cX9_count 37 = .ok (.getfield 73, 3) := by decide +kernel
theorem dX9_count_40 : decode cX9_count 40 = .ok (.ireturn, 1) := by decide +kernel
theorem dX9_count_41 : decode cX9_count 41 = .ok (.aload_n 0, 1) := by decide +kernel
theorem dX9_count_42 : decode cX9_count 42 = .ok (.getfield 7, 3) := by decide +kernel
theorem dX9_count_45 : decode cX9_count 45 = .ok (.bipush 6, 2) := by decide +kernel
theorem dX9_count_47 : decode cX9_count 47 = .ok (.iaload, 1) := by decide +kernel
theorem dX9_count_48 : decode cX9_count 48 = .ok (.ireturn, 1) := by decide +kernel
theorem dX9_count_49 : decode cX9_count 49 = .ok (.aload_n 0, 1) := by decide +kernel
theorem dX9_count_50 : decode cX9_count 50 = .ok (.getfield 140, 3) := by decide +kernel
theorem dX9_count_53 : decode cX9_count 53 = .ok (.ireturn, 1) := by decide +kernel
theorem dX9_count_54 : decode cX9_count 54 = .ok (.aload_n 0, 1) := by decide +kernel
theorem dX9_count_55 : decode cX9_count 55 = .ok (.getfield 146, 3) := by decide +kernel
theorem dX9_count_58 : decode cX9_count 58 = .ok (.ireturn, 1) := by decide +kernel
theorem dX9_count_59 : decode cX9_count 59 = .ok (.aload_n 0, 1) := by decide +kernel
theorem dX9_count_60 : decode cX9_count 60 = .ok (.getfield 95, 3) := by decide +kernel
theorem dX9_count_63 : decode cX9_count 63 = .ok (.ireturn, 1) := by decide +kernel
theorem dX9_count_64 : decode cX9_count 64 = .ok (.iconst (-1), 1) := by decide +kernel
theorem dX9_count_65 : decode cX9_count 65 = .ok (.ireturn, 1) := by decide +kernel
