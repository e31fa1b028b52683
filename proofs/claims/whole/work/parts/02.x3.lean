theorem dX11_isFigure_1 : decode cX11_isFigure 1 = .ok (.bipush 48, 2) := by decide +kernel
theorem dX11_isFigure_3 : decode cX11_isFigure 3 = .ok (.if_icmp .lt 13, 3) := by decide +kernel
theorem dX11_isFigure_6 : decode cX11_isFigure 6 = .ok (.iload_n 0, 1) := by decide +kernel
theorem dX11_isFigure_7 : decode cX11_isFigure 7 = .ok (.bipush 57, 2) := by decide +kernel
theorem dX11_isFigure_9 : decode cX11_isFigure 9 = .ok (.if_icmp .gt 7, 3) := by decide +kernel
theorem dX11_isFigure_12 : decode cX11_isFigure 12 = .ok (.iconst 1, 1) := by decide +kernel
theorem dX11_isFigure_13 : decode cX11_isFigure 13 = .ok (.goto 4, 3) := by decide +kernel
theorem dX11_isFigure_16 : decode cX11_isFigure 16 = .ok (.iconst 0, 1) := by decide +kernel
theorem dX11_isFigure_17 : decode cX11_isFigure 17 = .ok (.ireturn, 1) := by decide +kernel
theorem dX11_next_0 : decode cX11_next 0 = .ok (.aload_n 0, 1) := by decide +kernel
theorem dX11_next_1 : decode cX11_next 1 = .ok (.aload_n 0, 1) := by decide +kernel
theorem dX11_next_2 : decode cX11_next 2 = .ok (.getfield 97, 3) := by decide +kernel
theorem dX11_next_5 : decode cX11_next 5 = .ok (.invokevirtual 100, 3) := by decide +kernel
theorem dX11_next_8 : decode cX11_next 8 = .ok (.bipush 32, 2) := by decide +kernel
theorem dX11_next_10 : decode cX11_next 10 = .ok (.if_icmp .eq 16, 3) := by decide +kernel
theorem dX11_next_13 : decode cX11_next 13 = .ok (.aload_n 0, 1) := by decide +kernel
theorem dX11_next_14 : decode cX11_next 14 = .ok (.aload_n 0, 1) := by decide +kernel
theorem dX11_next_15 : decode cX11_next 15 = .ok (.getfield 97, 3) := by decide +kernel
theorem dX11_next_18 : decode cX11_next 18 = .ok (.invokevirtual 100, 3) := by decide +kernel
theorem dX11_next_21 : decode cX11_next 21 = .ok (.bipush 10, 2) := by decide +kernel
theorem dX11_next_23 : decode cX11_next 23 = .ok (.if_icmp .ne 16, 3) := by decide +kernel
theorem dX11_next_26 : decode cX11_next 26 = .ok (.aload_n 0, 1) := by decide +kernel
theorem dX11_next_27 : decode cX11_next 27 = .ok (.dup, 1) := by decide +kernel
theorem dX11_next_28 : decode cX11_next 28 = .ok (.getfield 97, 3) := by decide +kernel
theorem dX11_next_31 : decode cX11_next 31 = .ok (.iconst 1, 1) := by decide +kernel
theorem dX11_next_32 : decode cX11_next 32 = .ok (.iadd, 1) := by decide +kernel
theorem dX11_next_33 : decode cX11_next 33 = .ok (.putfield 97, 3) := by decide +kernel
theorem dX11_next_36 : decode cX11_next 36 = .ok (.goto (-36), 3) := by decide +kernel
theorem dX11_next_39 : decode cX11_next 39 = .ok (.aload_n 0, 1) := by decide +kernel
theorem dX11_next_40 : decode cX11_next 40 = .ok (.aload_n 0, 1) := by decide +kernel
theorem dX11_next_41 : decode cX11_next 41 = .ok (.getfield 97, 3) := by decide +kernel
theorem dX11_next_44 : decode cX11_next 44 = .ok (.putfield 104, 3) := by decide +kernel
theorem dX11_next_47 : decode cX11_next 47 = .ok (.aload_n 0, 1) := by decide +kernel
theorem dX11_next_48 : decode cX11_next 48 = .ok (.aload_n 0, 1) := by decide +kernel
theorem dX11_next_49 : decode cX11_next 49 = .ok (.getfield 97, 3) := by decide +kernel
theorem dX11_next_52 : decode cX11_next 52 = .ok (.invokevirtual 100, 3) := by decide +kernel
theorem dX11_next_55 : decode cX11_next 55 = .ok (.istore_n 1, 1) := by decide +kernel
theorem dX11_next_56 : decode cX11_next 56 = .ok (.iload_n 1, 1) := by decide +kernel
theorem dX11_next_57 : decode cX11_next 57 = .ok (.ldc 96, 2) := by decide +kernel
theorem dX11_next_59 : decode cX11_next 59 = .ok (.if_icmp .ne 11, 3) := by decide +kernel
theorem dX11_next_62 : decode cX11_next 62 = .ok (.aload_n 0, 1) := by decide +kernel
theorem dX11_next_63 : decode cX11_next 63 = .ok (.iconst 1, 1) := by decide +kernel
theorem dX11_next_64 : decode cX11_next 64 = .ok (.putfield 107, 3) := by decide +kernel
theorem dX11_next_67 : decode cX11_next 67 = .ok (.goto 129, 3) := by decide +kernel
theorem dX11_next_70 : decode cX11_next 70 = .ok (.iload_n 1, 1) := by decide +kernel
theorem dX11_next_71 : decode cX11_next 71 = .ok (.invokestatic 110, 3) := by decide +kernel
theorem dX11_next_74 : decode cX11_next 74 = .ok (.ifCond .eq 38, 3) := by decide +kernel
theorem dX11_next_77 : decode cX11_next 77 = .ok (.aload_n 0, 1) := by decide +kernel
theorem dX11_next_78 : decode cX11_next 78 = .ok (.aload_n 0, 1) := by decide +kernel
theorem dX11_next_79 : decode cX11_next 79 = .ok (.getfield 97, 3) := by decide +kernel
theorem dX11_next_82 : decode cX11_next 82 = .ok (.invokevirtual 100, 3) := by decide +kernel
theorem dX11_next_85 : decode cX11_next 85 = .ok (.invokestatic 110, 3) := by decide +kernel
theorem dX11_next_88 : decode cX11_next 88 = .ok (.ifCond .eq 16, 3) := by decide +kernel
theorem dX11_next_91 : decode cX11_next 91 = .ok (.aload_n 0, 1) := by decide +kernel
theorem dX11_next_92 : decode cX11_next 92 = .ok (.dup, 1) := by decide +kernel
theorem dX11_next_93 : decode cX11_next 93 = .ok (.getfield 97, 3) := by decide +kernel
theorem dX11_next_96 : decode cX11_next 96 = .ok (.iconst 1, 1) := by decide +kernel
theorem dX11_next_97 : decode cX11_next 97 = .ok (.iadd, 1) := by decide +kernel
theorem dX11_next_98 : decode cX11_next 98 = .ok (.putfield 97, 3) := by decide +kernel
theorem dX11_next_101 : decode cX11_next 101 = .ok (.goto (-24), 3) := by decide +kernel
theorem dX11_next_104 : decode cX11_next 104 = .ok (.aload_n 0, 1) := by decide +kernel
theorem dX11_next_105 : decode cX11_next 105 = .ok (.iconst 2, 1) := by decide +kernel
theorem dX11_next_106 : decode cX11_next 106 = .ok (.putfield 107, 3) := by decide +kernel
theorem dX11_next_109 : decode cX11_next 109 = .ok (.goto 87, 3) := by decide +kernel
theorem dX11_next_112 : decode cX11_next 112 = .ok (.iload_n 1, 1) := by decide +kernel
theorem dX11_next_113 : decode cX11_next 113 = .ok (.invokestatic 113, 3) := by decide +kernel
theorem dX11_next_116 : decode cX11_next 116 = .ok (.ifCond .eq 55, 3) := by decide +kernel
theorem dX11_next_119 : decode cX11_next 119 = .ok (.aload_n 0, 1) := by decide +kernel
theorem dX11_next_120 : decode cX11_next 120 = .ok (.aload_n 0, 1) := by decide +kernel
theorem dX11_next_121 : decode cX11_next 121 = .ok (.getfield 97, 3) := by decide +kernel
theorem dX11_next_124 : decode cX11_next 124 = .ok (.invokevirtual 100, 3) := by decide +kernel
theorem dX11_next_127 : decode cX11_next 127 = .ok (.invokestatic 113, 3) := by decide +kernel
theorem dX11_next_130 : decode cX11_next 130 = .ok (.ifCond .eq 16, 3) := by decide +kernel
theorem dX11_next_133 : decode cX11_next 133 = .ok (.aload_n 0, 1) := by decide +kernel
theorem dX11_next_134 : decode cX11_next 134 = .ok (.dup, 1) := by decide +kernel
theorem dX11_next_135 : decode cX11_next 135 = .ok (.getfield 97, 3) := by decide +kernel
theorem dX11_next_138 : decode cX11_next 138 = .ok (.iconst 1, 1) := by decide +kernel
theorem dX11_next_139 : decode cX11_next 139 = .ok (.iadd, 1) := by decide +kernel
theorem dX11_next_140 : decode cX11_next 140 = .ok (.putfield 97, 3) := by decide +kernel
theorem dX11_next_143 : decode cX11_next 143 = .ok (.goto (-24), 3) := by decide +kernel
theorem dX11_next_146 : decode cX11_next 146 = .ok (.aload_n 0, 1) := by decide +kernel
theorem dX11_next_147 : decode cX11_next 147 = .ok (.aload_n 0, 1) := by decide +kernel
theorem dX11_next_148 : decode cX11_next 148 = .ok (.getfield 97, 3) := by decide +kernel
theorem dX11_next_151 : decode cX11_next 151 = .ok (.aload_n 0, 1) := by decide +kernel
theorem dX11_next_152 : decode cX11_next 152 = .ok (.getfield 104, 3) := by decide +kernel
theorem dX11_next_155 : decode cX11_next 155 = .ok (.isub, 1) := by decide +kernel
theorem dX11_next_156 : decode cX11_next 156 = .ok (.iconst 3, 1) := by decide +kernel
theorem dX11_next_157 : decode cX11_next 157 = .ok (.if_icmp .le 7, 3) := by decide +kernel
theorem dX11_next_160 : decode cX11_next 160 = .ok (.iconst 0, 1) := by decide +kernel
theorem dX11_next_161 : decode cX11_next 161 = .ok (.goto 4, 3) := by decide +kernel
theorem dX11_next_164 : decode cX11_next 164 = .ok (.iconst 3, 1) := by decide +kernel
theorem dX11_next_165 : decode cX11_next 165 = .ok (.putfield 107, 3) := by decide +kernel
theorem dX11_next_168 : decode cX11_next 168 = .ok (.goto 28, 3) := by decide +kernel
theorem dX11_next_171 : decode cX11_next 171 = .ok (.aload_n 0, 1) := by decide +kernel
theorem dX11_next_172 : decode cX11_next 172 = .ok (.dup, 1) := by decide +kernel
theorem dX11_next_173 : decode cX11_next 173 = .ok (.getfield 97, 3) := by decide +kernel
theorem dX11_next_176 : decode cX11_next 176 = .ok (.iconst 1, 1) := by decide +kernel
theorem dX11_next_177 : decode cX11_next 177 = .ok (.iadd, 1) := by decide +kernel
theorem dX11_next_178 : decode cX11_next 178 = .ok (.putfield 97, 3) := by decide +kernel
theorem dX11_next_181 : decode cX11_next 181 = .ok (.aload_n 0, 1) := by decide +kernel
theorem dX11_next_182 : decode cX11_next 182 = .ok (.iload_n 1, 1) := by decide +kernel
theorem dX11_next_183 : decode cX11_next 183 = .ok (.bipush 59, 2) := by decide +kernel
theorem dX11_next_185 : decode cX11_next 185 = .ok (.if_icmp .ne 7, 3) := by decide +kernel
theorem dX11_next_188 : decode cX11_next 188 = .ok (.iconst 4, 1) := by decide +kernel
theorem dX11_next_189 : decode cX11_next 189 = .ok (.goto 4, 3) := by decide +kernel
theorem dX11_next_192 : decode cX11_next 192 = .ok (.iconst 0, 1) := by decide +kernel
theorem dX11_next_193 : decode cX11_next 193 = .ok (.putfield 107, 3) := by decide +kernel
theorem dX11_next_196 : decode cX11_next 196 = .ok (.aload_n 0, 1) := by decide +kernel
theorem dX11_next_197 : decode cX11_next 197 = .ok (.aload_n 0, 1) := by decide +kernel
theorem dX11_next_198 : decode cX11_next 198 = .ok (.getfield 97, 3) := by decide +kernel
theorem dX11_next_201 : decode cX11_next 201 = .ok (.putfield 116, 3) := by decide +kernel
theorem dX11_next_204 : decode cX11_next 204 = .ok (.return_, 1) := by decide +kernel
theorem dX11_begin_0 : decode cX11_begin 0 = .ok (.aload_n 0, 1) := by decide +kernel
theorem dX11_begin_1 : decode cX11_begin 1 = .ok (.aload_n 0, 1) := by decide +kernel
theorem dX11_begin_2 : decode cX11_begin 2 = .ok (.getfield 86, 3) := by decide +kernel
theorem dX11_begin_5 : decode cX11_begin 5 = .ok (.putfield 93, 3) := by decide +kernel
theorem dX11_begin_8 : decode cX11_begin 8 = .ok (.aload_n 0, 1) := by decide +kernel
theorem dX11_begin_9 : decode cX11_begin 9 = .ok (.iconst 0, 1) := by decide +kernel
theorem dX11_begin_10 : decode cX11_begin 10 = .ok (.putfield 86, 3) := by decide +kernel
theorem dX11_begin_13 : decode cX11_begin 13 = .ok (.aload_n 0, 1) := by decide +kernel
theorem dX11_begin_14 : decode cX11_begin 14 = .ok (.iconst 0, 1) := by decide +kernel
theorem dX11_begin_15 : decode cX11_begin 15 = .ok (.putfield 97, 3) := by decide +kernel
theorem dX11_begin_18 : decode cX11_begin 18 = .ok (.aload_n 0, 1) := by decide +kernel
theorem dX11_begin_19 : decode cX11_begin 19 = .ok (.iconst 0, 1) := by decide +kernel
theorem dX11_begin_20 : decode cX11_begin 20 = .ok (.putfield 119, 3) := by decide +kernel
theorem dX11_begin_23 : decode cX11_begin 23 = .ok (.aload_n 0, 1) := by decide +kernel
theorem dX11_begin_24 : decode cX11_begin 24 = .ok (.invokevirtual 122, 3) := by decide +kernel
theorem dX11_begin_27 : decode cX11_begin 27 = .ok (.return_, 1) := by decide +kernel
theorem dX11_bad_0 : decode cX11_bad 0 = .ok (.aload_n 0, 1) := by decide +kernel
theorem dX11_bad_1 : decode cX11_bad 1 = .ok (.getfield 119, 3) := by decide +kernel
theorem dX11_bad_4 : decode cX11_bad 4 = .ok (.ifCond .ne 16, 3) := by decide +kernel
theorem dX11_bad_7 : decode cX11_bad 7 = .ok (.aload_n 0, 1) := by decide +kernel
theorem dX11_bad_8 : decode cX11_bad 8 = .ok (.iload_n 1, 1) := by decide +kernel
theorem dX11_bad_9 : decode cX11_bad 9 = .ok (.putfield 119, 3) := by decide +kernel
theorem dX11_bad_12 : decode cX11_bad 12 = .ok (.aload_n 0, 1) := by decide +kernel
theorem dX11_bad_13 : decode cX11_bad 13 = .ok (.aload_n 0, 1) := by decide +kernel
theorem dX11_bad_14 : decode cX11_bad 14 = .ok (.getfield 104, 3) := by decide +kernel
theorem dX11_bad_17 : decode cX11_bad 17 = .ok (.putfield 125, 3) := by decide +kernel
theorem dX11_bad_20 : decode cX11_bad 20 = .ok (.return_, 1) := by decide +kernel
theorem dX11_must_0 : decode cX11_must 0 = .ok (.iload_n 1, 1) := by decide +kernel
theorem dX11_must_1 : decode cX11_must 1 = .ok (.ifCond .ne 8, 3) := by decide +kernel
theorem dX11_must_4 : decode cX11_must 4 = .ok (.aload_n 0, 1) := by decide +kernel
theorem dX11_must_5 : decode cX11_must 5 = .ok (.iconst 1, 1) := by decide +kernel
theorem dX11_must_6 : decode cX11_must 6 = .ok (.invokevirtual 128, 3) := by decide +kernel
theorem dX11_must_9 : decode cX11_must 9 = .ok (.aload_n 0, 1) := by decide +kernel
theorem dX11_must_10 : decode cX11_must 10 = .ok (.getfield 119, 3) := by decide +kernel
theorem dX11_must_13 : decode cX11_must 13 = .ok (.ifCond .ne 7, 3) := by decide +kernel
theorem dX11_must_16 : decode cX11_must 16 = .ok (.aload_n 0, 1) := by decide +kernel
theorem dX11_must_17 : decode cX11_must 17 = .ok (.invokevirtual 122, 3) := by decide +kernel
theorem dX11_must_20 : decode cX11_must 20 = .ok (.return_, 1) := by decide +kernel
theorem dX11_name_0 : decode cX11_name 0 = .ok (.lconst 0, 1) := by decide +kernel
theorem dX11_name_1 : decode cX11_name 1 = .ok (.lstore_n 1, 1) := by decide +kernel
theorem dX11_name_2 : decode cX11_name 2 = .ok (.aload_n 0, 1) := by decide +kernel
theorem dX11_name_3 : decode cX11_name 3 = .ok (.getfield 104, 3) := by decide +kernel
theorem dX11_name_6 : decode cX11_name 6 = .ok (.istore_n 3, 1) := by decide +kernel
theorem dX11_name_7 : decode cX11_name 7 = .ok (.iload_n 3, 1) := by decide +kernel
theorem dX11_name_8 : decode cX11_name 8 = .ok (.aload_n 0, 1) := by decide +kernel
theorem dX11_name_9 : decode cX11_name 9 = .ok (.getfield 116, 3) := by decide +kernel
theorem dX11_name_12 : decode cX11_name 12 = .ok (.if_icmp .ge 44, 3) := by decide +kernel
theorem dX11_name_15 : decode cX11_name 15 = .ok (.aload_n 0, 1) := by decide +kernel
theorem dX11_name_16 : decode cX11_name 16 = .ok (.getfield 107, 3) := by decide +kernel
theorem dX11_name_19 : decode cX11_name 19 = .ok (.iconst 2, 1) := by decide +kernel
theorem dX11_name_20 : decode cX11_name 20 = .ok (.if_icmp .ne 36, 3) := by decide +kernel
theorem dX11_name_23 : decode cX11_name 23 = .ok (.aload_n 0, 1) := by decide +kernel
theorem dX11_name_24 : decode cX11_name 24 = .ok (.getfield 116, 3) := by decide +kernel
theorem dX11_name_27 : decode cX11_name 27 = .ok (.aload_n 0, 1) := by decide +kernel
theorem dX11_name_28 : decode cX11_name 28 = .ok (.getfield 104, 3) := by decide +kernel
theorem dX11_name_31 : decode cX11_name 31 = .ok (.isub, 1) := by decide +kernel
theorem dX11_name_32 : decode cX11_name 32 = .ok (.bipush 8, 2) := by decide +kernel
theorem dX11_name_34 : decode cX11_name 34 = .ok (.if_icmp .ge 22, 3) := by decide +kernel
theorem dX11_name_37 : decode cX11_name 37 = .ok (.lload_n 1, 1) := by decide +kernel
theorem dX11_name_38 : decode cX11_name 38 = .ok (.bipush 8, 2) := by decide +kernel
theorem dX11_name_40 : decode cX11_name 40 = .ok (.lshl, 1) := by decide +kernel
theorem dX11_name_41 : decode cX11_name 41 = .ok (.aload_n 0, 1) := by decide +kernel
theorem dX11_name_42 : decode cX11_name 42 = .ok (.getfield 29, 3) := by decide +kernel
theorem dX11_name_45 : decode cX11_name 45 = .ok (.iload_n 3, 1) := by decide +kernel
theorem dX11_name_46 : decode cX11_name 46 = .ok (.iaload, 1) := by decide +kernel
theorem dX11_name_47 : decode cX11_name 47 = .ok (.i2l, 1) := by decide +kernel
theorem dX11_name_48 : decode cX11_name 48 = .ok (.lor, 1) := by decide +kernel
theorem dX11_name_49 : decode cX11_name 49 = .ok (.lstore_n 1, 1) := by decide +kernel
theorem dX11_name_50 : decode cX11_name 50 = .ok (.iinc 3 1, 3) := by decide +kernel
theorem dX11_name_53 : decode cX11_name 53 = .ok (.goto (-46), 3) := by decide +kernel
theorem dX11_name_56 : decode cX11_name 56 = .ok (.aload_n 0, 1) := by decide +kernel
theorem dX11_name_57 : decode cX11_name 57 = .ok (.getfield 119, 3) := by decide +kernel
theorem dX11_name_60 : decode cX11_name 60 = .ok (.ifCond .ne 7, 3) := by decide +kernel
theorem dX11_name_63 : decode cX11_name 63 = .ok (.lload_n 1, 1) := by decide +kernel
theorem dX11_name_64 : decode cX11_name 64 = .ok (.goto 4, 3) := by decide +kernel
theorem dX11_name_67 : decode cX11_name 67 = .ok (.lconst 0, 1) := by decide +kernel
theorem dX11_name_68 : decode cX11_name 68 = .ok (.lreturn, 1) := by decide +kernel
theorem dX11_figures_0 : decode cX11_figures 0 = .ok (.iconst 0, 1) := by decide +kernel
theorem dX11_figures_1 : decode cX11_figures 1 = .ok (.istore_n 1, 1) := by decide +kernel
theorem dX11_figures_2 : decode cX11_figures 2 = .ok (.aload_n 0, 1) := by decide +kernel
theorem dX11_figures_3 : decode cX11_figures 3 = .ok (.getfield 104, 3) := by decide +kernel
theorem dX11_figures_6 : decode cX11_figures 6 = .ok (.istore_n 2, 1) := by decide +kernel
theorem dX11_figures_7 : decode cX11_figures 7 = .ok (.iload_n 2, 1) := by decide +kernel
theorem dX11_figures_8 : decode cX11_figures 8 = .ok (.aload_n 0, 1) := by decide +kernel
theorem dX11_figures_9 : decode cX11_figures 9 = .ok (.getfield 116, 3) := by decide +kernel
theorem dX11_figures_12 : decode cX11_figures 12 = .ok (.if_icmp .ge 32, 3) := by decide +kernel
theorem dX11_figures_15 : decode cX11_figures 15 = .ok (.aload_n 0, 1) := by decide +kernel
theorem dX11_figures_16 : decode cX11_figures 16 = .ok (.getfield 107, 3) := by decide +kernel
theorem dX11_figures_19 : decode cX11_figures 19 = .ok (.iconst 3, 1) := by decide +kernel
theorem dX11_figures_20 : decode cX11_figures 20 = .ok (.if_icmp .ne 24, 3) := by decide +kernel
theorem dX11_figures_23 : decode cX11_figures 23 = .ok (.bipush 10, 2) := by decide +kernel
theorem dX11_figures_25 : decode cX11_figures 25 = .ok (.iload_n 1, 1) := by decide +kernel
theorem dX11_figures_26 : decode cX11_figures 26 = .ok (.imul, 1) := by decide +kernel
theorem dX11_figures_27 : decode cX11_figures 27 = .ok (.aload_n 0, 1) := by decide +kernel
theorem dX11_figures_28 : decode cX11_figures 28 = .ok (.getfield 29, 3) := by decide +kernel
theorem dX11_figures_31 : decode cX11_figures 31 = .ok (.iload_n 2, 1) := by decide +kernel
theorem dX11_figures_32 : decode cX11_figures 32 = .ok (.iaload, 1) := by decide +kernel
theorem dX11_figures_33 : decode cX11_figures 33 = .ok (.iadd, 1) := by decide +kernel
theorem dX11_figures_34 : decode cX11_figures 34 = .ok (.bipush 48, 2) := by decide +kernel
theorem dX11_figures_36 : decode cX11_figures 36 = .ok (.isub, 1) := by decide +kernel
theorem dX11_figures_37 : decode cX11_figures 37 = .ok (.istore_n 1, 1) := by decide +kernel
theorem dX11_figures_38 : decode cX11_figures 38 = .ok (.iinc 2 1, 3) := by decide +kernel
theorem dX11_figures_41 : decode cX11_figures 41 = .ok (.goto (-34), 3) := by decide +kernel
theorem dX11_figures_44 : decode cX11_figures 44 = .ok (.iload_n 1, 1) := by decide +kernel
theorem dX11_figures_45 : decode cX11_figures 45 = .ok (.ireturn, 1) := by decide +kernel
theorem dX11_number_0 : decode cX11_number 0 = .ok (.aload_n 0, 1) := by decide +kernel
theorem dX11_number_1 : decode cX11_number 1 = .ok (.getfield 119, 3) := by decide +kernel
theorem dX11_number_4 : decode cX11_number 4 = .ok (.ifCond .le 5, 3) := by decide +kernel
theorem dX11_number_7 : decode cX11_number 7 = .ok (.iconst 0, 1) := by decide +kernel
theorem dX11_number_8 : decode cX11_number 8 = .ok (.ireturn, 1) := by decide +kernel
theorem dX11_number_9 : decode cX11_number 9 = .ok (.aload_n 0, 1) := by decide +kernel
theorem dX11_number_10 : decode cX11_number 10 = .ok (.invokevirtual 132, 3) := by decide +kernel
theorem dX11_number_13 : decode cX11_number 13 = .ok (.istore_n 3, 1) := by decide +kernel
theorem dX11_number_14 : decode cX11_number 14 = .ok (.aload_n 0, 1) := by decide +kernel
theorem dX11_number_15 : decode cX11_number 15 = .ok (.getfield 107, 3) := by decide +kernel
theorem dX11_number_18 : decode cX11_number 18 = .ok (.iconst 3, 1) := by decide +kernel
theorem dX11_number_19 : decode cX11_number 19 = .ok (.if_icmp .ne 20, 3) := by decide +kernel
theorem dX11_number_22 : decode cX11_number 22 = .ok (.iload_n 3, 1) := by decide +kernel
theorem dX11_number_23 : decode cX11_number 23 = .ok (.i2l, 1) := by decide +kernel
theorem dX11_number_24 : decode cX11_number 24 = .ok (.iload_n 1, 1) := by decide +kernel
theorem dX11_number_25 : decode cX11_number 25 = .ok (.i2l, 1) := by decide +kernel
theorem dX11_number_26 : decode cX11_number 26 = .ok (.iload_n 2, 1) := by decide +kernel
theorem dX11_number_27 : decode cX11_number 27 = .ok (.i2l, 1) := by decide +kernel
theorem dX11_number_28 : decode cX11_number 28 = .ok (.invokestatic 68, 3) := by decide +kernel
theorem dX11_number_31 : decode cX11_number 31 = .ok (.ifCond .ne 8, 3) := by decide +kernel
theorem dX11_number_34 : decode cX11_number 34 = .ok (.aload_n 0, 1) := by decide +kernel
theorem dX11_number_35 : decode cX11_number 35 = .ok (.iconst 2, 1) := by decide +kernel
theorem dX11_number_36 : decode cX11_number 36 = .ok (.invokevirtual 128, 3) := by decide +kernel
theorem dX11_number_39 : decode cX11_number 39 = .ok (.aload_n 0, 1) := by decide +kernel
theorem dX11_number_40 : decode cX11_number 40 = .ok (.aload_n 0, 1) := by decide +kernel
theorem dX11_number_41 : decode cX11_number 41 = .ok (.getfield 107, 3) := by decide +kernel
theorem dX11_number_44 : decode cX11_number 44 = .ok (.iconst 3, 1) := by decide +kernel
theorem dX11_number_45 : decode cX11_number 45 = .ok (.if_icmp .ne 7, 3) := by decide +kernel
theorem dX11_number_48 : decode cX11_number 48 = .ok (.iconst 1, 1) := by decide +kernel
theorem dX11_number_49 : decode cX11_number 49 = .ok (.goto 4, 3) := by decide +kernel
theorem dX11_number_52 : decode cX11_number 52 = .ok (.iconst 0, 1) := by decide +kernel
theorem dX11_number_53 : decode cX11_number 53 = .ok (.invokevirtual 136, 3) := by decide +kernel
theorem dX11_number_56 : decode cX11_number 56 = .ok (.iload_n 3, 1) := by decide +kernel
theorem dX11_number_57 : decode cX11_number 57 = .ok (.ireturn, 1) := by decide +kernel
theorem dX11_mustEnd_0 : decode cX11_mustEnd 0 = .ok (.aload_n 0, 1) := by decide +kernel
theorem dX11_mustEnd_1 : decode cX11_mustEnd 1 = .ok (.getfield 119, 3) := by decide +kernel
theorem dX11_mustEnd_4 : decode cX11_mustEnd 4 = .ok (.ifCond .ne 20, 3) := by decide +kernel
theorem dX11_mustEnd_7 : decode cX11_mustEnd 7 = .ok (.aload_n 0, 1) := by decide +kernel
theorem dX11_mustEnd_8 : decode cX11_mustEnd 8 = .ok (.aload_n 0, 1) := by decide +kernel
theorem dX11_mustEnd_9 : decode cX11_mustEnd 9 = .ok (.getfield 107, 3) := by decide +kernel
theorem dX11_mustEnd_12 : decode cX11_mustEnd 12 = .ok (.iconst 4, 1) := by decide +kernel
theorem dX11_mustEnd_13 : decode cX11_mustEnd 13 = .ok (.if_icmp .ne 7, 3) := by decide +kernel
theorem dX11_mustEnd_16 : decode cX11_mustEnd 16 = .ok (.iconst 1, 1) := by decide +kernel
theorem dX11_mustEnd_17 : decode cX11_mustEnd 17 = .ok (.goto 4, 3) := by decide +kernel
theorem dX11_mustEnd_20 : decode cX11_mustEnd 20 = .ok (.iconst 0, 1) := by decide +kernel
theorem dX11_mustEnd_21 : decode cX11_mustEnd 21 = .ok (.invokevirtual 136, 3) := by decide +kernel
theorem dX11_mustEnd_24 : decode cX11_mustEnd 24 = .ok (.return_, 1) := by decide +kernel
theorem dX11_begins_0 : decode cX11_begins 0 = .ok (.aload_n 0, 1) := by decide +kernel
theorem dX11_begins_1 : decode cX11_begins 1 = .ok (.getfield 22, 3) := by decide +kernel
theorem dX11_begins_4 : decode cX11_begins 4 = .ok (.iload_n 1, 1) := by decide +kernel
theorem dX11_begins_5 : decode cX11_begins 5 = .ok (.iaload, 1) := by decide +kernel
theorem dX11_begins_6 : decode cX11_begins 6 = .ok (.iload_n 2, 1) := by decide +kernel
theorem dX11_begins_7 : decode cX11_begins 7 = .ok (.if_icmp .ne 8, 3) := by decide +kernel
theorem dX11_begins_10 : decode cX11_begins 10 = .ok (.aload_n 0, 1) := by decide +kernel
theorem dX11_begins_11 : decode cX11_begins 11 = .ok (.iconst 3, 1) := by decide +kernel
theorem dX11_begins_12 : decode cX11_begins 12 = .ok (.invokevirtual 128, 3) := by decide +kernel
theorem dX11_begins_15 : decode cX11_begins 15 = .ok (.aload_n 0, 1) := by decide +kernel
theorem dX11_begins_16 : decode cX11_begins 16 = .ok (.iconst 1, 1) := by decide +kernel
theorem dX11_begins_17 : decode cX11_begins 17 = .ok (.invokevirtual 136, 3) := by decide +kernel
theorem dX11_begins_20 : decode cX11_begins 20 = .ok (.return_, 1) := by decide +kernel
theorem dX11_isNew_0 : decode cX11_isNew 0 = .ok (.iload_n 1, 1) := by decide +kernel
theorem dX11_isNew_1 : decode cX11_isNew 1 = .ok (.iload_n 2, 1) := by decide +kernel
theorem dX11_isNew_2 : decode cX11_isNew 2 = .ok (.if_icmp .eq 7, 3) := by decide +kernel
theorem dX11_isNew_5 : decode cX11_isNew 5 = .ok (.iconst 1, 1) := by decide +kernel
theorem dX11_isNew_6 : decode cX11_isNew 6 = .ok (.goto 4, 3) := by decide +kernel
theorem dX11_isNew_9 : decode cX11_isNew 9 = .ok (.iconst 0, 1) := by decide +kernel
theorem dX11_isNew_10 : decode cX11_isNew 10 = .ok (.istore_n 3, 1) := by decide +kernel
theorem dX11_isNew_11 : decode cX11_isNew 11 = .ok (.iconst 2, 1) := by decide +kernel
theorem dX11_isNew_12 : decode cX11_isNew 12 = .ok (.istore 4, 2) := by decide +kernel
theorem dX11_isNew_14 : decode cX11_isNew 14 = .ok (.iload 4, 2) := by decide +kernel
theorem dX11_isNew_16 : decode cX11_isNew 16 = .ok (.iload_n 1, 1) := by decide +kernel
theorem dX11_isNew_17 : decode cX11_isNew 17 = .ok (.if_icmp .ge 26, 3) := by decide +kernel
theorem dX11_isNew_20 : decode cX11_isNew 20 = .ok (.iload_n 3, 1) := by decide +kernel
theorem dX11_isNew_21 : decode cX11_isNew 21 = .ok (.ifCond .eq 14, 3) := by decide +kernel
theorem dX11_isNew_24 : decode cX11_isNew 24 = .ok (.iload_n 1, 1) := by decide +kernel
theorem dX11_isNew_25 : decode cX11_isNew 25 = .ok (.iload 4, 2) := by decide +kernel
theorem dX11_isNew_27 : decode cX11_isNew 27 = .ok (.irem, 1) := by decide +kernel
theorem dX11_isNew_28 : decode cX11_isNew 28 = .ok (.ifCond .eq 7, 3) := by decide +kernel
theorem dX11_isNew_31 : decode cX11_isNew 31 = .ok (.iconst 1, 1) := by decide +kernel
theorem dX11_isNew_32 : decode cX11_isNew 32 = .ok (.goto 4, 3) := by decide +kernel
theorem dX11_isNew_35 : decode cX11_isNew 35 = .ok (.iconst 0, 1) := by decide +kernel
theorem dX11_isNew_36 : decode cX11_isNew 36 = .ok (.istore_n 3, 1) := by decide +kernel
theorem dX11_isNew_37 : decode cX11_isNew 37 = .ok (.iinc 4 1, 3) := by decide +kernel
theorem dX11_isNew_40 : decode cX11_isNew 40 = .ok (.goto (-26), 3) := by decide +kernel
theorem dX11_isNew_43 : decode cX11_isNew 43 = .ok (.iconst 0, 1) := by decide +kernel
theorem dX11_isNew_44 : decode cX11_isNew 44 = .ok (.istore 4, 2) := by decide +kernel
theorem dX11_isNew_46 : decode cX11_isNew 46 = .ok (.iload 4, 2) := by decide +kernel
theorem dX11_isNew_48 : decode cX11_isNew 48 = .ok (.aload_n 0, 1) := by decide +kernel
theorem dX11_isNew_49 : decode cX11_isNew 49 = .ok (.getfield 22, 3) := by decide +kernel
theorem dX11_isNew_52 : decode cX11_isNew 52 = .ok (.iconst 0, 1) := by decide +kernel
theorem dX11_isNew_53 : decode cX11_isNew 53 = .ok (.iaload, 1) := by decide +kernel
theorem dX11_isNew_54 : decode cX11_isNew 54 = .ok (.if_icmp .ge 51, 3) := by decide +kernel
theorem dX11_isNew_57 : decode cX11_isNew 57 = .ok (.iload_n 3, 1) := by decide +kernel
theorem dX11_isNew_58 : decode cX11_isNew 58 = .ok (.ifCond .eq 39, 3) := by decide +kernel
theorem dX11_isNew_61 : decode cX11_isNew 61 = .ok (.aload_n 0, 1) := by decide +kernel
theorem dX11_isNew_62 : decode cX11_isNew 62 = .ok (.getfield 22, 3) := by decide +kernel
theorem dX11_isNew_65 : decode cX11_isNew 65 = .ok (.iconst 3, 1) := by decide +kernel
theorem dX11_isNew_66 : decode cX11_isNew 66 = .ok (.iconst 3, 1) := by decide +kernel
theorem dX11_isNew_67 : decode cX11_isNew 67 = .ok (.iload 4, 2) := by decide +kernel
theorem dX11_isNew_69 : decode cX11_isNew 69 = .ok (.imul, 1) := by decide +kernel
theorem dX11_isNew_70 : decode cX11_isNew 70 = .ok (.iadd, 1) := by decide +kernel
theorem dX11_isNew_71 : decode cX11_isNew 71 = .ok (.iaload, 1) := by decide +kernel
theorem dX11_isNew_72 : decode cX11_isNew 72 = .ok (.iload_n 1, 1) := by decide +kernel
theorem dX11_isNew_73 : decode cX11_isNew 73 = .ok (.if_icmp .eq 24, 3) := by decide +kernel
theorem dX11_isNew_76 : decode cX11_isNew 76 = .ok (.aload_n 0, 1) := by decide +kernel
theorem dX11_isNew_77 : decode cX11_isNew 77 = .ok (.getfield 22, 3) := by decide +kernel
theorem dX11_isNew_80 : decode cX11_isNew 80 = .ok (.iconst 3, 1) := by decide +kernel
theorem dX11_isNew_81 : decode cX11_isNew 81 = .ok (.iconst 3, 1) := by decide +kernel
theorem dX11_isNew_82 : decode cX11_isNew 82 = .ok (.iload 4, 2) := by decide +kernel
theorem dX11_isNew_84 : decode cX11_isNew 84 = .ok (.imul, 1) := by decide +kernel
theorem dX11_isNew_85 : decode cX11_isNew 85 = .ok (.iadd, 1) := by decide +kernel
theorem dX11_isNew_86 : decode cX11_isNew 86 = .ok (.iconst 1, 1) := by decide +kernel
theorem dX11_isNew_87 : decode cX11_isNew 87 = .ok (.iadd, 1) := by decide +kernel
theorem dX11_isNew_88 : decode cX11_isNew 88 = .ok (.iaload, 1) := by decide +kernel
theorem dX11_isNew_89 : decode cX11_isNew 89 = .ok (.iload_n 1, 1) := by decide +kernel
theorem dX11_isNew_90 : decode cX11_isNew 90 = .ok (.if_icmp .eq 7, 3) := by decide +kernel
theorem dX11_isNew_93 : decode cX11_isNew 93 = .ok (.iconst 1, 1) := by decide +kernel
theorem dX11_isNew_94 : decode cX11_isNew 94 = .ok (.goto 4, 3) := by decide +kernel
theorem dX11_isNew_97 : decode cX11_isNew 97 = .ok (.iconst 0, 1) := by decide +kernel
theorem dX11_isNew_98 : decode cX11_isNew 98 = .ok (.istore_n 3, 1) := by decide +kernel
theorem dX11_isNew_99 : decode cX11_isNew 99 = .ok (.iinc 4 1, 3) := by decide +kernel
theorem dX11_isNew_102 : decode cX11_isNew 102 = .ok (.goto (-56), 3) := by decide +kernel
theorem dX11_isNew_105 : decode cX11_isNew 105 = .ok (.iload_n 3, 1) := by decide +kernel
theorem dX11_isNew_106 : decode cX11_isNew 106 = .ok (.ireturn, 1) := by decide +kernel
theorem dX11_newNumber_0 : decode cX11_newNumber 0 = .ok (.aload_n 0, 1) := by decide +kernel
theorem dX11_newNumber_1 : decode cX11_newNumber 1 = .ok (.invokevirtual 132, 3) := by decide +kernel
theorem dX11_newNumber_4 : decode cX11_newNumber 4 = .ok (.istore_n 2, 1) := by decide +kernel
theorem dX11_newNumber_5 : decode cX11_newNumber 5 = .ok (.aload_n 0, 1) := by decide +kernel
theorem dX11_newNumber_6 : decode cX11_newNumber 6 = .ok (.getfield 119, 3) := by decide +kernel
theorem dX11_newNumber_9 : decode cX11_newNumber 9 = .ok (.ifCond .ne 39, 3) := by decide +kernel
theorem dX11_newNumber_12 : decode cX11_newNumber 12 = .ok (.aload_n 0, 1) := by decide +kernel
theorem dX11_newNumber_13 : decode cX11_newNumber 13 = .ok (.getfield 107, 3) := by decide +kernel
theorem dX11_newNumber_16 : decode cX11_newNumber 16 = .ok (.iconst 3, 1) := by decide +kernel
theorem dX11_newNumber_17 : decode cX11_newNumber 17 = .ok (.if_icmp .ne 31, 3) := by decide +kernel
theorem dX11_newNumber_20 : decode cX11_newNumber 20 = .ok (.iload_n 2, 1) := by decide +kernel
theorem dX11_newNumber_21 : decode cX11_newNumber 21 = .ok (.i2l, 1) := by decide +kernel
theorem dX11_newNumber_22 : decode cX11_newNumber 22 = .ok (.ldc2_w 76, 3) := by decide +kernel
theorem dX11_newNumber_25 : decode cX11_newNumber 25 = .ok (.ldc2_w 140, 3) := by decide +kernel
theorem dX11_newNumber_28 : decode cX11_newNumber 28 = .ok (.invokestatic 68, 3) := by decide +kernel
theorem dX11_newNumber_31 : decode cX11_newNumber 31 = .ok (.ifCond .eq 17, 3) := by decide +kernel
theorem dX11_newNumber_34 : decode cX11_newNumber 34 = .ok (.aload_n 0, 1) := by decide +kernel
theorem dX11_newNumber_35 : decode cX11_newNumber 35 = .ok (.iload_n 2, 1) := by decide +kernel
theorem dX11_newNumber_36 : decode cX11_newNumber 36 = .ok (.iload_n 1, 1) := by decide +kernel
theorem dX11_newNumber_37 : decode cX11_newNumber 37 = .ok (.invokevirtual 142, 3) := by decide +kernel
theorem dX11_newNumber_40 : decode cX11_newNumber 40 = .ok (.ifCond .ne 8, 3) := by decide +kernel
theorem dX11_newNumber_43 : decode cX11_newNumber 43 = .ok (.aload_n 0, 1) := by decide +kernel
theorem dX11_newNumber_44 : decode cX11_newNumber 44 = .ok (.iconst 2, 1) := by decide +kernel
theorem dX11_newNumber_45 : decode cX11_newNumber 45 = .ok (.invokevirtual 128, 3) := by decide +kernel
theorem dX11_newNumber_48 : decode cX11_newNumber 48 = .ok (.aload_n 0, 1) := by decide +kernel
theorem dX11_newNumber_49 : decode cX11_newNumber 49 = .ok (.iconst 2, 1) := by decide +kernel
theorem dX11_newNumber_50 : decode cX11_newNumber 50 = .ok (.sipush 199, 3) := by decide +kernel
theorem dX11_newNumber_53 : decode cX11_newNumber 53 = .ok (.invokevirtual 146, 3) := by decide +kernel
theorem dX11_newNumber_56 : decode cX11_newNumber 56 = .ok (.ireturn, 1) := by decide +kernel
theorem dX11_readThing_0 : decode cX11_readThing 0 = .ok (.aload_n 0, 1) := by decide +kernel
theorem dX11_readThing_1 : decode cX11_readThing 1 = .ok (.iconst 0, 1) := by decide +kernel
theorem dX11_readThing_2 : decode cX11_readThing 2 = .ok (.bipush 12, 2) := by decide +kernel
theorem dX11_readThing_4 : decode cX11_readThing 4 = .ok (.invokevirtual 150, 3) := by decide +kernel
theorem dX11_readThing_7 : decode cX11_readThing 7 = .ok (.aload_n 0, 1) := by decide +kernel
theorem dX11_readThing_8 : decode cX11_readThing 8 = .ok (.iconst 0, 1) := by decide +kernel
theorem dX11_readThing_9 : decode cX11_readThing 9 = .ok (.invokevirtual 154, 3) := by decide +kernel
theorem dX11_readThing_12 : decode cX11_readThing 12 = .ok (.istore_n 1, 1) := by decide +kernel
theorem dX11_readThing_13 : decode cX11_readThing 13 = .ok (.iconst 0, 1) := by decide +kernel
theorem dX11_readThing_14 : decode cX11_readThing 14 = .ok (.istore_n 2, 1) := by decide +kernel
theorem dX11_readThing_15 : decode cX11_readThing 15 = .ok (.aload_n 0, 1) := by decide +kernel
theorem dX11_readThing_16 : decode cX11_readThing 16 = .ok (.invokevirtual 157, 3) := by decide +kernel
theorem dX11_readThing_19 : decode cX11_readThing 19 = .ok (.ldc2_w 161, 3) := by decide +kernel
theorem dX11_readThing_22 : decode cX11_readThing 22 = .ok (.lcmp, 1) := by decide +kernel
theorem dX11_readThing_23 : decode cX11_readThing 23 = .ok (.ifCond .ne 14, 3) := by decide +kernel
theorem dX11_readThing_26 : decode cX11_readThing 26 = .ok (.aload_n 0, 1) := by decide +kernel
theorem dX11_readThing_27 : decode cX11_readThing 27 = .ok (.iconst 1, 1) := by decide +kernel
theorem dX11_readThing_28 : decode cX11_readThing 28 = .ok (.invokevirtual 136, 3) := by decide +kernel
theorem dX11_readThing_31 : decode cX11_readThing 31 = .ok (.aload_n 0, 1) := by decide +kernel
theorem dX11_readThing_32 : decode cX11_readThing 32 = .ok (.iload_n 1, 1) := by decide +kernel
theorem dX11_readThing_33 : decode cX11_readThing 33 = .ok (.invokevirtual 154, 3) := by decide +kernel
theorem dX11_readThing_36 : decode cX11_readThing 36 = .ok (.istore_n 2, 1) := by decide +kernel
theorem dX11_readThing_37 : decode cX11_readThing 37 = .ok (.aload_n 0, 1) := by decide +kernel
theorem dX11_readThing_38 : decode cX11_readThing 38 = .ok (.iconst 0, 1) := by decide +kernel
theorem dX11_readThing_39 : decode cX11_readThing 39 = .ok (.iconst 4, 1) := by decide +kernel
theorem dX11_readThing_40 : decode cX11_readThing 40 = .ok (.invokevirtual 146, 3) := by decide +kernel
theorem dX11_readThing_43 : decode cX11_readThing 43 = .ok (.istore_n 3, 1) := by decide +kernel
theorem dX11_readThing_44 : decode cX11_readThing 44 = .ok (.aload_n 0, 1) := by decide +kernel
theorem dX11_readThing_45 : decode cX11_readThing 45 = .ok (.invokevirtual 163, 3) := by decide +kernel
theorem dX11_readThing_48 : decode cX11_readThing 48 = .ok (.aload_n 0, 1) := by decide +kernel
theorem dX11_readThing_49 : decode cX11_readThing 49 = .ok (.getfield 119, 3) := by decide +kernel
theorem dX11_readThing_52 : decode cX11_readThing 52 = .ok (.ifCond .ne 53, 3) := by decide +kernel
theorem dX11_readThing_55 : decode cX11_readThing 55 = .ok (.iconst 3, 1) := by decide +kernel
theorem dX11_readThing_56 : decode cX11_readThing 56 = .ok (.iconst 3, 1) := by decide +kernel
theorem dX11_readThing_57 : decode cX11_readThing 57 = .ok (.aload_n 0, 1) := by decide +kernel
theorem dX11_readThing_58 : decode cX11_readThing 58 = .ok (.getfield 22, 3) := by decide +kernel
theorem dX11_readThing_61 : decode cX11_readThing 61 = .ok (.iconst 0, 1) := by decide +kernel
theorem dX11_readThing_62 : decode cX11_readThing 62 = .ok (.iaload, 1) := by decide +kernel
theorem dX11_readThing_63 : decode cX11_readThing 63 = .ok (.imul, 1) := by decide +kernel
theorem dX11_readThing_64 : decode cX11_readThing 64 = .ok (.iadd, 1) := by decide +kernel
theorem dX11_readThing_65 : decode cX11_readThing 65 = .ok (.istore 4, 2) := by decide +kernel
theorem dX11_readThing_67 : decode cX11_readThing 67 = .ok (.aload_n 0, 1) := by decide +kernel
theorem dX11_readThing_68 : decode cX11_readThing 68 = .ok (.getfield 22, 3) := by decide +kernel
theorem dX11_readThing_71 : decode cX11_readThing 71 = .ok (.iload 4, 2) := by decide +kernel
theorem dX11_readThing_73 : decode cX11_readThing 73 = .ok (.iload_n 1, 1) := by decide +kernel
theorem dX11_readThing_74 : decode cX11_readThing 74 = .ok (.iastore, 1) := by decide +kernel
theorem dX11_readThing_75 : decode cX11_readThing 75 = .ok (.aload_n 0, 1) := by decide +kernel
theorem dX11_readThing_76 : decode cX11_readThing 76 = .ok (.getfield 22, 3) := by decide +kernel
theorem dX11_readThing_79 : decode cX11_readThing 79 = .ok (.iload 4, 2) := by decide +kernel
theorem dX11_readThing_81 : decode cX11_readThing 81 = .ok (.iconst 1, 1) := by decide +kernel
theorem dX11_readThing_82 : decode cX11_readThing 82 = .ok (.iadd, 1) := by decide +kernel
theorem dX11_readThing_83 : decode cX11_readThing 83 = .ok (.iload_n 2, 1) := by decide +kernel
theorem dX11_readThing_84 : decode cX11_readThing 84 = .ok (.iastore, 1) := by decide +kernel
theorem dX11_readThing_85 : decode cX11_readThing 85 = .ok (.aload_n 0, 1) := by decide +kernel
theorem dX11_readThing_86 : decode cX11_readThing 86 = .ok (.getfield 22, 3) := by decide +kernel
theorem dX11_readThing_89 : decode cX11_readThing 89 = .ok (.iload 4, 2) := by decide +kernel
theorem dX11_readThing_91 : decode cX11_readThing 91 = .ok (.iconst 2, 1) := by decide +kernel
theorem dX11_readThing_92 : decode cX11_readThing 92 = .ok (.iadd, 1) := by decide +kernel
theorem dX11_readThing_93 : decode cX11_readThing 93 = .ok (.iload_n 3, 1) := by decide +kernel
theorem dX11_readThing_94 : decode cX11_readThing 94 = .ok (.iastore, 1) := by decide +kernel
theorem dX11_readThing_95 : decode cX11_readThing 95 = .ok (.aload_n 0, 1) := by decide +kernel
theorem dX11_readThing_96 : decode cX11_readThing 96 = .ok (.getfield 22, 3) := by decide +kernel
theorem dX11_readThing_99 : decode cX11_readThing 99 = .ok (.iconst 0, 1) := by decide +kernel
theorem dX11_readThing_100 : decode cX11_readThing 100 = .ok (.dup2, 1) := by decide +kernel
theorem dX11_readThing_101 : decode cX11_readThing 101 = .ok (.iaload, 1) := by decide +kernel
theorem dX11_readThing_102 : decode cX11_readThing 102 = .ok (.iconst 1, 1) := by decide +kernel
theorem dX11_readThing_103 : decode cX11_readThing 103 = .ok (.iadd, 1) := by decide +kernel
theorem dX11_readThing_104 : decode cX11_readThing 104 = .ok (.iastore, 1) := by decide +kernel
theorem dX11_readThing_105 : decode cX11_readThing 105 = .ok (.return_, 1) := by decide +kernel
theorem dX11_readRule_0 : decode cX11_readRule 0 = .ok (.aload_n 0, 1) := by decide +kernel
theorem dX11_readRule_1 : decode cX11_readRule 1 = .ok (.iconst 1, 1) := by decide +kernel
theorem dX11_readRule_2 : decode cX11_readRule 2 = .ok (.invokevirtual 136, 3) := by decide +kernel
theorem dX11_readRule_5 : decode cX11_readRule 5 = .ok (.aload_n 0, 1) := by decide +kernel
theorem dX11_readRule_6 : decode cX11_readRule 6 = .ok (.invokevirtual 132, 3) := by decide +kernel
theorem dX11_readRule_9 : decode cX11_readRule 9 = .ok (.istore_n 1, 1) := by decide +kernel
theorem dX11_readRule_10 : decode cX11_readRule 10 = .ok (.aload_n 0, 1) := by decide +kernel
theorem dX11_readRule_11 : decode cX11_readRule 11 = .ok (.getfield 119, 3) := by decide +kernel
theorem dX11_readRule_14 : decode cX11_readRule 14 = .ok (.ifCond .ne 42, 3) := by decide +kernel
theorem dX11_readRule_17 : decode cX11_readRule 17 = .ok (.aload_n 0, 1) := by decide +kernel
theorem dX11_readRule_18 : decode cX11_readRule 18 = .ok (.getfield 107, 3) := by decide +kernel
theorem dX11_readRule_21 : decode cX11_readRule 21 = .ok (.iconst 3, 1) := by decide +kernel
theorem dX11_readRule_22 : decode cX11_readRule 22 = .ok (.if_icmp .ne 34, 3) := by decide +kernel
theorem dX11_readRule_25 : decode cX11_readRule 25 = .ok (.iload_n 1, 1) := by decide +kernel
theorem dX11_readRule_26 : decode cX11_readRule 26 = .ok (.i2l, 1) := by decide +kernel
theorem dX11_readRule_27 : decode cX11_readRule 27 = .ok (.lconst 0, 1) := by decide +kernel
theorem dX11_readRule_28 : decode cX11_readRule 28 = .ok (.ldc2_w 166, 3) := by decide +kernel
theorem dX11_readRule_31 : decode cX11_readRule 31 = .ok (.invokestatic 68, 3) := by decide +kernel
theorem dX11_readRule_34 : decode cX11_readRule 34 = .ok (.ifCond .eq 22, 3) := by decide +kernel
theorem dX11_readRule_37 : decode cX11_readRule 37 = .ok (.aload_n 0, 1) := by decide +kernel
theorem dX11_readRule_38 : decode cX11_readRule 38 = .ok (.getfield 22, 3) := by decide +kernel
theorem dX11_readRule_41 : decode cX11_readRule 41 = .ok (.bipush 39, 2) := by decide +kernel
theorem dX11_readRule_43 : decode cX11_readRule 43 = .ok (.iconst 2, 1) := by decide +kernel
theorem dX11_readRule_44 : decode cX11_readRule 44 = .ok (.iload_n 1, 1) := by decide +kernel
theorem dX11_readRule_45 : decode cX11_readRule 45 = .ok (.imul, 1) := by decide +kernel
theorem dX11_readRule_46 : decode cX11_readRule 46 = .ok (.iadd, 1) := by decide +kernel
theorem dX11_readRule_47 : decode cX11_readRule 47 = .ok (.iaload, 1) := by decide +kernel
theorem dX11_readRule_48 : decode cX11_readRule 48 = .ok (.ifCond .lt 8, 3) := by decide +kernel
theorem dX11_readRule_51 : decode cX11_readRule 51 = .ok (.aload_n 0, 1) := by decide +kernel
theorem dX11_readRule_52 : decode cX11_readRule 52 = .ok (.iconst 2, 1) := by decide +kernel
theorem dX11_readRule_53 : decode cX11_readRule 53 = .ok (.invokevirtual 128, 3) := by decide +kernel
theorem dX11_readRule_56 : decode cX11_readRule 56 = .ok (.aload_n 0, 1) := by decide +kernel
theorem dX11_readRule_57 : decode cX11_readRule 57 = .ok (.iconst 0, 1) := by decide +kernel
theorem dX11_readRule_58 : decode cX11_readRule 58 = .ok (.iconst 4, 1) := by decide +kernel
theorem dX11_readRule_59 : decode cX11_readRule 59 = .ok (.invokevirtual 146, 3) := by decide +kernel
theorem dX11_readRule_62 : decode cX11_readRule 62 = .ok (.istore_n 1, 1) := by decide +kernel
theorem dX11_readRule_63 : decode cX11_readRule 63 = .ok (.aload_n 0, 1) := by decide +kernel
theorem dX11_readRule_64 : decode cX11_readRule 64 = .ok (.iconst 0, 1) := by decide +kernel
theorem dX11_readRule_65 : decode cX11_readRule 65 = .ok (.bipush 9, 2) := by decide +kernel
theorem dX11_readRule_67 : decode cX11_readRule 67 = .ok (.invokevirtual 146, 3) := by decide +kernel
theorem dX11_readRule_70 : decode cX11_readRule 70 = .ok (.istore_n 2, 1) := by decide +kernel
theorem dX11_readRule_71 : decode cX11_readRule 71 = .ok (.aload_n 0, 1) := by decide +kernel
theorem dX11_readRule_72 : decode cX11_readRule 72 = .ok (.iload_n 2, 1) := by decide +kernel
theorem dX11_readRule_73 : decode cX11_readRule 73 = .ok (.bipush 9, 2) := by decide +kernel
theorem dX11_readRule_75 : decode cX11_readRule 75 = .ok (.invokevirtual 146, 3) := by decide +kernel
theorem dX11_readRule_78 : decode cX11_readRule 78 = .ok (.istore_n 3, 1) := by decide +kernel
theorem dX11_readRule_79 : decode cX11_readRule 79 = .ok (.aload_n 0, 1) := by decide +kernel
theorem dX11_readRule_80 : decode cX11_readRule 80 = .ok (.invokevirtual 163, 3) := by decide +kernel
theorem dX11_readRule_83 : decode cX11_readRule 83 = .ok (.aload_n 0, 1) := by decide +kernel
theorem dX11_readRule_84 : decode cX11_readRule 84 = .ok (.getfield 119, 3) := by decide +kernel
theorem dX11_readRule_87 : decode cX11_readRule 87 = .ok (.ifCond .ne 39, 3) := by decide +kernel
theorem dX11_readRule_90 : decode cX11_readRule 90 = .ok (.aload_n 0, 1) := by decide +kernel
theorem dX11_readRule_91 : decode cX11_readRule 91 = .ok (.getfield 22, 3) := by decide +kernel
theorem dX11_readRule_94 : decode cX11_readRule 94 = .ok (.bipush 39, 2) := by decide +kernel
theorem dX11_readRule_96 : decode cX11_readRule 96 = .ok (.iconst 2, 1) := by decide +kernel
theorem dX11_readRule_97 : decode cX11_readRule 97 = .ok (.iload_n 1, 1) := by decide +kernel
theorem dX11_readRule_98 : decode cX11_readRule 98 = .ok (.imul, 1) := by decide +kernel
theorem dX11_readRule_99 : decode cX11_readRule 99 = .ok (.iadd, 1) := by decide +kernel
theorem dX11_readRule_100 : decode cX11_readRule 100 = .ok (.iload_n 2, 1) := by decide +kernel
theorem dX11_readRule_101 : decode cX11_readRule 101 = .ok (.iastore, 1) := by decide +kernel
theorem dX11_readRule_102 : decode cX11_readRule 102 = .ok (.aload_n 0, 1) := by decide +kernel
theorem dX11_readRule_103 : decode cX11_readRule 103 = .ok (.getfield 22, 3) := by decide +kernel
theorem dX11_readRule_106 : decode cX11_readRule 106 = .ok (.bipush 39, 2) := by decide +kernel
theorem dX11_readRule_108 : decode cX11_readRule 108 = .ok (.iconst 2, 1) := by decide +kernel
theorem dX11_readRule_109 : decode cX11_readRule 109 = .ok (.iload_n 1, 1) := by decide +kernel
theorem dX11_readRule_110 : decode cX11_readRule 110 = .ok (.imul, 1) := by decide +kernel
theorem dX11_readRule_111 : decode cX11_readRule 111 = .ok (.iadd, 1) := by decide +kernel
theorem dX11_readRule_112 : decode cX11_readRule 112 = .ok (.iconst 1, 1) := by decide +kernel
theorem dX11_readRule_113 : decode cX11_readRule 113 = .ok (.iadd, 1) := by decide +kernel
theorem dX11_readRule_114 : decode cX11_readRule 114 = .ok (.iload_n 3, 1) := by decide +kernel
theorem dX11_readRule_115 : decode cX11_readRule 115 = .ok (.iastore, 1) := by decide +kernel
theorem dX11_readRule_116 : decode cX11_readRule 116 = .ok (.aload_n 0, 1) := by decide +kernel
theorem dX11_readRule_117 : decode cX11_readRule 117 = .ok (.getfield 22, 3) := by decide +kernel
theorem dX11_readRule_120 : decode cX11_readRule 120 = .ok (.iconst 1, 1) := by decide +kernel
theorem dX11_readRule_121 : decode cX11_readRule 121 = .ok (.dup2, 1) := by decide +kernel
theorem dX11_readRule_122 : decode cX11_readRule 122 = .ok (.iaload, 1) := by decide +kernel
theorem dX11_readRule_123 : decode cX11_readRule 123 = .ok (.iconst 1, 1) := by decide +kernel
theorem dX11_readRule_124 : decode cX11_readRule 124 = .ok (.iadd, 1) := by decide +kernel
theorem dX11_readRule_125 : decode cX11_readRule 125 = .ok (.iastore, 1) := by decide +kernel
theorem dX11_readRule_126 : decode cX11_readRule 126 = .ok (.return_, 1) := by decide +kernel
theorem dX11_readPair_0 : decode cX11_readPair 0 = .ok (.aload_n 0, 1) := by decide +kernel
theorem dX11_readPair_1 : decode cX11_readPair 1 = .ok (.iconst 2, 1) := by decide +kernel
theorem dX11_readPair_2 : decode cX11_readPair 2 = .ok (.bipush 8, 2) := by decide +kernel
theorem dX11_readPair_4 : decode cX11_readPair 4 = .ok (.invokevirtual 150, 3) := by decide +kernel
theorem dX11_readPair_7 : decode cX11_readPair 7 = .ok (.aload_n 0, 1) := by decide +kernel
theorem dX11_readPair_8 : decode cX11_readPair 8 = .ok (.iconst 0, 1) := by decide +kernel
theorem dX11_readPair_9 : decode cX11_readPair 9 = .ok (.aload_n 0, 1) := by decide +kernel
theorem dX11_readPair_10 : decode cX11_readPair 10 = .ok (.getfield 22, 3) := by decide +kernel
theorem dX11_readPair_13 : decode cX11_readPair 13 = .ok (.iconst 0, 1) := by decide +kernel
theorem dX11_readPair_14 : decode cX11_readPair 14 = .ok (.iaload, 1) := by decide +kernel
theorem dX11_readPair_15 : decode cX11_readPair 15 = .ok (.iconst 1, 1) := by decide +kernel
theorem dX11_readPair_16 : decode cX11_readPair 16 = .ok (.isub, 1) := by decide +kernel
theorem dX11_readPair_17 : decode cX11_readPair 17 = .ok (.invokevirtual 146, 3) := by decide +kernel
theorem dX11_readPair_20 : decode cX11_readPair 20 = .ok (.istore_n 1, 1) := by decide +kernel
theorem dX11_readPair_21 : decode cX11_readPair 21 = .ok (.aload_n 0, 1) := by decide +kernel
theorem dX11_readPair_22 : decode cX11_readPair 22 = .ok (.getfield 119, 3) := by decide +kernel
theorem dX11_readPair_25 : decode cX11_readPair 25 = .ok (.ifCond .ne 24, 3) := by decide +kernel
theorem dX11_readPair_28 : decode cX11_readPair 28 = .ok (.aload_n 0, 1) := by decide +kernel
theorem dX11_readPair_29 : decode cX11_readPair 29 = .ok (.getfield 107, 3) := by decide +kernel
theorem dX11_readPair_32 : decode cX11_readPair 32 = .ok (.iconst 3, 1) := by decide +kernel
theorem dX11_readPair_33 : decode cX11_readPair 33 = .ok (.if_icmp .ne 16, 3) := by decide +kernel
theorem dX11_readPair_36 : decode cX11_readPair 36 = .ok (.aload_n 0, 1) := by decide +kernel
theorem dX11_readPair_37 : decode cX11_readPair 37 = .ok (.invokevirtual 132, 3) := by decide +kernel
theorem dX11_readPair_40 : decode cX11_readPair 40 = .ok (.iload_n 1, 1) := by decide +kernel
theorem dX11_readPair_41 : decode cX11_readPair 41 = .ok (.if_icmp .ne 8, 3) := by decide +kernel
theorem dX11_readPair_44 : decode cX11_readPair 44 = .ok (.aload_n 0, 1) := by decide +kernel
theorem dX11_readPair_45 : decode cX11_readPair 45 = .ok (.iconst 2, 1) := by decide +kernel
theorem dX11_readPair_46 : decode cX11_readPair 46 = .ok (.invokevirtual 128, 3) := by decide +kernel
theorem dX11_readPair_49 : decode cX11_readPair 49 = .ok (.aload_n 0, 1) := by decide +kernel
theorem dX11_readPair_50 : decode cX11_readPair 50 = .ok (.iconst 0, 1) := by decide +kernel
theorem dX11_readPair_51 : decode cX11_readPair 51 = .ok (.aload_n 0, 1) := by decide +kernel
theorem dX11_readPair_52 : decode cX11_readPair 52 = .ok (.getfield 22, 3) := by decide +kernel
theorem dX11_readPair_55 : decode cX11_readPair 55 = .ok (.iconst 0, 1) := by decide +kernel
theorem dX11_readPair_56 : decode cX11_readPair 56 = .ok (.iaload, 1) := by decide +kernel
theorem dX11_readPair_57 : decode cX11_readPair 57 = .ok (.iconst 1, 1) := by decide +kernel
theorem dX11_readPair_58 : decode cX11_readPair 58 = .ok (.isub, 1) := by decide +kernel
theorem dX11_readPair_59 : decode cX11_readPair 59 = .ok (.invokevirtual 146, 3) := by decide +kernel
theorem dX11_readPair_62 : decode cX11_readPair 62 = .ok (.istore_n 2, 1) := by decide +kernel
theorem dX11_readPair_63 : decode cX11_readPair 63 = .ok (.aload_n 0, 1) := by decide +kernel
theorem dX11_readPair_64 : decode cX11_readPair 64 = .ok (.invokevirtual 163, 3) := by decide +kernel
theorem dX11_readPair_67 : decode cX11_readPair 67 = .ok (.aload_n 0, 1) := by decide +kernel
theorem dX11_readPair_68 : decode cX11_readPair 68 = .ok (.getfield 119, 3) := by decide +kernel
theorem dX11_readPair_71 : decode cX11_readPair 71 = .ok (.ifCond .ne 49, 3) := by decide +kernel
theorem dX11_readPair_74 : decode cX11_readPair 74 = .ok (.aload_n 0, 1) := by decide +kernel
theorem dX11_readPair_75 : decode cX11_readPair 75 = .ok (.getfield 22, 3) := by decide +kernel
theorem dX11_readPair_78 : decode cX11_readPair 78 = .ok (.bipush 49, 2) := by decide +kernel
theorem dX11_readPair_80 : decode cX11_readPair 80 = .ok (.iconst 2, 1) := by decide +kernel
theorem dX11_readPair_81 : decode cX11_readPair 81 = .ok (.aload_n 0, 1) := by decide +kernel
theorem dX11_readPair_82 : decode cX11_readPair 82 = .ok (.getfield 22, 3) := by decide +kernel
theorem dX11_readPair_85 : decode cX11_readPair 85 = .ok (.iconst 2, 1) := by decide +kernel
theorem dX11_readPair_86 : decode cX11_readPair 86 = .ok (.iaload, 1) := by decide +kernel
theorem dX11_readPair_87 : decode cX11_readPair 87 = .ok (.imul, 1) := by decide +kernel
theorem dX11_readPair_88 : decode cX11_readPair 88 = .ok (.iadd, 1) := by decide +kernel
theorem dX11_readPair_89 : decode cX11_readPair 89 = .ok (.iload_n 1, 1) := by decide +kernel
theorem dX11_readPair_90 : decode cX11_readPair 90 = .ok (.iastore, 1) := by decide +kernel
theorem dX11_readPair_91 : decode cX11_readPair 91 = .ok (.aload_n 0, 1) := by decide +kernel
theorem dX11_readPair_92 : decode cX11_readPair 92 = .ok (.getfield 22, 3) := by decide +kernel
theorem dX11_readPair_95 : decode cX11_readPair 95 = .ok (.bipush 49, 2) := by decide +kernel
theorem dX11_readPair_97 : decode cX11_readPair 97 = .ok (.iconst 2, 1) := by decide +kernel
theorem dX11_readPair_98 : decode cX11_readPair 98 = .ok (.aload_n 0, 1) := by decide +kernel
theorem dX11_readPair_99 : decode cX11_readPair 99 = .ok (.getfield 22, 3) := by decide +kernel
theorem dX11_readPair_102 : decode cX11_readPair 102 = .ok (.iconst 2, 1) := by decide +kernel
theorem dX11_readPair_103 : decode cX11_readPair 103 = .ok (.iaload, 1) := by decide +kernel
theorem dX11_readPair_104 : decode cX11_readPair 104 = .ok (.imul, 1) := by decide +kernel
theorem dX11_readPair_105 : decode cX11_readPair 105 = .ok (.iadd, 1) := by decide +kernel
theorem dX11_readPair_106 : decode cX11_readPair 106 = .ok (.iconst 1, 1) := by decide +kernel
theorem dX11_readPair_107 : decode cX11_readPair 107 = .ok (.iadd, 1) := by decide +kernel
theorem dX11_readPair_108 : decode cX11_readPair 108 = .ok (.iload_n 2, 1) := by decide +kernel
theorem dX11_readPair_109 : decode cX11_readPair 109 = .ok (.iastore, 1) := by decide +kernel
theorem dX11_readPair_110 : decode cX11_readPair 110 = .ok (.aload_n 0, 1) := by decide +kernel
theorem dX11_readPair_111 : decode cX11_readPair 111 = .ok (.getfield 22, 3) := by decide +kernel
theorem dX11_readPair_114 : decode cX11_readPair 114 = .ok (.iconst 2, 1) := by decide +kernel
theorem dX11_readPair_115 : decode cX11_readPair 115 = .ok (.dup2, 1) := by decide +kernel
theorem dX11_readPair_116 : decode cX11_readPair 116 = .ok (.iaload, 1) := by decide +kernel
theorem dX11_readPair_117 : decode cX11_readPair 117 = .ok (.iconst 1, 1) := by decide +kernel
theorem dX11_readPair_118 : decode cX11_readPair 118 = .ok (.iadd, 1) := by decide +kernel
theorem dX11_readPair_119 : decode cX11_readPair 119 = .ok (.iastore, 1) := by decide +kernel
theorem dX11_readPair_120 : decode cX11_readPair 120 = .ok (.return_, 1) := by decide +kernel
theorem dX11_tongue_0 : decode cX11_tongue 0 = .ok (.aload_n 0, 1) := by decide +kernel
theorem dX11_tongue_1 : decode cX11_tongue 1 = .ok (.iconst 0, 1) := by decide +kernel
theorem dX11_tongue_2 : decode cX11_tongue 2 = .ok (.putfield 57, 3) := by decide +kernel
theorem dX11_tongue_5 : decode cX11_tongue 5 = .ok (.aload_n 0, 1) := by decide +kernel
theorem dX11_tongue_6 : decode cX11_tongue 6 = .ok (.invokevirtual 168, 3) := by decide +kernel
theorem dX11_tongue_9 : decode cX11_tongue 9 = .ok (.iconst 0, 1) := by decide +kernel
theorem dX11_tongue_10 : decode cX11_tongue 10 = .ok (.istore_n 1, 1) := by decide +kernel
theorem dX11_tongue_11 : decode cX11_tongue 11 = .ok (.iload_n 1, 1) := by decide +kernel
theorem dX11_tongue_12 : decode cX11_tongue 12 = .ok (.bipush 65, 2) := by decide +kernel
theorem dX11_tongue_14 : decode cX11_tongue 14 = .ok (.if_icmp .ge 32, 3) := by decide +kernel
theorem dX11_tongue_17 : decode cX11_tongue 17 = .ok (.aload_n 0, 1) := by decide +kernel
theorem dX11_tongue_18 : decode cX11_tongue 18 = .ok (.getfield 22, 3) := by decide +kernel
theorem dX11_tongue_21 : decode cX11_tongue 21 = .ok (.iload_n 1, 1) := by decide +kernel
theorem dX11_tongue_22 : decode cX11_tongue 22 = .ok (.iload_n 1, 1) := by decide +kernel
theorem dX11_tongue_23 : decode cX11_tongue 23 = .ok (.bipush 39, 2) := by decide +kernel
theorem dX11_tongue_25 : decode cX11_tongue 25 = .ok (.if_icmp .lt 13, 3) := by decide +kernel
theorem dX11_tongue_28 : decode cX11_tongue 28 = .ok (.iload_n 1, 1) := by decide +kernel
theorem dX11_tongue_29 : decode cX11_tongue 29 = .ok (.bipush 49, 2) := by decide +kernel
theorem dX11_tongue_31 : decode cX11_tongue 31 = .ok (.if_icmp .ge 7, 3) := by decide +kernel
theorem dX11_tongue_34 : decode cX11_tongue 34 = .ok (.iconst (-1), 1) := by decide +kernel
theorem dX11_tongue_35 : decode cX11_tongue 35 = .ok (.goto 4, 3) := by decide +kernel
theorem dX11_tongue_38 : decode cX11_tongue 38 = .ok (.iconst 0, 1) := by decide +kernel
theorem dX11_tongue_39 : decode cX11_tongue 39 = .ok (.iastore, 1) := by decide +kernel
theorem dX11_tongue_40 : decode cX11_tongue 40 = .ok (.iinc 1 1, 3) := by decide +kernel
theorem dX11_tongue_43 : decode cX11_tongue 43 = .ok (.goto (-32), 3) := by decide +kernel
theorem dX11_tongue_46 : decode cX11_tongue 46 = .ok (.aload_n 0, 1) := by decide +kernel
theorem dX11_tongue_47 : decode cX11_tongue 47 = .ok (.invokevirtual 157, 3) := by decide +kernel
theorem dX11_tongue_50 : decode cX11_tongue 50 = .ok (.ldc2_w 171, 3) := by decide +kernel
theorem dX11_tongue_53 : decode cX11_tongue 53 = .ok (.lcmp, 1) := by decide +kernel
theorem dX11_tongue_54 : decode cX11_tongue 54 = .ok (.ifCond .eq 8, 3) := by decide +kernel
theorem dX11_tongue_57 : decode cX11_tongue 57 = .ok (.aload_n 0, 1) := by decide +kernel
theorem dX11_tongue_58 : decode cX11_tongue 58 = .ok (.iconst 1, 1) := by decide +kernel
theorem dX11_tongue_59 : decode cX11_tongue 59 = .ok (.invokevirtual 128, 3) := by decide +kernel
theorem dX11_tongue_62 : decode cX11_tongue 62 = .ok (.aload_n 0, 1) := by decide +kernel
theorem dX11_tongue_63 : decode cX11_tongue 63 = .ok (.invokevirtual 157, 3) := by decide +kernel
theorem dX11_tongue_66 : decode cX11_tongue 66 = .ok (.ldc2_w 171, 3) := by decide +kernel
theorem dX11_tongue_69 : decode cX11_tongue 69 = .ok (.lcmp, 1) := by decide +kernel
theorem dX11_tongue_70 : decode cX11_tongue 70 = .ok (.ifCond .ne 10, 3) := by decide +kernel
theorem dX11_tongue_73 : decode cX11_tongue 73 = .ok (.aload_n 0, 1) := by decide +kernel
theorem dX11_tongue_74 : decode cX11_tongue 74 = .ok (.invokevirtual 173, 3) := by decide +kernel
theorem dX11_tongue_77 : decode cX11_tongue 77 = .ok (.goto (-15), 3) := by decide +kernel
theorem dX11_tongue_80 : decode cX11_tongue 80 = .ok (.aload_n 0, 1) := by decide +kernel
theorem dX11_tongue_81 : decode cX11_tongue 81 = .ok (.invokevirtual 157, 3) := by decide +kernel
theorem dX11_tongue_84 : decode cX11_tongue 84 = .ok (.ldc2_w 176, 3) := by decide +kernel
theorem dX11_tongue_87 : decode cX11_tongue 87 = .ok (.lcmp, 1) := by decide +kernel
theorem dX11_tongue_88 : decode cX11_tongue 88 = .ok (.ifCond .ne 10, 3) := by decide +kernel
theorem dX11_tongue_91 : decode cX11_tongue 91 = .ok (.aload_n 0, 1) := by decide +kernel
theorem dX11_tongue_92 : decode cX11_tongue 92 = .ok (.invokevirtual 178, 3) := by decide +kernel
theorem dX11_tongue_95 : decode cX11_tongue 95 = .ok (.goto (-15), 3) := by decide +kernel
theorem dX11_tongue_98 : decode cX11_tongue 98 = .ok (.aload_n 0, 1) := by decide +kernel
theorem dX11_tongue_99 : decode cX11_tongue 99 = .ok (.invokevirtual 157, 3) := by decide +kernel
theorem dX11_tongue_102 : decode cX11_tongue 102 = .ok (.ldc2_w 181, 3) := by decide +kernel
theorem dX11_tongue_105 : decode cX11_tongue 105 = .ok (.lcmp, 1) := by decide +kernel
theorem dX11_tongue_106 : decode cX11_tongue 106 = .ok (.ifCond .ne 10, 3) := by decide +kernel
theorem dX11_tongue_109 : decode cX11_tongue 109 = .ok (.aload_n 0, 1) := by decide +kernel
theorem dX11_tongue_110 : decode cX11_tongue 110 = .ok (.invokevirtual 183, 3) := by decide +kernel
theorem dX11_tongue_113 : decode cX11_tongue 113 = .ok (.goto (-15), 3) := by decide +kernel
theorem dX11_tongue_116 : decode cX11_tongue 116 = .ok (.aload_n 0, 1) := by decide +kernel
theorem dX11_tongue_117 : decode cX11_tongue 117 = .ok (.getfield 119, 3) := by decide +kernel
theorem dX11_tongue_120 : decode cX11_tongue 120 = .ok (.ifCond .ne 16, 3) := by decide +kernel
theorem dX11_tongue_123 : decode cX11_tongue 123 = .ok (.aload_n 0, 1) := by decide +kernel
theorem dX11_tongue_124 : decode cX11_tongue 124 = .ok (.getfield 107, 3) := by decide +kernel
theorem dX11_tongue_127 : decode cX11_tongue 127 = .ok (.iconst 1, 1) := by decide +kernel
theorem dX11_tongue_128 : decode cX11_tongue 128 = .ok (.if_icmp .eq 8, 3) := by decide +kernel
theorem dX11_tongue_131 : decode cX11_tongue 131 = .ok (.aload_n 0, 1) := by decide +kernel
theorem dX11_tongue_132 : decode cX11_tongue 132 = .ok (.iconst 1, 1) := by decide +kernel
theorem dX11_tongue_133 : decode cX11_tongue 133 = .ok (.invokevirtual 128, 3) := by decide +kernel
theorem dX11_tongue_136 : decode cX11_tongue 136 = .ok (.aload_n 0, 1) := by decide +kernel
theorem dX11_tongue_137 : decode cX11_tongue 137 = .ok (.getfield 119, 3) := by decide +kernel
theorem dX11_tongue_140 : decode cX11_tongue 140 = .ok (.ifCond .le 21, 3) := by decide +kernel
theorem dX11_tongue_143 : decode cX11_tongue 143 = .ok (.aload_n 0, 1) := by decide +kernel
theorem dX11_tongue_144 : decode cX11_tongue 144 = .ok (.aload_n 0, 1) := by decide +kernel
theorem dX11_tongue_145 : decode cX11_tongue 145 = .ok (.getfield 119, 3) := by decide +kernel
theorem dX11_tongue_148 : decode cX11_tongue 148 = .ok (.putfield 186, 3) := by decide +kernel
theorem dX11_tongue_151 : decode cX11_tongue 151 = .ok (.ldc2_w 189, 3) := by decide +kernel
theorem dX11_tongue_154 : decode cX11_tongue 154 = .ok (.aload_n 0, 1) := by decide +kernel
theorem dX11_tongue_155 : decode cX11_tongue 155 = .ok (.getfield 125, 3) := by decide +kernel
theorem dX11_tongue_158 : decode cX11_tongue 158 = .ok (.i2l, 1) := by decide +kernel
theorem dX11_tongue_159 : decode cX11_tongue 159 = .ok (.lsub, 1) := by decide +kernel
theorem dX11_tongue_160 : decode cX11_tongue 160 = .ok (.lreturn, 1) := by decide +kernel
theorem dX11_tongue_161 : decode cX11_tongue 161 = .ok (.aload_n 0, 1) := by decide +kernel
theorem dX11_tongue_162 : decode cX11_tongue 162 = .ok (.iconst 1, 1) := by decide +kernel
theorem dX11_tongue_163 : decode cX11_tongue 163 = .ok (.putfield 191, 3) := by decide +kernel
theorem dX11_tongue_166 : decode cX11_tongue 166 = .ok (.iconst 0, 1) := by decide +kernel
theorem dX11_tongue_167 : decode cX11_tongue 167 = .ok (.istore_n 1, 1) := by decide +kernel
theorem dX11_tongue_168 : decode cX11_tongue 168 = .ok (.iload_n 1, 1) := by decide +kernel
theorem dX11_tongue_169 : decode cX11_tongue 169 = .ok (.bipush 65, 2) := by decide +kernel
theorem dX11_tongue_171 : decode cX11_tongue 171 = .ok (.if_icmp .ge 21, 3) := by decide +kernel
theorem dX11_tongue_174 : decode cX11_tongue 174 = .ok (.aload_n 0, 1) := by decide +kernel
theorem dX11_tongue_175 : decode cX11_tongue 175 = .ok (.getfield 19, 3) := by decide +kernel
theorem dX11_tongue_178 : decode cX11_tongue 178 = .ok (.iload_n 1, 1) := by decide +kernel
theorem dX11_tongue_179 : decode cX11_tongue 179 = .ok (.aload_n 0, 1) := by decide +kernel
theorem dX11_tongue_180 : decode cX11_tongue 180 = .ok (.getfield 22, 3) := by decide +kernel
theorem dX11_tongue_183 : decode cX11_tongue 183 = .ok (.iload_n 1, 1) := by decide +kernel
theorem dX11_tongue_184 : decode cX11_tongue 184 = .ok (.iaload, 1) := by decide +kernel
theorem dX11_tongue_185 : decode cX11_tongue 185 = .ok (.iastore, 1) := by decide +kernel
theorem dX11_tongue_186 : decode cX11_tongue 186 = .ok (.iinc 1 1, 3) := by decide +kernel
theorem dX11_tongue_189 : decode cX11_tongue 189 = .ok (.goto (-21), 3) := by decide +kernel
theorem dX11_tongue_192 : decode cX11_tongue 192 = .ok (.iconst 0, 1) := by decide +kernel
theorem dX11_tongue_193 : decode cX11_tongue 193 = .ok (.istore_n 1, 1) := by decide +kernel
theorem dX11_tongue_194 : decode cX11_tongue 194 = .ok (.iload_n 1, 1) := by decide +kernel
theorem dX11_tongue_195 : decode cX11_tongue 195 = .ok (.bipush 8, 2) := by decide +kernel
theorem dX11_tongue_197 : decode cX11_tongue 197 = .ok (.if_icmp .ge 16, 3) := by decide +kernel
theorem dX11_tongue_200 : decode cX11_tongue 200 = .ok (.aload_n 0, 1) := by decide +kernel
theorem dX11_tongue_201 : decode cX11_tongue 201 = .ok (.getfield 25, 3) := by decide +kernel
theorem dX11_tongue_204 : decode cX11_tongue 204 = .ok (.iload_n 1, 1) := by decide +kernel
theorem dX11_tongue_205 : decode cX11_tongue 205 = .ok (.lconst 0, 1) := by decide +kernel
theorem dX11_tongue_206 : decode cX11_tongue 206 = .ok (.lastore, 1) := by decide +kernel
theorem dX11_tongue_207 : decode cX11_tongue 207 = .ok (.iinc 1 1, 3) := by decide +kernel
theorem dX11_tongue_210 : decode cX11_tongue 210 = .ok (.goto (-16), 3) := by decide +kernel
theorem dX11_tongue_213 : decode cX11_tongue 213 = .ok (.aload_n 0, 1) := by decide +kernel
theorem dX11_tongue_214 : decode cX11_tongue 214 = .ok (.getfield 19, 3) := by decide +kernel
theorem dX11_tongue_217 : decode cX11_tongue 217 = .ok (.iconst 0, 1) := by decide +kernel
theorem dX11_tongue_218 : decode cX11_tongue 218 = .ok (.iaload, 1) := by decide +kernel
theorem dX11_tongue_219 : decode cX11_tongue 219 = .ok (.i2l, 1) := by decide +kernel
theorem dX11_tongue_220 : decode cX11_tongue 220 = .ok (.lreturn, 1) := by decide +kernel
theorem dX11_fault_0 : decode cX11_fault 0 = .ok (.aload_n 0, 1) := by decide +kernel
theorem dX11_fault_1 : decode cX11_fault 1 = .ok (.iconst 0, 1) := by decide +kernel
theorem dX11_fault_2 : decode cX11_fault 2 = .ok (.putfield 57, 3) := by decide +kernel
theorem dX11_fault_5 : decode cX11_fault 5 = .ok (.aload_n 0, 1) := by decide +kernel
theorem dX11_fault_6 : decode cX11_fault 6 = .ok (.getfield 186, 3) := by decide +kernel
theorem dX11_fault_9 : decode cX11_fault 9 = .ok (.ireturn, 1) := by decide +kernel
theorem dX11_isSlot_0 : decode cX11_isSlot 0 = .ok (.iload_n 0, 1) := by decide +kernel
theorem dX11_isSlot_1 : decode cX11_isSlot 1 = .ok (.i2l, 1) := by decide +kernel
theorem dX11_isSlot_2 : decode cX11_isSlot 2 = .ok (.lconst 0, 1) := by decide +kernel
theorem dX11_isSlot_3 : decode cX11_isSlot 3 = .ok (.ldc2_w 66, 3) := by decide +kernel
theorem dX11_isSlot_6 : decode cX11_isSlot 6 = .ok (.invokestatic 68, 3) := by decide +kernel
theorem dX11_isSlot_9 : decode cX11_isSlot 9 = .ok (.ireturn, 1) := by decide +kernel
theorem dX11_isSaying_0 : decode cX11_isSaying 0 = .ok (.lload_n 0, 1) := by decide +kernel
theorem dX11_isSaying_1 : decode cX11_isSaying 1 = .ok (.lconst 1, 1) := by decide +kernel
theorem dX11_isSaying_2 : decode cX11_isSaying 2 = .ok (.ldc2_w 195, 3) := by decide +kernel
theorem dX11_isSaying_5 : decode cX11_isSaying 5 = .ok (.invokestatic 68, 3) := by decide +kernel
theorem dX11_isSaying_8 : decode cX11_isSaying 8 = .ok (.ireturn, 1) := by decide +kernel
theorem dX11_put_0 : decode cX11_put 0 = .ok (.aload_n 0, 1) := by decide +kernel
theorem dX11_put_1 : decode cX11_put 1 = .ok (.iconst 0, 1) := by decide +kernel
theorem dX11_put_2 : decode cX11_put 2 = .ok (.putfield 57, 3) := by decide +kernel
theorem dX11_put_5 : decode cX11_put 5 = .ok (.iload_n 1, 1) := by decide +kernel
theorem dX11_put_6 : decode cX11_put 6 = .ok (.invokestatic 197, 3) := by decide +kernel
theorem dX11_put_9 : decode cX11_put 9 = .ok (.ifCond .eq 10, 3) := by decide +kernel
theorem dX11_put_12 : decode cX11_put 12 = .ok (.lload_n 2, 1) := by decide +kernel
theorem dX11_put_13 : decode cX11_put 13 = .ok (.invokestatic 200, 3) := by decide +kernel
theorem dX11_put_16 : decode cX11_put 16 = .ok (.ifCond .ne 7, 3) := by decide +kernel
theorem dX11_put_19 : decode cX11_put 19 = .ok (.ldc2_w 78, 3) := by decide +kernel
theorem dX11_put_22 : decode cX11_put 22 = .ok (.lreturn, 1) := by decide +kernel
theorem dX11_put_23 : decode cX11_put 23 = .ok (.aload_n 0, 1) := by decide +kernel
theorem dX11_put_24 : decode cX11_put 24 = .ok (.getfield 25, 3) := by decide +kernel
theorem dX11_put_27 : decode cX11_put 27 = .ok (.iload_n 1, 1) := by decide +kernel
theorem dX11_put_28 : decode cX11_put 28 = .ok (.lload_n 2, 1) := by decide +kernel
theorem dX11_put_29 : decode cX11_put 29 = .ok (.lastore, 1) := by decide +kernel
theorem dX11_put_30 : decode cX11_put 30 = .ok (.lconst 1, 1) := by decide +kernel
theorem dX11_put_31 : decode cX11_put 31 = .ok (.lreturn, 1) := by decide +kernel
theorem dX11_times_0 : decode cX11_times 0 = .ok (.lload_n 0, 1) := by decide +kernel
theorem dX11_times_1 : decode cX11_times 1 = .ok (.lconst 0, 1) := by decide +kernel
theorem dX11_times_2 : decode cX11_times 2 = .ok (.lcmp, 1) := by decide +kernel
theorem dX11_times_3 : decode cX11_times 3 = .ok (.ifCond .eq 19, 3) := by decide +kernel
theorem dX11_times_6 : decode cX11_times 6 = .ok (.lload_n 2, 1) := by decide +kernel
theorem dX11_times_7 : decode cX11_times 7 = .ok (.lconst 0, 1) := by decide +kernel
theorem dX11_times_8 : decode cX11_times 8 = .ok (.lcmp, 1) := by decide +kernel
theorem dX11_times_9 : decode cX11_times 9 = .ok (.ifCond .eq 13, 3) := by decide +kernel
theorem dX11_times_12 : decode cX11_times 12 = .ok (.lload_n 0, 1) := by decide +kernel
theorem dX11_times_13 : decode cX11_times 13 = .ok (.ldc2_w 195, 3) := by decide +kernel
theorem dX11_times_16 : decode cX11_times 16 = .ok (.lload_n 2, 1) := by decide +kernel
theorem dX11_times_17 : decode cX11_times 17 = .ok (.ldiv, 1) := by decide +kernel
theorem dX11_times_18 : decode cX11_times 18 = .ok (.lcmp, 1) := by decide +kernel
theorem dX11_times_19 : decode cX11_times 19 = .ok (.ifCond .le 7, 3) := by decide +kernel
theorem dX11_times_22 : decode cX11_times 22 = .ok (.lconst 0, 1) := by decide +kernel
theorem dX11_times_23 : decode cX11_times 23 = .ok (.goto 6, 3) := by decide +kernel
theorem dX11_times_26 : decode cX11_times 26 = .ok (.lload_n 0, 1) := by decide +kernel
theorem dX11_times_27 : decode cX11_times 27 = .ok (.lload_n 2, 1) := by decide +kernel
theorem dX11_times_28 : decode cX11_times 28 = .ok (.lmul, 1) := by decide +kernel
theorem dX11_times_29 : decode cX11_times 29 = .ok (.lreturn, 1) := by decide +kernel
theorem dX11_lack_0 : decode cX11_lack 0 = .ok (.aload_n 0, 1) := by decide +kernel
theorem dX11_lack_1 : decode cX11_lack 1 = .ok (.getfield 9, 3) := by decide +kernel
theorem dX11_lack_4 : decode cX11_lack 4 = .ok (.iload_n 1, 1) := by decide +kernel
theorem dX11_lack_5 : decode cX11_lack 5 = .ok (.iaload, 1) := by decide +kernel
theorem dX11_lack_6 : decode cX11_lack 6 = .ok (.ifCond .ge 7, 3) := by decide +kernel
theorem dX11_lack_9 : decode cX11_lack 9 = .ok (.iconst 1, 1) := by decide +kernel
theorem dX11_lack_10 : decode cX11_lack 10 = .ok (.goto 28, 3) := by decide +kernel
theorem dX11_lack_13 : decode cX11_lack 13 = .ok (.iload_n 2, 1) := by decide +kernel
theorem dX11_lack_14 : decode cX11_lack 14 = .ok (.ifCond .lt 19, 3) := by decide +kernel
theorem dX11_lack_17 : decode cX11_lack 17 = .ok (.iload_n 2, 1) := by decide +kernel
theorem dX11_lack_18 : decode cX11_lack 18 = .ok (.i2l, 1) := by decide +kernel
theorem dX11_lack_19 : decode cX11_lack 19 = .ok (.iload_n 3, 1) := by decide +kernel
theorem dX11_lack_20 : decode cX11_lack 20 = .ok (.i2l, 1) := by decide +kernel
theorem dX11_lack_21 : decode cX11_lack 21 = .ok (.ladd, 1) := by decide +kernel
theorem dX11_lack_22 : decode cX11_lack 22 = .ok (.aload_n 0, 1) := by decide +kernel
theorem dX11_lack_23 : decode cX11_lack 23 = .ok (.getfield 13, 3) := by decide +kernel
theorem dX11_lack_26 : decode cX11_lack 26 = .ok (.iload_n 1, 1) := by decide +kernel
theorem dX11_lack_27 : decode cX11_lack 27 = .ok (.iaload, 1) := by decide +kernel
theorem dX11_lack_28 : decode cX11_lack 28 = .ok (.i2l, 1) := by decide +kernel
theorem dX11_lack_29 : decode cX11_lack 29 = .ok (.lcmp, 1) := by decide +kernel
theorem dX11_lack_30 : decode cX11_lack 30 = .ok (.ifCond .le 7, 3) := by decide +kernel
theorem dX11_lack_33 : decode cX11_lack 33 = .ok (.iconst 2, 1) := by decide +kernel
theorem dX11_lack_34 : decode cX11_lack 34 = .ok (.goto 4, 3) := by decide +kernel
theorem dX11_lack_37 : decode cX11_lack 37 = .ok (.iconst 0, 1) := by decide +kernel
theorem dX11_lack_38 : decode cX11_lack 38 = .ok (.ireturn, 1) := by decide +kernel
theorem dX11_told_0 : decode cX11_told 0 = .ok (.iload_n 1, 1) := by decide +kernel
theorem dX11_told_1 : decode cX11_told 1 = .ok (.i2l, 1) := by decide +kernel
theorem dX11_told_2 : decode cX11_told 2 = .ok (.lconst 0, 1) := by decide +kernel
theorem dX11_told_3 : decode cX11_told 3 = .ok (.aload_n 0, 1) := by decide +kernel
theorem dX11_told_4 : decode cX11_told 4 = .ok (.getfield 19, 3) := by decide +kernel
theorem dX11_told_7 : decode cX11_told 7 = .ok (.iconst 0, 1) := by decide +kernel
theorem dX11_told_8 : decode cX11_told 8 = .ok (.iaload, 1) := by decide +kernel
theorem dX11_told_9 : decode cX11_told 9 = .ok (.iconst 1, 1) := by decide +kernel
theorem dX11_told_10 : decode cX11_told 10 = .ok (.isub, 1) := by decide +kernel
theorem dX11_told_11 : decode cX11_told 11 = .ok (.i2l, 1) := by decide +kernel
theorem dX11_told_12 : decode cX11_told 12 = .ok (.invokestatic 68, 3) := by decide +kernel
theorem dX11_told_15 : decode cX11_told 15 = .ok (.ifCond .eq 14, 3) := by decide +kernel
theorem dX11_told_18 : decode cX11_told 18 = .ok (.aload_n 0, 1) := by decide +kernel
theorem dX11_told_19 : decode cX11_told 19 = .ok (.getfield 19, 3) := by decide +kernel
theorem dX11_told_22 : decode cX11_told 22 = .ok (.iconst 3, 1) := by decide +kernel
theorem dX11_told_23 : decode cX11_told 23 = .ok (.iconst 3, 1) := by decide +kernel
theorem dX11_told_24 : decode cX11_told 24 = .ok (.iload_n 1, 1) := by decide +kernel
theorem dX11_told_25 : decode cX11_told 25 = .ok (.imul, 1) := by decide +kernel
theorem dX11_told_26 : decode cX11_told 26 = .ok (.iadd, 1) := by decide +kernel
theorem dX11_told_27 : decode cX11_told 27 = .ok (.iaload, 1) := by decide +kernel
theorem dX11_told_28 : decode cX11_told 28 = .ok (.ireturn, 1) := by decide +kernel
theorem dX11_told_29 : decode cX11_told 29 = .ok (.iload_n 1, 1) := by decide +kernel
theorem dX11_told_30 : decode cX11_told 30 = .ok (.i2l, 1) := by decide +kernel
theorem dX11_told_31 : decode cX11_told 31 = .ok (.ldc2_w 204, 3) := by decide +kernel
theorem dX11_told_34 : decode cX11_told 34 = .ok (.bipush 19, 2) := by decide +kernel
theorem dX11_told_36 : decode cX11_told 36 = .ok (.aload_n 0, 1) := by decide +kernel
theorem dX11_told_37 : decode cX11_told 37 = .ok (.getfield 19, 3) := by decide +kernel
theorem dX11_told_40 : decode cX11_told 40 = .ok (.iconst 0, 1) := by decide +kernel
theorem dX11_told_41 : decode cX11_told 41 = .ok (.iaload, 1) := by decide +kernel
theorem dX11_told_42 : decode cX11_told 42 = .ok (.iadd, 1) := by decide +kernel
theorem dX11_told_43 : decode cX11_told 43 = .ok (.i2l, 1) := by decide +kernel
theorem dX11_told_44 : decode cX11_told 44 = .ok (.invokestatic 68, 3) := by decide +kernel
theorem dX11_told_47 : decode cX11_told 47 = .ok (.ifCond .eq 21, 3) := by decide +kernel
theorem dX11_told_50 : decode cX11_told 50 = .ok (.aload_n 0, 1) := by decide +kernel
theorem dX11_told_51 : decode cX11_told 51 = .ok (.getfield 19, 3) := by decide +kernel
theorem dX11_told_54 : decode cX11_told 54 = .ok (.iconst 3, 1) := by decide +kernel
theorem dX11_told_55 : decode cX11_told 55 = .ok (.iconst 3, 1) := by decide +kernel
theorem dX11_told_56 : decode cX11_told 56 = .ok (.iload_n 1, 1) := by decide +kernel
theorem dX11_told_57 : decode cX11_told 57 = .ok (.bipush 20, 2) := by decide +kernel
theorem dX11_told_59 : decode cX11_told 59 = .ok (.isub, 1) := by decide +kernel
theorem dX11_told_60 : decode cX11_told 60 = .ok (.imul, 1) := by decide +kernel
theorem dX11_told_61 : decode cX11_told 61 = .ok (.iadd, 1) := by decide +kernel
theorem dX11_told_62 : decode cX11_told 62 = .ok (.iconst 1, 1) := by decide +kernel
theorem dX11_told_63 : decode cX11_told 63 = .ok (.iadd, 1) := by decide +kernel
theorem dX11_told_64 : decode cX11_told 64 = .ok (.iaload, 1) := by decide +kernel
theorem dX11_told_65 : decode cX11_told 65 = .ok (.goto 4, 3) := by decide +kernel
theorem dX11_told_68 : decode cX11_told 68 = .ok (.iconst 0, 1) := by decide +kernel
theorem dX11_told_69 : decode cX11_told 69 = .ok (.ireturn, 1) := by decide +kernel
theorem dX11_say_0 : decode cX11_say 0 = .ok (.aload_n 0, 1) := by decide +kernel
theorem dX11_say_1 : decode cX11_say 1 = .ok (.iconst 0, 1) := by decide +kernel
theorem dX11_say_2 : decode cX11_say 2 = .ok (.putfield 57, 3) := by decide +kernel
theorem dX11_say_5 : decode cX11_say 5 = .ok (.iload_n 1, 1) := by decide +kernel
theorem dX11_say_6 : decode cX11_say 6 = .ok (.invokestatic 197, 3) := by decide +kernel
theorem dX11_say_9 : decode cX11_say 9 = .ok (.ifCond .eq 23, 3) := by decide +kernel
theorem dX11_say_12 : decode cX11_say 12 = .ok (.iload_n 2, 1) := by decide +kernel
theorem dX11_say_13 : decode cX11_say 13 = .ok (.invokestatic 72, 3) := by decide +kernel
theorem dX11_say_16 : decode cX11_say 16 = .ok (.ifCond .eq 16, 3) := by decide +kernel
theorem dX11_say_19 : decode cX11_say 19 = .ok (.iload 4, 2) := by decide +kernel
theorem dX11_say_21 : decode cX11_say 21 = .ok (.i2l, 1) := by decide +kernel
theorem dX11_say_22 : decode cX11_say 22 = .ok (.lconst 0, 1) := by decide +kernel
theorem dX11_say_23 : decode cX11_say 23 = .ok (.ldc2_w 204, 3) := by decide +kernel
theorem dX11_say_26 : decode cX11_say 26 = .ok (.invokestatic 68, 3) := by decide +kernel
theorem dX11_say_29 : decode cX11_say 29 = .ok (.ifCond .ne 7, 3) := by decide +kernel
theorem dX11_say_32 : decode cX11_say 32 = .ok (.ldc2_w 78, 3) := by decide +kernel
theorem dX11_say_35 : decode cX11_say 35 = .ok (.lreturn, 1) := by decide +kernel
theorem dX11_say_36 : decode cX11_say 36 = .ok (.aload_n 0, 1) := by decide +kernel
theorem dX11_say_37 : decode cX11_say 37 = .ok (.iload_n 2, 1) := by decide +kernel
theorem dX11_say_38 : decode cX11_say 38 = .ok (.iload_n 3, 1) := by decide +kernel
theorem dX11_say_39 : decode cX11_say 39 = .ok (.iload 4, 2) := by decide +kernel
theorem dX11_say_41 : decode cX11_say 41 = .ok (.invokevirtual 206, 3) := by decide +kernel
theorem dX11_say_44 : decode cX11_say 44 = .ok (.istore 5, 2) := by decide +kernel
theorem dX11_say_46 : decode cX11_say 46 = .ok (.iload 5, 2) := by decide +kernel
theorem dX11_say_48 : decode cX11_say 48 = .ok (.ifCond .le 10, 3) := by decide +kernel
theorem dX11_say_51 : decode cX11_say 51 = .ok (.aload_n 0, 1) := by decide +kernel
theorem dX11_say_52 : decode cX11_say 52 = .ok (.iload 5, 2) := by decide +kernel
theorem dX11_say_54 : decode cX11_say 54 = .ok (.invokevirtual 80, 3) := by decide +kernel
theorem dX11_say_57 : decode cX11_say 57 = .ok (.lreturn, 1) := by decide +kernel
theorem dX11_say_58 : decode cX11_say 58 = .ok (.lconst 1, 1) := by decide +kernel
theorem dX11_say_59 : decode cX11_say 59 = .ok (.lstore 6, 2) := by decide +kernel
theorem dX11_say_61 : decode cX11_say 61 = .ok (.iconst 0, 1) := by decide +kernel
theorem dX11_say_62 : decode cX11_say 62 = .ok (.istore 8, 2) := by decide +kernel
theorem dX11_say_64 : decode cX11_say 64 = .ok (.iload 8, 2) := by decide +kernel
theorem dX11_say_66 : decode cX11_say 66 = .ok (.iload 4, 2) := by decide +kernel
theorem dX11_say_68 : decode cX11_say 68 = .ok (.if_icmp .ge 48, 3) := by decide +kernel
theorem dX11_say_71 : decode cX11_say 71 = .ok (.aload_n 0, 1) := by decide +kernel
theorem dX11_say_72 : decode cX11_say 72 = .ok (.aload_n 0, 1) := by decide +kernel
theorem dX11_say_73 : decode cX11_say 73 = .ok (.getfield 16, 3) := by decide +kernel
theorem dX11_say_76 : decode cX11_say 76 = .ok (.bipush 40, 2) := by decide +kernel
theorem dX11_say_78 : decode cX11_say 78 = .ok (.iload_n 2, 1) := by decide +kernel
theorem dX11_say_79 : decode cX11_say 79 = .ok (.imul, 1) := by decide +kernel
theorem dX11_say_80 : decode cX11_say 80 = .ok (.iload_n 3, 1) := by decide +kernel
theorem dX11_say_81 : decode cX11_say 81 = .ok (.iadd, 1) := by decide +kernel
theorem dX11_say_82 : decode cX11_say 82 = .ok (.iload 8, 2) := by decide +kernel
theorem dX11_say_84 : decode cX11_say 84 = .ok (.iadd, 1) := by decide +kernel
theorem dX11_say_85 : decode cX11_say 85 = .ok (.iaload, 1) := by decide +kernel
theorem dX11_say_86 : decode cX11_say 86 = .ok (.invokevirtual 210, 3) := by decide +kernel
theorem dX11_say_89 : decode cX11_say 89 = .ok (.istore 9, 2) := by decide +kernel
theorem dX11_say_91 : decode cX11_say 91 = .ok (.iload 9, 2) := by decide +kernel
theorem dX11_say_93 : decode cX11_say 93 = .ok (.ifCond .ne 7, 3) := by decide +kernel
theorem dX11_say_96 : decode cX11_say 96 = .ok (.ldc2_w 78, 3) := by decide +kernel
theorem dX11_say_99 : decode cX11_say 99 = .ok (.lreturn, 1) := by decide +kernel
theorem dX11_say_100 : decode cX11_say 100 = .ok (.lload 6, 2) := by decide +kernel
theorem dX11_say_102 : decode cX11_say 102 = .ok (.iload 9, 2) := by decide +kernel
theorem dX11_say_104 : decode cX11_say 104 = .ok (.i2l, 1) := by decide +kernel
theorem dX11_say_105 : decode cX11_say 105 = .ok (.invokestatic 213, 3) := by decide +kernel
theorem dX11_say_108 : decode cX11_say 108 = .ok (.lstore 6, 2) := by decide +kernel
theorem dX11_say_110 : decode cX11_say 110 = .ok (.iinc 8 1, 3) := by decide +kernel
theorem dX11_say_113 : decode cX11_say 113 = .ok (.goto (-49), 3) := by decide +kernel
theorem dX11_say_116 : decode cX11_say 116 = .ok (.lload 6, 2) := by decide +kernel
theorem dX11_say_118 : decode cX11_say 118 = .ok (.lconst 0, 1) := by decide +kernel
theorem dX11_say_119 : decode cX11_say 119 = .ok (.lcmp, 1) := by decide +kernel
theorem dX11_say_120 : decode cX11_say 120 = .ok (.ifCond .ne 7, 3) := by decide +kernel
theorem dX11_say_123 : decode cX11_say 123 = .ok (.ldc2_w 89, 3) := by decide +kernel
theorem dX11_say_126 : decode cX11_say 126 = .ok (.lreturn, 1) := by decide +kernel
theorem dX11_say_127 : decode cX11_say 127 = .ok (.aload_n 0, 1) := by decide +kernel
theorem dX11_say_128 : decode cX11_say 128 = .ok (.iconst 0, 1) := by decide +kernel
theorem dX11_say_129 : decode cX11_say 129 = .ok (.putfield 61, 3) := by decide +kernel
theorem dX11_say_132 : decode cX11_say 132 = .ok (.aload_n 0, 1) := by decide +kernel
theorem dX11_say_133 : decode cX11_say 133 = .ok (.getfield 25, 3) := by decide +kernel
theorem dX11_say_136 : decode cX11_say 136 = .ok (.iload_n 1, 1) := by decide +kernel
theorem dX11_say_137 : decode cX11_say 137 = .ok (.lload 6, 2) := by decide +kernel
theorem dX11_say_139 : decode cX11_say 139 = .ok (.lastore, 1) := by decide +kernel
theorem dX11_say_140 : decode cX11_say 140 = .ok (.lload 6, 2) := by decide +kernel
theorem dX11_say_142 : decode cX11_say 142 = .ok (.lreturn, 1) := by decide +kernel
theorem dX11_said_0 : decode cX11_said 0 = .ok (.aload_n 0, 1) := by decide +kernel
theorem dX11_said_1 : decode cX11_said 1 = .ok (.iconst 0, 1) := by decide +kernel
theorem dX11_said_2 : decode cX11_said 2 = .ok (.putfield 57, 3) := by decide +kernel
theorem dX11_said_5 : decode cX11_said 5 = .ok (.iload_n 1, 1) := by decide +kernel
theorem dX11_said_6 : decode cX11_said 6 = .ok (.invokestatic 197, 3) := by decide +kernel
theorem dX11_said_9 : decode cX11_said 9 = .ok (.ifCond .ne 9, 3) := by decide +kernel
theorem dX11_said_12 : decode cX11_said 12 = .ok (.ldc2_w 78, 3) := by decide +kernel
theorem dX11_said_15 : decode cX11_said 15 = .ok (.goto 26, 3) := by decide +kernel
theorem dX11_said_18 : decode cX11_said 18 = .ok (.aload_n 0, 1) := by decide +kernel
theorem dX11_said_19 : decode cX11_said 19 = .ok (.getfield 25, 3) := by decide +kernel
theorem dX11_said_22 : decode cX11_said 22 = .ok (.iload_n 1, 1) := by decide +kernel
theorem dX11_said_23 : decode cX11_said 23 = .ok (.laload, 1) := by decide +kernel
theorem dX11_said_24 : decode cX11_said 24 = .ok (.lconst 0, 1) := by decide +kernel
theorem dX11_said_25 : decode cX11_said 25 = .ok (.lcmp, 1) := by decide +kernel
theorem dX11_said_26 : decode cX11_said 26 = .ok (.ifCond .ne 9, 3) := by decide +kernel
theorem dX11_said_29 : decode cX11_said 29 = .ok (.ldc2_w 217, 3) := by decide +kernel
theorem dX11_said_32 : decode cX11_said 32 = .ok (.goto 9, 3) := by decide +kernel
theorem dX11_said_35 : decode cX11_said 35 = .ok (.aload_n 0, 1) := by decide +kernel
theorem dX11_said_36 : decode cX11_said 36 = .ok (.getfield 25, 3) := by decide +kernel
theorem dX11_said_39 : decode cX11_said 39 = .ok (.iload_n 1, 1) := by decide +kernel
theorem dX11_said_40 : decode cX11_said 40 = .ok (.laload, 1) := by decide +kernel
theorem dX11_said_41 : decode cX11_said 41 = .ok (.lreturn, 1) := by decide +kernel
theorem dX11_divide_0 : decode cX11_divide 0 = .ok (.iload_n 2, 1) := by decide +kernel
theorem dX11_divide_1 : decode cX11_divide 1 = .ok (.ifCond .le 39, 3) := by decide +kernel
theorem dX11_divide_4 : decode cX11_divide 4 = .ok (.aload_n 0, 1) := by decide +kernel
theorem dX11_divide_5 : decode cX11_divide 5 = .ok (.getfield 219, 3) := by decide +kernel
theorem dX11_divide_8 : decode cX11_divide 8 = .ok (.iload_n 2, 1) := by decide +kernel
theorem dX11_divide_9 : decode cX11_divide 9 = .ok (.i2l, 1) := by decide +kernel
theorem dX11_divide_10 : decode cX11_divide 10 = .ok (.lrem, 1) := by decide +kernel
theorem dX11_divide_11 : decode cX11_divide 11 = .ok (.lconst 0, 1) := by decide +kernel
theorem dX11_divide_12 : decode cX11_divide 12 = .ok (.lcmp, 1) := by decide +kernel
theorem dX11_divide_13 : decode cX11_divide 13 = .ok (.ifCond .ne 27, 3) := by decide +kernel
theorem dX11_divide_16 : decode cX11_divide 16 = .ok (.aload_n 0, 1) := by decide +kernel
theorem dX11_divide_17 : decode cX11_divide 17 = .ok (.dup, 1) := by decide +kernel
theorem dX11_divide_18 : decode cX11_divide 18 = .ok (.getfield 219, 3) := by decide +kernel
theorem dX11_divide_21 : decode cX11_divide 21 = .ok (.iload_n 2, 1) := by decide +kernel
theorem dX11_divide_22 : decode cX11_divide 22 = .ok (.i2l, 1) := by decide +kernel
theorem dX11_divide_23 : decode cX11_divide 23 = .ok (.ldiv, 1) := by decide +kernel
theorem dX11_divide_24 : decode cX11_divide 24 = .ok (.putfield 219, 3) := by decide +kernel
theorem dX11_divide_27 : decode cX11_divide 27 = .ok (.aload_n 0, 1) := by decide +kernel
theorem dX11_divide_28 : decode cX11_divide 28 = .ok (.getfield 32, 3) := by decide +kernel
theorem dX11_divide_31 : decode cX11_divide 31 = .ok (.iload_n 1, 1) := by decide +kernel
theorem dX11_divide_32 : decode cX11_divide 32 = .ok (.dup2, 1) := by decide +kernel
theorem dX11_divide_33 : decode cX11_divide 33 = .ok (.iaload, 1) := by decide +kernel
theorem dX11_divide_34 : decode cX11_divide 34 = .ok (.iconst 1, 1) := by decide +kernel
theorem dX11_divide_35 : decode cX11_divide 35 = .ok (.iadd, 1) := by decide +kernel
theorem dX11_divide_36 : decode cX11_divide 36 = .ok (.iastore, 1) := by decide +kernel
theorem dX11_divide_37 : decode cX11_divide 37 = .ok (.goto (-37), 3) := by decide +kernel
theorem dX11_divide_40 : decode cX11_divide 40 = .ok (.return_, 1) := by decide +kernel
theorem dX11_take_0 : decode cX11_take 0 = .ok (.aload_n 0, 1) := by decide +kernel
theorem dX11_take_1 : decode cX11_take 1 = .ok (.lload_n 1, 1) := by decide +kernel
theorem dX11_take_2 : decode cX11_take 2 = .ok (.putfield 219, 3) := by decide +kernel
theorem dX11_take_5 : decode cX11_take 5 = .ok (.iconst 0, 1) := by decide +kernel
theorem dX11_take_6 : decode cX11_take 6 = .ok (.istore_n 3, 1) := by decide +kernel
theorem dX11_take_7 : decode cX11_take 7 = .ok (.iload_n 3, 1) := by decide +kernel
theorem dX11_take_8 : decode cX11_take 8 = .ok (.bipush 12, 2) := by decide +kernel
theorem dX11_take_10 : decode cX11_take 10 = .ok (.if_icmp .ge 16, 3) := by decide +kernel
theorem dX11_take_13 : decode cX11_take 13 = .ok (.aload_n 0, 1) := by decide +kernel
theorem dX11_take_14 : decode cX11_take 14 = .ok (.getfield 32, 3) := by decide +kernel
theorem dX11_take_17 : decode cX11_take 17 = .ok (.iload_n 3, 1) := by decide +kernel
theorem dX11_take_18 : decode cX11_take 18 = .ok (.iconst 0, 1) := by decide +kernel
theorem dX11_take_19 : decode cX11_take 19 = .ok (.iastore, 1) := by decide +kernel
theorem dX11_take_20 : decode cX11_take 20 = .ok (.iinc 3 1, 3) := by decide +kernel
theorem dX11_take_23 : decode cX11_take 23 = .ok (.goto (-16), 3) := by decide +kernel
theorem dX11_take_26 : decode cX11_take 26 = .ok (.iconst 0, 1) := by decide +kernel
theorem dX11_take_27 : decode cX11_take 27 = .ok (.istore_n 3, 1) := by decide +kernel
theorem dX11_take_28 : decode cX11_take 28 = .ok (.iload_n 3, 1) := by decide +kernel
theorem dX11_take_29 : decode cX11_take 29 = .ok (.aload_n 0, 1) := by decide +kernel
theorem dX11_take_30 : decode cX11_take 30 = .ok (.getfield 19, 3) := by decide +kernel
theorem dX11_take_33 : decode cX11_take 33 = .ok (.iconst 0, 1) := by decide +kernel
theorem dX11_take_34 : decode cX11_take 34 = .ok (.iaload, 1) := by decide +kernel
theorem dX11_take_35 : decode cX11_take 35 = .ok (.if_icmp .ge 41, 3) := by decide +kernel
theorem dX11_take_38 : decode cX11_take 38 = .ok (.aload_n 0, 1) := by decide +kernel
theorem dX11_take_39 : decode cX11_take 39 = .ok (.iload_n 3, 1) := by decide +kernel
theorem dX11_take_40 : decode cX11_take 40 = .ok (.aload_n 0, 1) := by decide +kernel
theorem dX11_take_41 : decode cX11_take 41 = .ok (.getfield 19, 3) := by decide +kernel
theorem dX11_take_44 : decode cX11_take 44 = .ok (.iconst 3, 1) := by decide +kernel
theorem dX11_take_45 : decode cX11_take 45 = .ok (.iconst 3, 1) := by decide +kernel
theorem dX11_take_46 : decode cX11_take 46 = .ok (.iload_n 3, 1) := by decide +kernel
theorem dX11_take_47 : decode cX11_take 47 = .ok (.imul, 1) := by decide +kernel
theorem dX11_take_48 : decode cX11_take 48 = .ok (.iadd, 1) := by decide +kernel
theorem dX11_take_49 : decode cX11_take 49 = .ok (.iaload, 1) := by decide +kernel
theorem dX11_take_50 : decode cX11_take 50 = .ok (.invokevirtual 223, 3) := by decide +kernel
theorem dX11_take_53 : decode cX11_take 53 = .ok (.aload_n 0, 1) := by decide +kernel
theorem dX11_take_54 : decode cX11_take 54 = .ok (.iload_n 3, 1) := by decide +kernel
theorem dX11_take_55 : decode cX11_take 55 = .ok (.aload_n 0, 1) := by decide +kernel
theorem dX11_take_56 : decode cX11_take 56 = .ok (.getfield 19, 3) := by decide +kernel
theorem dX11_take_59 : decode cX11_take 59 = .ok (.iconst 3, 1) := by decide +kernel
theorem dX11_take_60 : decode cX11_take 60 = .ok (.iconst 3, 1) := by decide +kernel
theorem dX11_take_61 : decode cX11_take 61 = .ok (.iload_n 3, 1) := by decide +kernel
theorem dX11_take_62 : decode cX11_take 62 = .ok (.imul, 1) := by decide +kernel
theorem dX11_take_63 : decode cX11_take 63 = .ok (.iadd, 1) := by decide +kernel
theorem dX11_take_64 : decode cX11_take 64 = .ok (.iconst 1, 1) := by decide +kernel
theorem dX11_take_65 : decode cX11_take 65 = .ok (.iadd, 1) := by decide +kernel
theorem dX11_take_66 : decode cX11_take 66 = .ok (.iaload, 1) := by decide +kernel
theorem dX11_take_67 : decode cX11_take 67 = .ok (.invokevirtual 223, 3) := by decide +kernel
theorem dX11_take_70 : decode cX11_take 70 = .ok (.iinc 3 1, 3) := by decide +kernel
theorem dX11_take_73 : decode cX11_take 73 = .ok (.goto (-45), 3) := by decide +kernel
theorem dX11_take_76 : decode cX11_take 76 = .ok (.return_, 1) := by decide +kernel
theorem dX11_sizeNow_0 : decode cX11_sizeNow 0 = .ok (.iconst 0, 1) := by decide +kernel
theorem dX11_sizeNow_1 : decode cX11_sizeNow 1 = .ok (.istore_n 1, 1) := by decide +kernel
theorem dX11_sizeNow_2 : decode cX11_sizeNow 2 = .ok (.iconst 0, 1) := by decide +kernel
theorem dX11_sizeNow_3 : decode cX11_sizeNow 3 = .ok (.istore_n 2, 1) := by decide +kernel
theorem dX11_sizeNow_4 : decode cX11_sizeNow 4 = .ok (.iload_n 2, 1) := by decide +kernel
theorem dX11_sizeNow_5 : decode cX11_sizeNow 5 = .ok (.bipush 12, 2) := by decide +kernel
theorem dX11_sizeNow_7 : decode cX11_sizeNow 7 = .ok (.if_icmp .ge 18, 3) := by decide +kernel
theorem dX11_sizeNow_10 : decode cX11_sizeNow 10 = .ok (.iload_n 1, 1) := by decide +kernel
theorem dX11_sizeNow_11 : decode cX11_sizeNow 11 = .ok (.aload_n 0, 1) := by decide +kernel
theorem dX11_sizeNow_12 : decode cX11_sizeNow 12 = .ok (.getfield 32, 3) := by decide +kernel
theorem dX11_sizeNow_15 : decode cX11_sizeNow 15 = .ok (.iload_n 2, 1) := by decide +kernel
theorem dX11_sizeNow_16 : decode cX11_sizeNow 16 = .ok (.iaload, 1) := by decide +kernel
theorem dX11_sizeNow_17 : decode cX11_sizeNow 17 = .ok (.iadd, 1) := by decide +kernel
theorem dX11_sizeNow_18 : decode cX11_sizeNow 18 = .ok (.istore_n 1, 1) := by decide +kernel
theorem dX11_sizeNow_19 : decode cX11_sizeNow 19 = .ok (.iinc 2 1, 3) := by decide +kernel
theorem dX11_sizeNow_22 : decode cX11_sizeNow 22 = .ok (.goto (-18), 3) := by decide +kernel
theorem dX11_sizeNow_25 : decode cX11_sizeNow 25 = .ok (.iload_n 1, 1) := by decide +kernel
theorem dX11_sizeNow_26 : decode cX11_sizeNow 26 = .ok (.ireturn, 1) := by decide +kernel
theorem dX11_ofSort_0 : decode cX11_ofSort 0 = .ok (.iconst 0, 1) := by decide +kernel
theorem dX11_ofSort_1 : decode cX11_ofSort 1 = .ok (.istore_n 2, 1) := by decide +kernel
theorem dX11_ofSort_2 : decode cX11_ofSort 2 = .ok (.iconst 0, 1) := by decide +kernel
theorem dX11_ofSort_3 : decode cX11_ofSort 3 = .ok (.istore_n 3, 1) := by decide +kernel
theorem dX11_ofSort_4 : decode cX11_ofSort 4 = .ok (.iload_n 3, 1) := by decide +kernel
theorem dX11_ofSort_5 : decode cX11_ofSort 5 = .ok (.aload_n 0, 1) := by decide +kernel
theorem dX11_ofSort_6 : decode cX11_ofSort 6 = .ok (.getfield 19, 3) := by decide +kernel
theorem dX11_ofSort_9 : decode cX11_ofSort 9 = .ok (.iconst 0, 1) := by decide +kernel
theorem dX11_ofSort_10 : decode cX11_ofSort 10 = .ok (.iaload, 1) := by decide +kernel
theorem dX11_ofSort_11 : decode cX11_ofSort 11 = .ok (.if_icmp .ge 38, 3) := by decide +kernel
theorem dX11_ofSort_14 : decode cX11_ofSort 14 = .ok (.iload_n 2, 1) := by decide +kernel
theorem dX11_ofSort_15 : decode cX11_ofSort 15 = .ok (.aload_n 0, 1) := by decide +kernel
theorem dX11_ofSort_16 : decode cX11_ofSort 16 = .ok (.getfield 19, 3) := by decide +kernel
theorem dX11_ofSort_19 : decode cX11_ofSort 19 = .ok (.iconst 3, 1) := by decide +kernel
theorem dX11_ofSort_20 : decode cX11_ofSort 20 = .ok (.iconst 3, 1) := by decide +kernel
theorem dX11_ofSort_21 : decode cX11_ofSort 21 = .ok (.iload_n 3, 1) := by decide +kernel
theorem dX11_ofSort_22 : decode cX11_ofSort 22 = .ok (.imul, 1) := by decide +kernel
theorem dX11_ofSort_23 : decode cX11_ofSort 23 = .ok (.iadd, 1) := by decide +kernel
theorem dX11_ofSort_24 : decode cX11_ofSort 24 = .ok (.iconst 2, 1) := by decide +kernel
theorem dX11_ofSort_25 : decode cX11_ofSort 25 = .ok (.iadd, 1) := by decide +kernel
theorem dX11_ofSort_26 : decode cX11_ofSort 26 = .ok (.iaload, 1) := by decide +kernel
theorem dX11_ofSort_27 : decode cX11_ofSort 27 = .ok (.iload_n 1, 1) := by decide +kernel
theorem dX11_ofSort_28 : decode cX11_ofSort 28 = .ok (.if_icmp .ne 12, 3) := by decide +kernel
theorem dX11_ofSort_31 : decode cX11_ofSort 31 = .ok (.aload_n 0, 1) := by decide +kernel
theorem dX11_ofSort_32 : decode cX11_ofSort 32 = .ok (.getfield 32, 3) := by decide +kernel
theorem dX11_ofSort_35 : decode cX11_ofSort 35 = .ok (.iload_n 3, 1) := by decide +kernel
theorem dX11_ofSort_36 : decode cX11_ofSort 36 = .ok (.iaload, 1) := by decide +kernel
theorem dX11_ofSort_37 : decode cX11_ofSort 37 = .ok (.goto 4, 3) := by decide +kernel
theorem dX11_ofSort_40 : decode cX11_ofSort 40 = .ok (.iconst 0, 1) := by decide +kernel
theorem dX11_ofSort_41 : decode cX11_ofSort 41 = .ok (.iadd, 1) := by decide +kernel
theorem dX11_ofSort_42 : decode cX11_ofSort 42 = .ok (.istore_n 2, 1) := by decide +kernel
theorem dX11_ofSort_43 : decode cX11_ofSort 43 = .ok (.iinc 3 1, 3) := by decide +kernel
theorem dX11_ofSort_46 : decode cX11_ofSort 46 = .ok (.goto (-42), 3) := by decide +kernel
theorem dX11_ofSort_49 : decode cX11_ofSort 49 = .ok (.iload_n 2, 1) := by decide +kernel
theorem dX11_ofSort_50 : decode cX11_ofSort 50 = .ok (.ireturn, 1) := by decide +kernel
theorem dX11_isGoodNow_0 : decode cX11_isGoodNow 0 = .ok (.aload_n 0, 1) := by decide +kernel
theorem dX11_isGoodNow_1 : decode cX11_isGoodNow 1 = .ok (.getfield 219, 3) := by decide +kernel
theorem dX11_isGoodNow_4 : decode cX11_isGoodNow 4 = .ok (.lconst 1, 1) := by decide +kernel
theorem dX11_isGoodNow_5 : decode cX11_isGoodNow 5 = .ok (.lcmp, 1) := by decide +kernel
theorem dX11_isGoodNow_6 : decode cX11_isGoodNow 6 = .ok (.ifCond .ne 7, 3) := by decide +kernel
theorem dX11_isGoodNow_9 : decode cX11_isGoodNow 9 = .ok (.iconst 1, 1) := by decide +kernel
theorem dX11_isGoodNow_10 : decode cX11_isGoodNow 10 = .ok (.goto 4, 3) := by decide +kernel
theorem dX11_isGoodNow_13 : decode cX11_isGoodNow 13 = .ok (.iconst 0, 1) := by decide +kernel
theorem dX11_isGoodNow_14 : decode cX11_isGoodNow 14 = .ok (.istore_n 1, 1) := by decide +kernel
theorem dX11_isGoodNow_15 : decode cX11_isGoodNow 15 = .ok (.iconst 0, 1) := by decide +kernel
theorem dX11_isGoodNow_16 : decode cX11_isGoodNow 16 = .ok (.istore_n 2, 1) := by decide +kernel
theorem dX11_isGoodNow_17 : decode cX11_isGoodNow 17 = .ok (.iload_n 2, 1) := by decide +kernel
theorem dX11_isGoodNow_18 : decode cX11_isGoodNow 18 = .ok (.iconst 5, 1) := by decide +kernel
theorem dX11_isGoodNow_19 : decode cX11_isGoodNow 19 = .ok (.if_icmp .ge 70, 3) := by decide +kernel
theorem dX11_isGoodNow_22 : decode cX11_isGoodNow 22 = .ok (.bipush 39, 2) := by decide +kernel
theorem dX11_isGoodNow_24 : decode cX11_isGoodNow 24 = .ok (.iconst 2, 1) := by decide +kernel
theorem dX11_isGoodNow_25 : decode cX11_isGoodNow 25 = .ok (.iload_n 2, 1) := by decide +kernel
theorem dX11_isGoodNow_26 : decode cX11_isGoodNow 26 = .ok (.imul, 1) := by decide +kernel
theorem dX11_isGoodNow_27 : decode cX11_isGoodNow 27 = .ok (.iadd, 1) := by decide +kernel
theorem dX11_isGoodNow_28 : decode cX11_isGoodNow 28 = .ok (.istore_n 3, 1) := by decide +kernel
theorem dX11_isGoodNow_29 : decode cX11_isGoodNow 29 = .ok (.iload_n 1, 1) := by decide +kernel
theorem dX11_isGoodNow_30 : decode cX11_isGoodNow 30 = .ok (.ifCond .eq 51, 3) := by decide +kernel
theorem dX11_isGoodNow_33 : decode cX11_isGoodNow 33 = .ok (.aload_n 0, 1) := by decide +kernel
theorem dX11_isGoodNow_34 : decode cX11_isGoodNow 34 = .ok (.getfield 191, 3) := by decide +kernel
theorem dX11_isGoodNow_37 : decode cX11_isGoodNow 37 = .ok (.ifCond .eq 40, 3) := by decide +kernel
theorem dX11_isGoodNow_40 : decode cX11_isGoodNow 40 = .ok (.aload_n 0, 1) := by decide +kernel
theorem dX11_isGoodNow_41 : decode cX11_isGoodNow 41 = .ok (.getfield 19, 3) := by decide +kernel
theorem dX11_isGoodNow_44 : decode cX11_isGoodNow 44 = .ok (.iload_n 3, 1) := by decide +kernel
theorem dX11_isGoodNow_45 : decode cX11_isGoodNow 45 = .ok (.iaload, 1) := by decide +kernel
theorem dX11_isGoodNow_46 : decode cX11_isGoodNow 46 = .ok (.ifCond .lt 31, 3) := by decide +kernel
theorem dX11_isGoodNow_49 : decode cX11_isGoodNow 49 = .ok (.aload_n 0, 1) := by decide +kernel
theorem dX11_isGoodNow_50 : decode cX11_isGoodNow 50 = .ok (.iload_n 2, 1) := by decide +kernel
theorem dX11_isGoodNow_51 : decode cX11_isGoodNow 51 = .ok (.invokevirtual 226, 3) := by decide +kernel
theorem dX11_isGoodNow_54 : decode cX11_isGoodNow 54 = .ok (.i2l, 1) := by decide +kernel
theorem dX11_isGoodNow_55 : decode cX11_isGoodNow 55 = .ok (.aload_n 0, 1) := by decide +kernel
theorem dX11_isGoodNow_56 : decode cX11_isGoodNow 56 = .ok (.getfield 19, 3) := by decide +kernel
theorem dX11_isGoodNow_59 : decode cX11_isGoodNow 59 = .ok (.iload_n 3, 1) := by decide +kernel
theorem dX11_isGoodNow_60 : decode cX11_isGoodNow 60 = .ok (.iaload, 1) := by decide +kernel
theorem dX11_isGoodNow_61 : decode cX11_isGoodNow 61 = .ok (.i2l, 1) := by decide +kernel
theorem dX11_isGoodNow_62 : decode cX11_isGoodNow 62 = .ok (.aload_n 0, 1) := by decide +kernel
theorem dX11_isGoodNow_63 : decode cX11_isGoodNow 63 = .ok (.getfield 19, 3) := by decide +kernel
theorem dX11_isGoodNow_66 : decode cX11_isGoodNow 66 = .ok (.iload_n 3, 1) := by decide +kernel
theorem dX11_isGoodNow_67 : decode cX11_isGoodNow 67 = .ok (.iconst 1, 1) := by decide +kernel
theorem dX11_isGoodNow_68 : decode cX11_isGoodNow 68 = .ok (.iadd, 1) := by decide +kernel
theorem dX11_isGoodNow_69 : decode cX11_isGoodNow 69 = .ok (.iaload, 1) := by decide +kernel
theorem dX11_isGoodNow_70 : decode cX11_isGoodNow 70 = .ok (.i2l, 1) := by decide +kernel
theorem dX11_isGoodNow_71 : decode cX11_isGoodNow 71 = .ok (.invokestatic 68, 3) := by decide +kernel
theorem dX11_isGoodNow_74 : decode cX11_isGoodNow 74 = .ok (.ifCond .eq 7, 3) := by decide +kernel
theorem dX11_isGoodNow_77 : decode cX11_isGoodNow 77 = .ok (.iconst 1, 1) := by decide +kernel
theorem dX11_isGoodNow_78 : decode cX11_isGoodNow 78 = .ok (.goto 4, 3) := by decide +kernel
theorem dX11_isGoodNow_81 : decode cX11_isGoodNow 81 = .ok (.iconst 0, 1) := by decide +kernel
theorem dX11_isGoodNow_82 : decode cX11_isGoodNow 82 = .ok (.istore_n 1, 1) := by decide +kernel
theorem dX11_isGoodNow_83 : decode cX11_isGoodNow 83 = .ok (.iinc 2 1, 3) := by decide +kernel
theorem dX11_isGoodNow_86 : decode cX11_isGoodNow 86 = .ok (.goto (-69), 3) := by decide +kernel
theorem dX11_isGoodNow_89 : decode cX11_isGoodNow 89 = .ok (.iconst 0, 1) := by decide +kernel
theorem dX11_isGoodNow_90 : decode cX11_isGoodNow 90 = .ok (.istore_n 2, 1) := by decide +kernel
theorem dX11_isGoodNow_91 : decode cX11_isGoodNow 91 = .ok (.iload_n 2, 1) := by decide +kernel
theorem dX11_isGoodNow_92 : decode cX11_isGoodNow 92 = .ok (.aload_n 0, 1) := by decide +kernel
theorem dX11_isGoodNow_93 : decode cX11_isGoodNow 93 = .ok (.getfield 19, 3) := by decide +kernel
theorem dX11_isGoodNow_96 : decode cX11_isGoodNow 96 = .ok (.iconst 2, 1) := by decide +kernel
theorem dX11_isGoodNow_97 : decode cX11_isGoodNow 97 = .ok (.iaload, 1) := by decide +kernel
theorem dX11_isGoodNow_98 : decode cX11_isGoodNow 98 = .ok (.if_icmp .ge 59, 3) := by decide +kernel
theorem dX11_isGoodNow_101 : decode cX11_isGoodNow 101 = .ok (.iload_n 1, 1) := by decide +kernel
theorem dX11_isGoodNow_102 : decode cX11_isGoodNow 102 = .ok (.ifCond .eq 47, 3) := by decide +kernel
theorem dX11_isGoodNow_105 : decode cX11_isGoodNow 105 = .ok (.aload_n 0, 1) := by decide +kernel
theorem dX11_isGoodNow_106 : decode cX11_isGoodNow 106 = .ok (.getfield 32, 3) := by decide +kernel
theorem dX11_isGoodNow_109 : decode cX11_isGoodNow 109 = .ok (.aload_n 0, 1) := by decide +kernel
theorem dX11_isGoodNow_110 : decode cX11_isGoodNow 110 = .ok (.getfield 19, 3) := by decide +kernel
theorem dX11_isGoodNow_113 : decode cX11_isGoodNow 113 = .ok (.bipush 49, 2) := by decide +kernel
theorem dX11_isGoodNow_115 : decode cX11_isGoodNow 115 = .ok (.iconst 2, 1) := by decide +kernel
theorem dX11_isGoodNow_116 : decode cX11_isGoodNow 116 = .ok (.iload_n 2, 1) := by decide +kernel
theorem dX11_isGoodNow_117 : decode cX11_isGoodNow 117 = .ok (.imul, 1) := by decide +kernel
theorem dX11_isGoodNow_118 : decode cX11_isGoodNow 118 = .ok (.iadd, 1) := by decide +kernel
theorem dX11_isGoodNow_119 : decode cX11_isGoodNow 119 = .ok (.iaload, 1) := by decide +kernel
theorem dX11_isGoodNow_120 : decode cX11_isGoodNow 120 = .ok (.iaload, 1) := by decide +kernel
theorem dX11_isGoodNow_121 : decode cX11_isGoodNow 121 = .ok (.ifCond .eq 24, 3) := by decide +kernel
theorem dX11_isGoodNow_124 : decode cX11_isGoodNow 124 = .ok (.aload_n 0, 1) := by decide +kernel
theorem dX11_isGoodNow_125 : decode cX11_isGoodNow 125 = .ok (.getfield 32, 3) := by decide +kernel
theorem dX11_isGoodNow_128 : decode cX11_isGoodNow 128 = .ok (.aload_n 0, 1) := by decide +kernel
theorem dX11_isGoodNow_129 : decode cX11_isGoodNow 129 = .ok (.getfield 19, 3) := by decide +kernel
theorem dX11_isGoodNow_132 : decode cX11_isGoodNow 132 = .ok (.bipush 49, 2) := by decide +kernel
theorem dX11_isGoodNow_134 : decode cX11_isGoodNow 134 = .ok (.iconst 2, 1) := by decide +kernel
theorem dX11_isGoodNow_135 : decode cX11_isGoodNow 135 = .ok (.iload_n 2, 1) := by decide +kernel
theorem dX11_isGoodNow_136 : decode cX11_isGoodNow 136 = .ok (.imul, 1) := by decide +kernel
theorem dX11_isGoodNow_137 : decode cX11_isGoodNow 137 = .ok (.iadd, 1) := by decide +kernel
theorem dX11_isGoodNow_138 : decode cX11_isGoodNow 138 = .ok (.iconst 1, 1) := by decide +kernel
theorem dX11_isGoodNow_139 : decode cX11_isGoodNow 139 = .ok (.iadd, 1) := by decide +kernel
theorem dX11_isGoodNow_140 : decode cX11_isGoodNow 140 = .ok (.iaload, 1) := by decide +kernel
theorem dX11_isGoodNow_141 : decode cX11_isGoodNow 141 = .ok (.iaload, 1) := by decide +kernel
theorem dX11_isGoodNow_142 : decode cX11_isGoodNow 142 = .ok (.ifCond .ne 7, 3) := by decide +kernel
theorem dX11_isGoodNow_145 : decode cX11_isGoodNow 145 = .ok (.iconst 1, 1) := by decide +kernel
theorem dX11_isGoodNow_146 : decode cX11_isGoodNow 146 = .ok (.goto 4, 3) := by decide +kernel
theorem dX11_isGoodNow_149 : decode cX11_isGoodNow 149 = .ok (.iconst 0, 1) := by decide +kernel
theorem dX11_isGoodNow_150 : decode cX11_isGoodNow 150 = .ok (.istore_n 1, 1) := by decide +kernel
theorem dX11_isGoodNow_151 : decode cX11_isGoodNow 151 = .ok (.iinc 2 1, 3) := by decide +kernel
theorem dX11_isGoodNow_154 : decode cX11_isGoodNow 154 = .ok (.goto (-63), 3) := by decide +kernel
theorem dX11_isGoodNow_157 : decode cX11_isGoodNow 157 = .ok (.iload_n 1, 1) := by decide +kernel
theorem dX11_isGoodNow_158 : decode cX11_isGoodNow 158 = .ok (.ireturn, 1) := by decide +kernel
theorem dX11_isGood_0 : decode cX11_isGood 0 = .ok (.aload_n 0, 1) := by decide +kernel
theorem dX11_isGood_1 : decode cX11_isGood 1 = .ok (.lload_n 1, 1) := by decide +kernel
theorem dX11_isGood_2 : decode cX11_isGood 2 = .ok (.invokevirtual 229, 3) := by decide +kernel
theorem dX11_isGood_5 : decode cX11_isGood 5 = .ok (.aload_n 0, 1) := by decide +kernel
theorem dX11_isGood_6 : decode cX11_isGood 6 = .ok (.invokevirtual 233, 3) := by decide +kernel
theorem dX11_isGood_9 : decode cX11_isGood 9 = .ok (.ireturn, 1) := by decide +kernel
theorem dX11_apart_0 : decode cX11_apart 0 = .ok (.aload_n 0, 1) := by decide +kernel
theorem dX11_apart_1 : decode cX11_apart 1 = .ok (.iconst 0, 1) := by decide +kernel
theorem dX11_apart_2 : decode cX11_apart 2 = .ok (.putfield 57, 3) := by decide +kernel
theorem dX11_apart_5 : decode cX11_apart 5 = .ok (.iload_n 1, 1) := by decide +kernel
theorem dX11_apart_6 : decode cX11_apart 6 = .ok (.invokestatic 197, 3) := by decide +kernel
theorem dX11_apart_9 : decode cX11_apart 9 = .ok (.ifCond .eq 23, 3) := by decide +kernel
theorem dX11_apart_12 : decode cX11_apart 12 = .ok (.iload_n 2, 1) := by decide +kernel
theorem dX11_apart_13 : decode cX11_apart 13 = .ok (.i2l, 1) := by decide +kernel
theorem dX11_apart_14 : decode cX11_apart 14 = .ok (.ldc2_w 237, 3) := by decide +kernel
theorem dX11_apart_17 : decode cX11_apart 17 = .ok (.aload_n 0, 1) := by decide +kernel
theorem dX11_apart_18 : decode cX11_apart 18 = .ok (.getfield 19, 3) := by decide +kernel
theorem dX11_apart_21 : decode cX11_apart 21 = .ok (.iconst 0, 1) := by decide +kernel
theorem dX11_apart_22 : decode cX11_apart 22 = .ok (.iaload, 1) := by decide +kernel
theorem dX11_apart_23 : decode cX11_apart 23 = .ok (.iconst 1, 1) := by decide +kernel
theorem dX11_apart_24 : decode cX11_apart 24 = .ok (.isub, 1) := by decide +kernel
theorem dX11_apart_25 : decode cX11_apart 25 = .ok (.i2l, 1) := by decide +kernel
theorem dX11_apart_26 : decode cX11_apart 26 = .ok (.invokestatic 68, 3) := by decide +kernel
theorem dX11_apart_29 : decode cX11_apart 29 = .ok (.ifCond .ne 7, 3) := by decide +kernel
theorem dX11_apart_32 : decode cX11_apart 32 = .ok (.ldc2_w 78, 3) := by decide +kernel
theorem dX11_apart_35 : decode cX11_apart 35 = .ok (.lreturn, 1) := by decide +kernel
theorem dX11_apart_36 : decode cX11_apart 36 = .ok (.aload_n 0, 1) := by decide +kernel
theorem dX11_apart_37 : decode cX11_apart 37 = .ok (.getfield 25, 3) := by decide +kernel
theorem dX11_apart_40 : decode cX11_apart 40 = .ok (.iload_n 1, 1) := by decide +kernel
theorem dX11_apart_41 : decode cX11_apart 41 = .ok (.laload, 1) := by decide +kernel
theorem dX11_apart_42 : decode cX11_apart 42 = .ok (.lconst 0, 1) := by decide +kernel
theorem dX11_apart_43 : decode cX11_apart 43 = .ok (.lcmp, 1) := by decide +kernel
theorem dX11_apart_44 : decode cX11_apart 44 = .ok (.ifCond .ne 7, 3) := by decide +kernel
theorem dX11_apart_47 : decode cX11_apart 47 = .ok (.ldc2_w 239, 3) := by decide +kernel
theorem dX11_apart_50 : decode cX11_apart 50 = .ok (.lreturn, 1) := by decide +kernel
theorem dX11_apart_51 : decode cX11_apart 51 = .ok (.aload_n 0, 1) := by decide +kernel
theorem dX11_apart_52 : decode cX11_apart 52 = .ok (.aload_n 0, 1) := by decide +kernel
theorem dX11_apart_53 : decode cX11_apart 53 = .ok (.getfield 25, 3) := by decide +kernel
theorem dX11_apart_56 : decode cX11_apart 56 = .ok (.iload_n 1, 1) := by decide +kernel
theorem dX11_apart_57 : decode cX11_apart 57 = .ok (.laload, 1) := by decide +kernel
theorem dX11_apart_58 : decode cX11_apart 58 = .ok (.invokevirtual 229, 3) := by decide +kernel
theorem dX11_apart_61 : decode cX11_apart 61 = .ok (.iload_n 2, 1) := by decide +kernel
theorem dX11_apart_62 : decode cX11_apart 62 = .ok (.ifCond .lt 13, 3) := by decide +kernel
theorem dX11_apart_65 : decode cX11_apart 65 = .ok (.aload_n 0, 1) := by decide +kernel
theorem dX11_apart_66 : decode cX11_apart 66 = .ok (.getfield 32, 3) := by decide +kernel
theorem dX11_apart_69 : decode cX11_apart 69 = .ok (.iload_n 2, 1) := by decide +kernel
theorem dX11_apart_70 : decode cX11_apart 70 = .ok (.iaload, 1) := by decide +kernel
theorem dX11_apart_71 : decode cX11_apart 71 = .ok (.i2l, 1) := by decide +kernel
theorem dX11_apart_72 : decode cX11_apart 72 = .ok (.goto 27, 3) := by decide +kernel
theorem dX11_apart_75 : decode cX11_apart 75 = .ok (.iload_n 2, 1) := by decide +kernel
theorem dX11_apart_76 : decode cX11_apart 76 = .ok (.iconst (-1), 1) := by decide +kernel
theorem dX11_apart_77 : decode cX11_apart 77 = .ok (.if_icmp .ne 10, 3) := by decide +kernel
theorem dX11_apart_80 : decode cX11_apart 80 = .ok (.aload_n 0, 1) := by decide +kernel
theorem dX11_apart_81 : decode cX11_apart 81 = .ok (.getfield 219, 3) := by decide +kernel
theorem dX11_apart_84 : decode cX11_apart 84 = .ok (.goto 15, 3) := by decide +kernel
theorem dX11_apart_87 : decode cX11_apart 87 = .ok (.aload_n 0, 1) := by decide +kernel
theorem dX11_apart_88 : decode cX11_apart 88 = .ok (.invokevirtual 233, 3) := by decide +kernel
theorem dX11_apart_91 : decode cX11_apart 91 = .ok (.ifCond .eq 7, 3) := by decide +kernel
theorem dX11_apart_94 : decode cX11_apart 94 = .ok (.lconst 1, 1) := by decide +kernel
theorem dX11_apart_95 : decode cX11_apart 95 = .ok (.goto 4, 3) := by decide +kernel
theorem dX11_apart_98 : decode cX11_apart 98 = .ok (.lconst 0, 1) := by decide +kernel
theorem dX11_apart_99 : decode cX11_apart 99 = .ok (.lreturn, 1) := by decide +kernel
theorem dX11_shared_0 : decode cX11_shared 0 = .ok (.lload_n 0, 1) := by decide +kernel
theorem dX11_shared_1 : decode cX11_shared 1 = .ok (.lstore 4, 2) := by decide +kernel
theorem dX11_shared_3 : decode cX11_shared 3 = .ok (.lload_n 2, 1) := by decide +kernel
theorem dX11_shared_4 : decode cX11_shared 4 = .ok (.lstore 6, 2) := by decide +kernel
theorem dX11_shared_6 : decode cX11_shared 6 = .ok (.lload 6, 2) := by decide +kernel
theorem dX11_shared_8 : decode cX11_shared 8 = .ok (.lconst 0, 1) := by decide +kernel
theorem dX11_shared_9 : decode cX11_shared 9 = .ok (.lcmp, 1) := by decide +kernel
theorem dX11_shared_10 : decode cX11_shared 10 = .ok (.ifCond .eq 21, 3) := by decide +kernel
theorem dX11_shared_13 : decode cX11_shared 13 = .ok (.lload 4, 2) := by decide +kernel
theorem dX11_shared_15 : decode cX11_shared 15 = .ok (.lload 6, 2) := by decide +kernel
theorem dX11_shared_17 : decode cX11_shared 17 = .ok (.lrem, 1) := by decide +kernel
theorem dX11_shared_18 : decode cX11_shared 18 = .ok (.lstore 8, 2) := by decide +kernel
theorem dX11_shared_20 : decode cX11_shared 20 = .ok (.lload 6, 2) := by decide +kernel
theorem dX11_shared_22 : decode cX11_shared 22 = .ok (.lstore 4, 2) := by decide +kernel
theorem dX11_shared_24 : decode cX11_shared 24 = .ok (.lload 8, 2) := by decide +kernel
theorem dX11_shared_26 : decode cX11_shared 26 = .ok (.lstore 6, 2) := by decide +kernel
theorem dX11_shared_28 : decode cX11_shared 28 = .ok (.goto (-22), 3) := by decide +kernel
theorem dX11_shared_31 : decode cX11_shared 31 = .ok (.lload 4, 2) := by decide +kernel
theorem dX11_shared_33 : decode cX11_shared 33 = .ok (.lreturn, 1) := by decide +kernel
theorem dX11_both_0 : decode cX11_both 0 = .ok (.aload_n 0, 1) := by decide +kernel
theorem dX11_both_1 : decode cX11_both 1 = .ok (.iconst 0, 1) := by decide +kernel
theorem dX11_both_2 : decode cX11_both 2 = .ok (.putfield 57, 3) := by decide +kernel
theorem dX11_both_5 : decode cX11_both 5 = .ok (.iload_n 1, 1) := by decide +kernel
theorem dX11_both_6 : decode cX11_both 6 = .ok (.invokestatic 197, 3) := by decide +kernel
theorem dX11_both_9 : decode cX11_both 9 = .ok (.ifCond .eq 22, 3) := by decide +kernel
theorem dX11_both_12 : decode cX11_both 12 = .ok (.iload_n 2, 1) := by decide +kernel
theorem dX11_both_13 : decode cX11_both 13 = .ok (.invokestatic 197, 3) := by decide +kernel
theorem dX11_both_16 : decode cX11_both 16 = .ok (.ifCond .eq 15, 3) := by decide +kernel
theorem dX11_both_19 : decode cX11_both 19 = .ok (.iload_n 3, 1) := by decide +kernel
theorem dX11_both_20 : decode cX11_both 20 = .ok (.i2l, 1) := by decide +kernel
theorem dX11_both_21 : decode cX11_both 21 = .ok (.lconst 0, 1) := by decide +kernel
theorem dX11_both_22 : decode cX11_both 22 = .ok (.ldc2_w 76, 3) := by decide +kernel
theorem dX11_both_25 : decode cX11_both 25 = .ok (.invokestatic 68, 3) := by decide +kernel
theorem dX11_both_28 : decode cX11_both 28 = .ok (.ifCond .ne 7, 3) := by decide +kernel
theorem dX11_both_31 : decode cX11_both 31 = .ok (.ldc2_w 78, 3) := by decide +kernel
theorem dX11_both_34 : decode cX11_both 34 = .ok (.lreturn, 1) := by decide +kernel
theorem dX11_both_35 : decode cX11_both 35 = .ok (.aload_n 0, 1) := by decide +kernel
theorem dX11_both_36 : decode cX11_both 36 = .ok (.getfield 25, 3) := by decide +kernel
theorem dX11_both_39 : decode cX11_both 39 = .ok (.iload_n 1, 1) := by decide +kernel
theorem dX11_both_40 : decode cX11_both 40 = .ok (.laload, 1) := by decide +kernel
theorem dX11_both_41 : decode cX11_both 41 = .ok (.lconst 0, 1) := by decide +kernel
theorem dX11_both_42 : decode cX11_both 42 = .ok (.lcmp, 1) := by decide +kernel
theorem dX11_both_43 : decode cX11_both 43 = .ok (.ifCond .eq 14, 3) := by decide +kernel
theorem dX11_both_46 : decode cX11_both 46 = .ok (.aload_n 0, 1) := by decide +kernel
theorem dX11_both_47 : decode cX11_both 47 = .ok (.getfield 25, 3) := by decide +kernel
theorem dX11_both_50 : decode cX11_both 50 = .ok (.iload_n 2, 1) := by decide +kernel
theorem dX11_both_51 : decode cX11_both 51 = .ok (.laload, 1) := by decide +kernel
theorem dX11_both_52 : decode cX11_both 52 = .ok (.lconst 0, 1) := by decide +kernel
theorem dX11_both_53 : decode cX11_both 53 = .ok (.lcmp, 1) := by decide +kernel
theorem dX11_both_54 : decode cX11_both 54 = .ok (.ifCond .ne 7, 3) := by decide +kernel
theorem dX11_both_57 : decode cX11_both 57 = .ok (.ldc2_w 239, 3) := by decide +kernel
theorem dX11_both_60 : decode cX11_both 60 = .ok (.lreturn, 1) := by decide +kernel
theorem dX11_both_61 : decode cX11_both 61 = .ok (.aload_n 0, 1) := by decide +kernel
theorem dX11_both_62 : decode cX11_both 62 = .ok (.getfield 25, 3) := by decide +kernel
theorem dX11_both_65 : decode cX11_both 65 = .ok (.iload_n 1, 1) := by decide +kernel
theorem dX11_both_66 : decode cX11_both 66 = .ok (.laload, 1) := by decide +kernel
theorem dX11_both_67 : decode cX11_both 67 = .ok (.aload_n 0, 1) := by decide +kernel
theorem dX11_both_68 : decode cX11_both 68 = .ok (.getfield 25, 3) := by decide +kernel
theorem dX11_both_71 : decode cX11_both 71 = .ok (.iload_n 2, 1) := by decide +kernel
theorem dX11_both_72 : decode cX11_both 72 = .ok (.laload, 1) := by decide +kernel
theorem dX11_both_73 : decode cX11_both 73 = .ok (.invokestatic 241, 3) := by decide +kernel
theorem dX11_both_76 : decode cX11_both 76 = .ok (.lstore 4, 2) := by decide +kernel
theorem dX11_both_78 : decode cX11_both 78 = .ok (.aload_n 0, 1) := by decide +kernel
theorem dX11_both_79 : decode cX11_both 79 = .ok (.getfield 25, 3) := by decide +kernel
theorem dX11_both_82 : decode cX11_both 82 = .ok (.iload_n 1, 1) := by decide +kernel
theorem dX11_both_83 : decode cX11_both 83 = .ok (.laload, 1) := by decide +kernel
theorem dX11_both_84 : decode cX11_both 84 = .ok (.aload_n 0, 1) := by decide +kernel
theorem dX11_both_85 : decode cX11_both 85 = .ok (.getfield 25, 3) := by decide +kernel
theorem dX11_both_88 : decode cX11_both 88 = .ok (.iload_n 2, 1) := by decide +kernel
theorem dX11_both_89 : decode cX11_both 89 = .ok (.laload, 1) := by decide +kernel
theorem dX11_both_90 : decode cX11_both 90 = .ok (.lload 4, 2) := by decide +kernel
theorem dX11_both_92 : decode cX11_both 92 = .ok (.ldiv, 1) := by decide +kernel
theorem dX11_both_93 : decode cX11_both 93 = .ok (.invokestatic 213, 3) := by decide +kernel
theorem dX11_both_96 : decode cX11_both 96 = .ok (.lstore 6, 2) := by decide +kernel
theorem dX11_both_98 : decode cX11_both 98 = .ok (.iload_n 3, 1) := by decide +kernel
theorem dX11_both_99 : decode cX11_both 99 = .ok (.ifCond .ne 8, 3) := by decide +kernel
theorem dX11_both_102 : decode cX11_both 102 = .ok (.lload 4, 2) := by decide +kernel
theorem dX11_both_104 : decode cX11_both 104 = .ok (.goto 35, 3) := by decide +kernel
theorem dX11_both_107 : decode cX11_both 107 = .ok (.iload_n 3, 1) := by decide +kernel
theorem dX11_both_108 : decode cX11_both 108 = .ok (.iconst 2, 1) := by decide +kernel
theorem dX11_both_109 : decode cX11_both 109 = .ok (.if_icmp .ne 15, 3) := by decide +kernel
theorem dX11_both_112 : decode cX11_both 112 = .ok (.aload_n 0, 1) := by decide +kernel
theorem dX11_both_113 : decode cX11_both 113 = .ok (.getfield 25, 3) := by decide +kernel
theorem dX11_both_116 : decode cX11_both 116 = .ok (.iload_n 1, 1) := by decide +kernel
theorem dX11_both_117 : decode cX11_both 117 = .ok (.laload, 1) := by decide +kernel
theorem dX11_both_118 : decode cX11_both 118 = .ok (.lload 4, 2) := by decide +kernel
theorem dX11_both_120 : decode cX11_both 120 = .ok (.ldiv, 1) := by decide +kernel
theorem dX11_both_121 : decode cX11_both 121 = .ok (.goto 18, 3) := by decide +kernel
theorem dX11_both_124 : decode cX11_both 124 = .ok (.lload 6, 2) := by decide +kernel
theorem dX11_both_126 : decode cX11_both 126 = .ok (.lconst 0, 1) := by decide +kernel
theorem dX11_both_127 : decode cX11_both 127 = .ok (.lcmp, 1) := by decide +kernel
theorem dX11_both_128 : decode cX11_both 128 = .ok (.ifCond .ne 9, 3) := by decide +kernel
theorem dX11_both_131 : decode cX11_both 131 = .ok (.ldc2_w 217, 3) := by decide +kernel
theorem dX11_both_134 : decode cX11_both 134 = .ok (.goto 5, 3) := by decide +kernel
theorem dX11_both_137 : decode cX11_both 137 = .ok (.lload 6, 2) := by decide +kernel
theorem dX11_both_139 : decode cX11_both 139 = .ok (.lreturn, 1) := by decide +kernel
theorem dX11_heardOf_0 : decode cX11_heardOf 0 = .ok (.lconst 1, 1) := by decide +kernel
theorem dX11_heardOf_1 : decode cX11_heardOf 1 = .ok (.lstore 4, 2) := by decide +kernel
theorem dX11_heardOf_3 : decode cX11_heardOf 3 = .ok (.lload 4, 2) := by decide +kernel
theorem dX11_heardOf_5 : decode cX11_heardOf 5 = .ok (.ldc2_w 244, 3) := by decide +kernel
theorem dX11_heardOf_8 : decode cX11_heardOf 8 = .ok (.lmul, 1) := by decide +kernel
theorem dX11_heardOf_9 : decode cX11_heardOf 9 = .ok (.lload_n 1, 1) := by decide +kernel
theorem dX11_heardOf_10 : decode cX11_heardOf 10 = .ok (.lcmp, 1) := by decide +kernel
theorem dX11_heardOf_11 : decode cX11_heardOf 11 = .ok (.ifCond .gt 14, 3) := by decide +kernel
theorem dX11_heardOf_14 : decode cX11_heardOf 14 = .ok (.lload 4, 2) := by decide +kernel
theorem dX11_heardOf_16 : decode cX11_heardOf 16 = .ok (.ldc2_w 244, 3) := by decide +kernel
theorem dX11_heardOf_19 : decode cX11_heardOf 19 = .ok (.lmul, 1) := by decide +kernel
theorem dX11_heardOf_20 : decode cX11_heardOf 20 = .ok (.lstore 4, 2) := by decide +kernel
theorem dX11_heardOf_22 : decode cX11_heardOf 22 = .ok (.goto (-19), 3) := by decide +kernel
theorem dX11_heardOf_25 : decode cX11_heardOf 25 = .ok (.iconst 0, 1) := by decide +kernel
theorem dX11_heardOf_26 : decode cX11_heardOf 26 = .ok (.istore 6, 2) := by decide +kernel
theorem dX11_heardOf_28 : decode cX11_heardOf 28 = .ok (.lload 4, 2) := by decide +kernel
theorem dX11_heardOf_30 : decode cX11_heardOf 30 = .ok (.lstore 7, 2) := by decide +kernel
theorem dX11_heardOf_32 : decode cX11_heardOf 32 = .ok (.lload 7, 2) := by decide +kernel
theorem dX11_heardOf_34 : decode cX11_heardOf 34 = .ok (.lconst 0, 1) := by decide +kernel
theorem dX11_heardOf_35 : decode cX11_heardOf 35 = .ok (.lcmp, 1) := by decide +kernel
theorem dX11_heardOf_36 : decode cX11_heardOf 36 = .ok (.ifCond .le 92, 3) := by decide +kernel
theorem dX11_heardOf_39 : decode cX11_heardOf 39 = .ok (.lload_n 1, 1) := by decide +kernel
theorem dX11_heardOf_40 : decode cX11_heardOf 40 = .ok (.lload 7, 2) := by decide +kernel
theorem dX11_heardOf_42 : decode cX11_heardOf 42 = .ok (.ldiv, 1) := by decide +kernel
theorem dX11_heardOf_43 : decode cX11_heardOf 43 = .ok (.ldc2_w 244, 3) := by decide +kernel
theorem dX11_heardOf_46 : decode cX11_heardOf 46 = .ok (.lrem, 1) := by decide +kernel
theorem dX11_heardOf_47 : decode cX11_heardOf 47 = .ok (.l2i, 1) := by decide +kernel
theorem dX11_heardOf_48 : decode cX11_heardOf 48 = .ok (.istore 9, 2) := by decide +kernel
theorem dX11_heardOf_50 : decode cX11_heardOf 50 = .ok (.lload 7, 2) := by decide +kernel
theorem dX11_heardOf_52 : decode cX11_heardOf 52 = .ok (.lload 4, 2) := by decide +kernel
theorem dX11_heardOf_54 : decode cX11_heardOf 54 = .ok (.lcmp, 1) := by decide +kernel
theorem dX11_heardOf_55 : decode cX11_heardOf 55 = .ok (.ifCond .ne 7, 3) := by decide +kernel
theorem dX11_heardOf_58 : decode cX11_heardOf 58 = .ok (.iconst 1, 1) := by decide +kernel
theorem dX11_heardOf_59 : decode cX11_heardOf 59 = .ok (.goto 4, 3) := by decide +kernel
theorem dX11_heardOf_62 : decode cX11_heardOf 62 = .ok (.iconst 0, 1) := by decide +kernel
theorem dX11_heardOf_63 : decode cX11_heardOf 63 = .ok (.istore 10, 2) := by decide +kernel
theorem dX11_heardOf_65 : decode cX11_heardOf 65 = .ok (.iload 10, 2) := by decide +kernel
theorem dX11_heardOf_67 : decode cX11_heardOf 67 = .ok (.iload 9, 2) := by decide +kernel
theorem dX11_heardOf_69 : decode cX11_heardOf 69 = .ok (.if_icmp .ge 48, 3) := by decide +kernel
theorem dX11_heardOf_72 : decode cX11_heardOf 72 = .ok (.aload_n 0, 1) := by decide +kernel
theorem dX11_heardOf_73 : decode cX11_heardOf 73 = .ok (.lload_n 1, 1) := by decide +kernel
theorem dX11_heardOf_74 : decode cX11_heardOf 74 = .ok (.iload 9, 2) := by decide +kernel
theorem dX11_heardOf_76 : decode cX11_heardOf 76 = .ok (.iload 10, 2) := by decide +kernel
theorem dX11_heardOf_78 : decode cX11_heardOf 78 = .ok (.isub, 1) := by decide +kernel
theorem dX11_heardOf_79 : decode cX11_heardOf 79 = .ok (.i2l, 1) := by decide +kernel
theorem dX11_heardOf_80 : decode cX11_heardOf 80 = .ok (.lload 7, 2) := by decide +kernel
theorem dX11_heardOf_82 : decode cX11_heardOf 82 = .ok (.lmul, 1) := by decide +kernel
theorem dX11_heardOf_83 : decode cX11_heardOf 83 = .ok (.lsub, 1) := by decide +kernel
theorem dX11_heardOf_84 : decode cX11_heardOf 84 = .ok (.invokevirtual 246, 3) := by decide +kernel
theorem dX11_heardOf_87 : decode cX11_heardOf 87 = .ok (.ifCond .eq 24, 3) := by decide +kernel
theorem dX11_heardOf_90 : decode cX11_heardOf 90 = .ok (.iload 6, 2) := by decide +kernel
theorem dX11_heardOf_92 : decode cX11_heardOf 92 = .ok (.iload_n 3, 1) := by decide +kernel
theorem dX11_heardOf_93 : decode cX11_heardOf 93 = .ok (.if_icmp .ne 15, 3) := by decide +kernel
theorem dX11_heardOf_96 : decode cX11_heardOf 96 = .ok (.lload_n 1, 1) := by decide +kernel
theorem dX11_heardOf_97 : decode cX11_heardOf 97 = .ok (.iload 9, 2) := by decide +kernel
theorem dX11_heardOf_99 : decode cX11_heardOf 99 = .ok (.iload 10, 2) := by decide +kernel
theorem dX11_heardOf_101 : decode cX11_heardOf 101 = .ok (.isub, 1) := by decide +kernel
theorem dX11_heardOf_102 : decode cX11_heardOf 102 = .ok (.i2l, 1) := by decide +kernel
theorem dX11_heardOf_103 : decode cX11_heardOf 103 = .ok (.lload 7, 2) := by decide +kernel
theorem dX11_heardOf_105 : decode cX11_heardOf 105 = .ok (.lmul, 1) := by decide +kernel
theorem dX11_heardOf_106 : decode cX11_heardOf 106 = .ok (.lsub, 1) := by decide +kernel
theorem dX11_heardOf_107 : decode cX11_heardOf 107 = .ok (.lreturn, 1) := by decide +kernel
theorem dX11_heardOf_108 : decode cX11_heardOf 108 = .ok (.iinc 6 1, 3) := by decide +kernel
theorem dX11_heardOf_111 : decode cX11_heardOf 111 = .ok (.iinc 10 1, 3) := by decide +kernel
theorem dX11_heardOf_114 : decode cX11_heardOf 114 = .ok (.goto (-49), 3) := by decide +kernel
theorem dX11_heardOf_117 : decode cX11_heardOf 117 = .ok (.lload 7, 2) := by decide +kernel
theorem dX11_heardOf_119 : decode cX11_heardOf 119 = .ok (.ldc2_w 244, 3) := by decide +kernel
theorem dX11_heardOf_122 : decode cX11_heardOf 122 = .ok (.ldiv, 1) := by decide +kernel
theorem dX11_heardOf_123 : decode cX11_heardOf 123 = .ok (.lstore 7, 2) := by decide +kernel
theorem dX11_heardOf_125 : decode cX11_heardOf 125 = .ok (.goto (-93), 3) := by decide +kernel
theorem dX11_heardOf_128 : decode cX11_heardOf 128 = .ok (.lconst 1, 1) := by decide +kernel
theorem dX11_heardOf_129 : decode cX11_heardOf 129 = .ok (.lstore 7, 2) := by decide +kernel
theorem dX11_heardOf_131 : decode cX11_heardOf 131 = .ok (.lload 7, 2) := by decide +kernel
theorem dX11_heardOf_133 : decode cX11_heardOf 133 = .ok (.lload 4, 2) := by decide +kernel
theorem dX11_heardOf_135 : decode cX11_heardOf 135 = .ok (.lcmp, 1) := by decide +kernel
theorem dX11_heardOf_136 : decode cX11_heardOf 136 = .ok (.ifCond .gt 86, 3) := by decide +kernel
theorem dX11_heardOf_139 : decode cX11_heardOf 139 = .ok (.lload_n 1, 1) := by decide +kernel
theorem dX11_heardOf_140 : decode cX11_heardOf 140 = .ok (.lload 7, 2) := by decide +kernel
theorem dX11_heardOf_142 : decode cX11_heardOf 142 = .ok (.ldiv, 1) := by decide +kernel
theorem dX11_heardOf_143 : decode cX11_heardOf 143 = .ok (.ldc2_w 244, 3) := by decide +kernel
theorem dX11_heardOf_146 : decode cX11_heardOf 146 = .ok (.lrem, 1) := by decide +kernel
theorem dX11_heardOf_147 : decode cX11_heardOf 147 = .ok (.l2i, 1) := by decide +kernel
theorem dX11_heardOf_148 : decode cX11_heardOf 148 = .ok (.istore 9, 2) := by decide +kernel
theorem dX11_heardOf_150 : decode cX11_heardOf 150 = .ok (.iload 9, 2) := by decide +kernel
theorem dX11_heardOf_152 : decode cX11_heardOf 152 = .ok (.iconst 1, 1) := by decide +kernel
theorem dX11_heardOf_153 : decode cX11_heardOf 153 = .ok (.iadd, 1) := by decide +kernel
theorem dX11_heardOf_154 : decode cX11_heardOf 154 = .ok (.istore 10, 2) := by decide +kernel
theorem dX11_heardOf_156 : decode cX11_heardOf 156 = .ok (.iload 10, 2) := by decide +kernel
theorem dX11_heardOf_158 : decode cX11_heardOf 158 = .ok (.bipush 10, 2) := by decide +kernel
theorem dX11_heardOf_160 : decode cX11_heardOf 160 = .ok (.if_icmp .ge 51, 3) := by decide +kernel
theorem dX11_heardOf_163 : decode cX11_heardOf 163 = .ok (.lload_n 1, 1) := by decide +kernel
theorem dX11_heardOf_164 : decode cX11_heardOf 164 = .ok (.iload 10, 2) := by decide +kernel
theorem dX11_heardOf_166 : decode cX11_heardOf 166 = .ok (.iload 9, 2) := by decide +kernel
theorem dX11_heardOf_168 : decode cX11_heardOf 168 = .ok (.isub, 1) := by decide +kernel
theorem dX11_heardOf_169 : decode cX11_heardOf 169 = .ok (.i2l, 1) := by decide +kernel
theorem dX11_heardOf_170 : decode cX11_heardOf 170 = .ok (.lload 7, 2) := by decide +kernel
theorem dX11_heardOf_172 : decode cX11_heardOf 172 = .ok (.lmul, 1) := by decide +kernel
theorem dX11_heardOf_173 : decode cX11_heardOf 173 = .ok (.ladd, 1) := by decide +kernel
theorem dX11_heardOf_174 : decode cX11_heardOf 174 = .ok (.lstore 11, 2) := by decide +kernel
theorem dX11_heardOf_176 : decode cX11_heardOf 176 = .ok (.lload 11, 2) := by decide +kernel
theorem dX11_heardOf_178 : decode cX11_heardOf 178 = .ok (.invokestatic 200, 3) := by decide +kernel
theorem dX11_heardOf_181 : decode cX11_heardOf 181 = .ok (.ifCond .eq 24, 3) := by decide +kernel
theorem dX11_heardOf_184 : decode cX11_heardOf 184 = .ok (.aload_n 0, 1) := by decide +kernel
theorem dX11_heardOf_185 : decode cX11_heardOf 185 = .ok (.lload 11, 2) := by decide +kernel
theorem dX11_heardOf_187 : decode cX11_heardOf 187 = .ok (.invokevirtual 246, 3) := by decide +kernel
theorem dX11_heardOf_190 : decode cX11_heardOf 190 = .ok (.ifCond .eq 15, 3) := by decide +kernel
theorem dX11_heardOf_193 : decode cX11_heardOf 193 = .ok (.iload 6, 2) := by decide +kernel
theorem dX11_heardOf_195 : decode cX11_heardOf 195 = .ok (.iload_n 3, 1) := by decide +kernel
theorem dX11_heardOf_196 : decode cX11_heardOf 196 = .ok (.if_icmp .ne 6, 3) := by decide +kernel
theorem dX11_heardOf_199 : decode cX11_heardOf 199 = .ok (.lload 11, 2) := by decide +kernel
theorem dX11_heardOf_201 : decode cX11_heardOf 201 = .ok (.lreturn, 1) := by decide +kernel
theorem dX11_heardOf_202 : decode cX11_heardOf 202 = .ok (.iinc 6 1, 3) := by decide +kernel
theorem dX11_heardOf_205 : decode cX11_heardOf 205 = .ok (.iinc 10 1, 3) := by decide +kernel
theorem dX11_heardOf_208 : decode cX11_heardOf 208 = .ok (.goto (-52), 3) := by decide +kernel
theorem dX11_heardOf_211 : decode cX11_heardOf 211 = .ok (.lload 7, 2) := by decide +kernel
theorem dX11_heardOf_213 : decode cX11_heardOf 213 = .ok (.ldc2_w 244, 3) := by decide +kernel
theorem dX11_heardOf_216 : decode cX11_heardOf 216 = .ok (.lmul, 1) := by decide +kernel
theorem dX11_heardOf_217 : decode cX11_heardOf 217 = .ok (.lstore 7, 2) := by decide +kernel
theorem dX11_heardOf_219 : decode cX11_heardOf 219 = .ok (.goto (-88), 3) := by decide +kernel
theorem dX11_heardOf_222 : decode cX11_heardOf 222 = .ok (.iload_n 3, 1) := by decide +kernel
theorem dX11_heardOf_223 : decode cX11_heardOf 223 = .ok (.ifCond .ge 9, 3) := by decide +kernel
theorem dX11_heardOf_226 : decode cX11_heardOf 226 = .ok (.iload 6, 2) := by decide +kernel
theorem dX11_heardOf_228 : decode cX11_heardOf 228 = .ok (.i2l, 1) := by decide +kernel
theorem dX11_heardOf_229 : decode cX11_heardOf 229 = .ok (.goto 6, 3) := by decide +kernel
theorem dX11_heardOf_232 : decode cX11_heardOf 232 = .ok (.ldc2_w 217, 3) := by decide +kernel
theorem dX11_heardOf_235 : decode cX11_heardOf 235 = .ok (.lreturn, 1) := by decide +kernel
theorem dX11_heard_0 : decode cX11_heard 0 = .ok (.aload_n 0, 1) := by decide +kernel
theorem dX11_heard_1 : decode cX11_heard 1 = .ok (.iconst 0, 1) := by decide +kernel
theorem dX11_heard_2 : decode cX11_heard 2 = .ok (.putfield 57, 3) := by decide +kernel
theorem dX11_heard_5 : decode cX11_heard 5 = .ok (.iload_n 1, 1) := by decide +kernel
theorem dX11_heard_6 : decode cX11_heard 6 = .ok (.invokestatic 197, 3) := by decide +kernel
theorem dX11_heard_9 : decode cX11_heard 9 = .ok (.ifCond .eq 8, 3) := by decide +kernel
theorem dX11_heard_12 : decode cX11_heard 12 = .ok (.iload_n 2, 1) := by decide +kernel
theorem dX11_heard_13 : decode cX11_heard 13 = .ok (.iconst (-1), 1) := by decide +kernel
theorem dX11_heard_14 : decode cX11_heard 14 = .ok (.if_icmp .ge 7, 3) := by decide +kernel
theorem dX11_heard_17 : decode cX11_heard 17 = .ok (.ldc2_w 78, 3) := by decide +kernel
theorem dX11_heard_20 : decode cX11_heard 20 = .ok (.lreturn, 1) := by decide +kernel
theorem dX11_heard_21 : decode cX11_heard 21 = .ok (.aload_n 0, 1) := by decide +kernel
theorem dX11_heard_22 : decode cX11_heard 22 = .ok (.getfield 25, 3) := by decide +kernel
theorem dX11_heard_25 : decode cX11_heard 25 = .ok (.iload_n 1, 1) := by decide +kernel
theorem dX11_heard_26 : decode cX11_heard 26 = .ok (.laload, 1) := by decide +kernel
theorem dX11_heard_27 : decode cX11_heard 27 = .ok (.lconst 0, 1) := by decide +kernel
theorem dX11_heard_28 : decode cX11_heard 28 = .ok (.lcmp, 1) := by decide +kernel
theorem dX11_heard_29 : decode cX11_heard 29 = .ok (.ifCond .ne 9, 3) := by decide +kernel
theorem dX11_heard_32 : decode cX11_heard 32 = .ok (.ldc2_w 239, 3) := by decide +kernel
theorem dX11_heard_35 : decode cX11_heard 35 = .ok (.goto 14, 3) := by decide +kernel
theorem dX11_heard_38 : decode cX11_heard 38 = .ok (.aload_n 0, 1) := by decide +kernel
theorem dX11_heard_39 : decode cX11_heard 39 = .ok (.aload_n 0, 1) := by decide +kernel
theorem dX11_heard_40 : decode cX11_heard 40 = .ok (.getfield 25, 3) := by decide +kernel
theorem dX11_heard_43 : decode cX11_heard 43 = .ok (.iload_n 1, 1) := by decide +kernel
theorem dX11_heard_44 : decode cX11_heard 44 = .ok (.laload, 1) := by decide +kernel
theorem dX11_heard_45 : decode cX11_heard 45 = .ok (.iload_n 2, 1) := by decide +kernel
theorem dX11_heard_46 : decode cX11_heard 46 = .ok (.invokevirtual 249, 3) := by decide +kernel
theorem dX11_heard_49 : decode cX11_heard 49 = .ok (.lreturn, 1) := by decide +kernel
theorem dX11_sumBy_0 : decode cX11_sumBy 0 = .ok (.lconst 0, 1) := by decide +kernel
theorem dX11_sumBy_1 : decode cX11_sumBy 1 = .ok (.lstore 4, 2) := by decide +kernel
theorem dX11_sumBy_3 : decode cX11_sumBy 3 = .ok (.iconst 0, 1) := by decide +kernel
theorem dX11_sumBy_4 : decode cX11_sumBy 4 = .ok (.istore 6, 2) := by decide +kernel
theorem dX11_sumBy_6 : decode cX11_sumBy 6 = .ok (.iload 6, 2) := by decide +kernel
theorem dX11_sumBy_8 : decode cX11_sumBy 8 = .ok (.iload_n 3, 1) := by decide +kernel
theorem dX11_sumBy_9 : decode cX11_sumBy 9 = .ok (.if_icmp .ge 95, 3) := by decide +kernel
theorem dX11_sumBy_12 : decode cX11_sumBy 12 = .ok (.lconst 1, 1) := by decide +kernel
theorem dX11_sumBy_13 : decode cX11_sumBy 13 = .ok (.lstore 7, 2) := by decide +kernel
theorem dX11_sumBy_15 : decode cX11_sumBy 15 = .ok (.iconst 0, 1) := by decide +kernel
theorem dX11_sumBy_16 : decode cX11_sumBy 16 = .ok (.istore 9, 2) := by decide +kernel
theorem dX11_sumBy_18 : decode cX11_sumBy 18 = .ok (.iload 9, 2) := by decide +kernel
theorem dX11_sumBy_20 : decode cX11_sumBy 20 = .ok (.iload_n 2, 1) := by decide +kernel
theorem dX11_sumBy_21 : decode cX11_sumBy 21 = .ok (.if_icmp .ge 61, 3) := by decide +kernel
theorem dX11_sumBy_24 : decode cX11_sumBy 24 = .ok (.iconst 0, 1) := by decide +kernel
theorem dX11_sumBy_25 : decode cX11_sumBy 25 = .ok (.istore 10, 2) := by decide +kernel
theorem dX11_sumBy_27 : decode cX11_sumBy 27 = .ok (.iload 10, 2) := by decide +kernel
theorem dX11_sumBy_29 : decode cX11_sumBy 29 = .ok (.aload_n 0, 1) := by decide +kernel
theorem dX11_sumBy_30 : decode cX11_sumBy 30 = .ok (.getfield 16, 3) := by decide +kernel
theorem dX11_sumBy_33 : decode cX11_sumBy 33 = .ok (.iload_n 1, 1) := by decide +kernel
theorem dX11_sumBy_34 : decode cX11_sumBy 34 = .ok (.iload_n 2, 1) := by decide +kernel
theorem dX11_sumBy_35 : decode cX11_sumBy 35 = .ok (.iload 6, 2) := by decide +kernel
theorem dX11_sumBy_37 : decode cX11_sumBy 37 = .ok (.imul, 1) := by decide +kernel
theorem dX11_sumBy_38 : decode cX11_sumBy 38 = .ok (.iadd, 1) := by decide +kernel
theorem dX11_sumBy_39 : decode cX11_sumBy 39 = .ok (.iload 9, 2) := by decide +kernel
theorem dX11_sumBy_41 : decode cX11_sumBy 41 = .ok (.iadd, 1) := by decide +kernel
theorem dX11_sumBy_42 : decode cX11_sumBy 42 = .ok (.iaload, 1) := by decide +kernel
theorem dX11_sumBy_43 : decode cX11_sumBy 43 = .ok (.if_icmp .ge 33, 3) := by decide +kernel
theorem dX11_sumBy_46 : decode cX11_sumBy 46 = .ok (.lload 7, 2) := by decide +kernel
theorem dX11_sumBy_48 : decode cX11_sumBy 48 = .ok (.aload_n 0, 1) := by decide +kernel
theorem dX11_sumBy_49 : decode cX11_sumBy 49 = .ok (.getfield 19, 3) := by decide +kernel
theorem dX11_sumBy_52 : decode cX11_sumBy 52 = .ok (.iconst 3, 1) := by decide +kernel
theorem dX11_sumBy_53 : decode cX11_sumBy 53 = .ok (.iconst 3, 1) := by decide +kernel
theorem dX11_sumBy_54 : decode cX11_sumBy 54 = .ok (.aload_n 0, 1) := by decide +kernel
theorem dX11_sumBy_55 : decode cX11_sumBy 55 = .ok (.getfield 35, 3) := by decide +kernel
theorem dX11_sumBy_58 : decode cX11_sumBy 58 = .ok (.iload 9, 2) := by decide +kernel
theorem dX11_sumBy_60 : decode cX11_sumBy 60 = .ok (.iaload, 1) := by decide +kernel
theorem dX11_sumBy_61 : decode cX11_sumBy 61 = .ok (.imul, 1) := by decide +kernel
theorem dX11_sumBy_62 : decode cX11_sumBy 62 = .ok (.iadd, 1) := by decide +kernel
theorem dX11_sumBy_63 : decode cX11_sumBy 63 = .ok (.iaload, 1) := by decide +kernel
theorem dX11_sumBy_64 : decode cX11_sumBy 64 = .ok (.i2l, 1) := by decide +kernel
theorem dX11_sumBy_65 : decode cX11_sumBy 65 = .ok (.invokestatic 213, 3) := by decide +kernel
theorem dX11_sumBy_68 : decode cX11_sumBy 68 = .ok (.lstore 7, 2) := by decide +kernel
theorem dX11_sumBy_70 : decode cX11_sumBy 70 = .ok (.iinc 10 1, 3) := by decide +kernel
theorem dX11_sumBy_73 : decode cX11_sumBy 73 = .ok (.goto (-46), 3) := by decide +kernel
theorem dX11_sumBy_76 : decode cX11_sumBy 76 = .ok (.iinc 9 1, 3) := by decide +kernel
theorem dX11_sumBy_79 : decode cX11_sumBy 79 = .ok (.goto (-61), 3) := by decide +kernel
theorem dX11_sumBy_82 : decode cX11_sumBy 82 = .ok (.lload 7, 2) := by decide +kernel
theorem dX11_sumBy_84 : decode cX11_sumBy 84 = .ok (.lconst 0, 1) := by decide +kernel
theorem dX11_sumBy_85 : decode cX11_sumBy 85 = .ok (.lcmp, 1) := by decide +kernel
theorem dX11_sumBy_86 : decode cX11_sumBy 86 = .ok (.ifCond .ne 5, 3) := by decide +kernel
theorem dX11_sumBy_89 : decode cX11_sumBy 89 = .ok (.lconst 0, 1) := by decide +kernel
theorem dX11_sumBy_90 : decode cX11_sumBy 90 = .ok (.lreturn, 1) := by decide +kernel
theorem dX11_sumBy_91 : decode cX11_sumBy 91 = .ok (.lload 4, 2) := by decide +kernel
theorem dX11_sumBy_93 : decode cX11_sumBy 93 = .ok (.lload 7, 2) := by decide +kernel
theorem dX11_sumBy_95 : decode cX11_sumBy 95 = .ok (.ladd, 1) := by decide +kernel
theorem dX11_sumBy_96 : decode cX11_sumBy 96 = .ok (.lstore 4, 2) := by decide +kernel
theorem dX11_sumBy_98 : decode cX11_sumBy 98 = .ok (.iinc 6 1, 3) := by decide +kernel
theorem dX11_sumBy_101 : decode cX11_sumBy 101 = .ok (.goto (-95), 3) := by decide +kernel
theorem dX11_sumBy_104 : decode cX11_sumBy 104 = .ok (.lload 4, 2) := by decide +kernel
theorem dX11_sumBy_106 : decode cX11_sumBy 106 = .ok (.lreturn, 1) := by decide +kernel
theorem dX11_isDealing_0 : decode cX11_isDealing 0 = .ok (.iconst 0, 1) := by decide +kernel
theorem dX11_isDealing_1 : decode cX11_isDealing 1 = .ok (.istore_n 2, 1) := by decide +kernel
theorem dX11_isDealing_2 : decode cX11_isDealing 2 = .ok (.iconst 0, 1) := by decide +kernel
theorem dX11_isDealing_3 : decode cX11_isDealing 3 = .ok (.istore_n 3, 1) := by decide +kernel
theorem dX11_isDealing_4 : decode cX11_isDealing 4 = .ok (.iload_n 3, 1) := by decide +kernel
theorem dX11_isDealing_5 : decode cX11_isDealing 5 = .ok (.iload_n 1, 1) := by decide +kernel
theorem dX11_isDealing_6 : decode cX11_isDealing 6 = .ok (.if_icmp .ge 20, 3) := by decide +kernel
theorem dX11_isDealing_9 : decode cX11_isDealing 9 = .ok (.iload_n 2, 1) := by decide +kernel
theorem dX11_isDealing_10 : decode cX11_isDealing 10 = .ok (.iconst 1, 1) := by decide +kernel
theorem dX11_isDealing_11 : decode cX11_isDealing 11 = .ok (.aload_n 0, 1) := by decide +kernel
theorem dX11_isDealing_12 : decode cX11_isDealing 12 = .ok (.getfield 35, 3) := by decide +kernel
theorem dX11_isDealing_15 : decode cX11_isDealing 15 = .ok (.iload_n 3, 1) := by decide +kernel
theorem dX11_isDealing_16 : decode cX11_isDealing 16 = .ok (.iaload, 1) := by decide +kernel
theorem dX11_isDealing_17 : decode cX11_isDealing 17 = .ok (.ishl, 1) := by decide +kernel
theorem dX11_isDealing_18 : decode cX11_isDealing 18 = .ok (.ior, 1) := by decide +kernel
theorem dX11_isDealing_19 : decode cX11_isDealing 19 = .ok (.istore_n 2, 1) := by decide +kernel
theorem dX11_isDealing_20 : decode cX11_isDealing 20 = .ok (.iinc 3 1, 3) := by decide +kernel
theorem dX11_isDealing_23 : decode cX11_isDealing 23 = .ok (.goto (-19), 3) := by decide +kernel
theorem dX11_isDealing_26 : decode cX11_isDealing 26 = .ok (.iload_n 2, 1) := by decide +kernel
theorem dX11_isDealing_27 : decode cX11_isDealing 27 = .ok (.iconst 1, 1) := by decide +kernel
theorem dX11_isDealing_28 : decode cX11_isDealing 28 = .ok (.iload_n 1, 1) := by decide +kernel
theorem dX11_isDealing_29 : decode cX11_isDealing 29 = .ok (.ishl, 1) := by decide +kernel
theorem dX11_isDealing_30 : decode cX11_isDealing 30 = .ok (.iconst 1, 1) := by decide +kernel
theorem dX11_isDealing_31 : decode cX11_isDealing 31 = .ok (.isub, 1) := by decide +kernel
theorem dX11_isDealing_32 : decode cX11_isDealing 32 = .ok (.if_icmp .ne 7, 3) := by decide +kernel
theorem dX11_isDealing_35 : decode cX11_isDealing 35 = .ok (.iconst 1, 1) := by decide +kernel
theorem dX11_isDealing_36 : decode cX11_isDealing 36 = .ok (.goto 4, 3) := by decide +kernel
theorem dX11_isDealing_39 : decode cX11_isDealing 39 = .ok (.iconst 0, 1) := by decide +kernel
theorem dX11_isDealing_40 : decode cX11_isDealing 40 = .ok (.ireturn, 1) := by decide +kernel
theorem dX11_deal_0 : decode cX11_deal 0 = .ok (.aload_n 0, 1) := by decide +kernel
theorem dX11_deal_1 : decode cX11_deal 1 = .ok (.iload_n 1, 1) := by decide +kernel
theorem dX11_deal_2 : decode cX11_deal 2 = .ok (.iload_n 2, 1) := by decide +kernel
theorem dX11_deal_3 : decode cX11_deal 3 = .ok (.iload_n 3, 1) := by decide +kernel
theorem dX11_deal_4 : decode cX11_deal 4 = .ok (.invokevirtual 253, 3) := by decide +kernel
theorem dX11_deal_7 : decode cX11_deal 7 = .ok (.lstore 4, 2) := by decide +kernel
theorem dX11_deal_9 : decode cX11_deal 9 = .ok (.lload 4, 2) := by decide +kernel
theorem dX11_deal_11 : decode cX11_deal 11 = .ok (.lconst 0, 1) := by decide +kernel
theorem dX11_deal_12 : decode cX11_deal 12 = .ok (.lcmp, 1) := by decide +kernel
theorem dX11_deal_13 : decode cX11_deal 13 = .ok (.ifCond .le 57, 3) := by decide +kernel
theorem dX11_deal_16 : decode cX11_deal 16 = .ok (.aload_n 0, 1) := by decide +kernel
theorem dX11_deal_17 : decode cX11_deal 17 = .ok (.getfield 257, 3) := by decide +kernel
theorem dX11_deal_20 : decode cX11_deal 20 = .ok (.lconst 0, 1) := by decide +kernel
theorem dX11_deal_21 : decode cX11_deal 21 = .ok (.lcmp, 1) := by decide +kernel
theorem dX11_deal_22 : decode cX11_deal 22 = .ok (.ifCond .eq 13, 3) := by decide +kernel
theorem dX11_deal_25 : decode cX11_deal 25 = .ok (.lload 4, 2) := by decide +kernel
theorem dX11_deal_27 : decode cX11_deal 27 = .ok (.aload_n 0, 1) := by decide +kernel
theorem dX11_deal_28 : decode cX11_deal 28 = .ok (.getfield 257, 3) := by decide +kernel
theorem dX11_deal_31 : decode cX11_deal 31 = .ok (.lcmp, 1) := by decide +kernel
theorem dX11_deal_32 : decode cX11_deal 32 = .ok (.ifCond .ge 38, 3) := by decide +kernel
theorem dX11_deal_35 : decode cX11_deal 35 = .ok (.aload_n 0, 1) := by decide +kernel
theorem dX11_deal_36 : decode cX11_deal 36 = .ok (.lload 4, 2) := by decide +kernel
theorem dX11_deal_38 : decode cX11_deal 38 = .ok (.putfield 257, 3) := by decide +kernel
theorem dX11_deal_41 : decode cX11_deal 41 = .ok (.iconst 0, 1) := by decide +kernel
theorem dX11_deal_42 : decode cX11_deal 42 = .ok (.istore 6, 2) := by decide +kernel
theorem dX11_deal_44 : decode cX11_deal 44 = .ok (.iload 6, 2) := by decide +kernel
theorem dX11_deal_46 : decode cX11_deal 46 = .ok (.iload_n 2, 1) := by decide +kernel
theorem dX11_deal_47 : decode cX11_deal 47 = .ok (.if_icmp .ge 23, 3) := by decide +kernel
theorem dX11_deal_50 : decode cX11_deal 50 = .ok (.aload_n 0, 1) := by decide +kernel
theorem dX11_deal_51 : decode cX11_deal 51 = .ok (.getfield 38, 3) := by decide +kernel
theorem dX11_deal_54 : decode cX11_deal 54 = .ok (.iload 6, 2) := by decide +kernel
theorem dX11_deal_56 : decode cX11_deal 56 = .ok (.aload_n 0, 1) := by decide +kernel
theorem dX11_deal_57 : decode cX11_deal 57 = .ok (.getfield 35, 3) := by decide +kernel
theorem dX11_deal_60 : decode cX11_deal 60 = .ok (.iload 6, 2) := by decide +kernel
theorem dX11_deal_62 : decode cX11_deal 62 = .ok (.iaload, 1) := by decide +kernel
theorem dX11_deal_63 : decode cX11_deal 63 = .ok (.iastore, 1) := by decide +kernel
theorem dX11_deal_64 : decode cX11_deal 64 = .ok (.iinc 6 1, 3) := by decide +kernel
theorem dX11_deal_67 : decode cX11_deal 67 = .ok (.goto (-23), 3) := by decide +kernel
theorem dX11_deal_70 : decode cX11_deal 70 = .ok (.return_, 1) := by decide +kernel
theorem dX11_dealt_0 : decode cX11_dealt 0 = .ok (.aload_n 0, 1) := by decide +kernel
theorem dX11_dealt_1 : decode cX11_dealt 1 = .ok (.iconst 0, 1) := by decide +kernel
theorem dX11_dealt_2 : decode cX11_dealt 2 = .ok (.putfield 57, 3) := by decide +kernel
theorem dX11_dealt_5 : decode cX11_dealt 5 = .ok (.iload_n 1, 1) := by decide +kernel
theorem dX11_dealt_6 : decode cX11_dealt 6 = .ok (.invokestatic 72, 3) := by decide +kernel
theorem dX11_dealt_9 : decode cX11_dealt 9 = .ok (.ifCond .eq 55, 3) := by decide +kernel
theorem dX11_dealt_12 : decode cX11_dealt 12 = .ok (.iload_n 2, 1) := by decide +kernel
theorem dX11_dealt_13 : decode cX11_dealt 13 = .ok (.i2l, 1) := by decide +kernel
theorem dX11_dealt_14 : decode cX11_dealt 14 = .ok (.ldc2_w 76, 3) := by decide +kernel
theorem dX11_dealt_17 : decode cX11_dealt 17 = .ok (.ldc2_w 260, 3) := by decide +kernel
theorem dX11_dealt_20 : decode cX11_dealt 20 = .ok (.invokestatic 68, 3) := by decide +kernel
theorem dX11_dealt_23 : decode cX11_dealt 23 = .ok (.ifCond .eq 41, 3) := by decide +kernel
theorem dX11_dealt_26 : decode cX11_dealt 26 = .ok (.iload_n 2, 1) := by decide +kernel
theorem dX11_dealt_27 : decode cX11_dealt 27 = .ok (.aload_n 0, 1) := by decide +kernel
theorem dX11_dealt_28 : decode cX11_dealt 28 = .ok (.getfield 19, 3) := by decide +kernel
theorem dX11_dealt_31 : decode cX11_dealt 31 = .ok (.iconst 0, 1) := by decide +kernel
theorem dX11_dealt_32 : decode cX11_dealt 32 = .ok (.iaload, 1) := by decide +kernel
theorem dX11_dealt_33 : decode cX11_dealt 33 = .ok (.if_icmp .gt 31, 3) := by decide +kernel
theorem dX11_dealt_36 : decode cX11_dealt 36 = .ok (.iload_n 3, 1) := by decide +kernel
theorem dX11_dealt_37 : decode cX11_dealt 37 = .ok (.i2l, 1) := by decide +kernel
theorem dX11_dealt_38 : decode cX11_dealt 38 = .ok (.lconst 1, 1) := by decide +kernel
theorem dX11_dealt_39 : decode cX11_dealt 39 = .ok (.ldc2_w 166, 3) := by decide +kernel
theorem dX11_dealt_42 : decode cX11_dealt 42 = .ok (.invokestatic 68, 3) := by decide +kernel
theorem dX11_dealt_45 : decode cX11_dealt 45 = .ok (.ifCond .eq 19, 3) := by decide +kernel
theorem dX11_dealt_48 : decode cX11_dealt 48 = .ok (.iload 4, 2) := by decide +kernel
theorem dX11_dealt_50 : decode cX11_dealt 50 = .ok (.i2l, 1) := by decide +kernel
theorem dX11_dealt_51 : decode cX11_dealt 51 = .ok (.ldc2_w 262, 3) := by decide +kernel
theorem dX11_dealt_54 : decode cX11_dealt 54 = .ok (.iload_n 2, 1) := by decide +kernel
theorem dX11_dealt_55 : decode cX11_dealt 55 = .ok (.iconst 1, 1) := by decide +kernel
theorem dX11_dealt_56 : decode cX11_dealt 56 = .ok (.isub, 1) := by decide +kernel
theorem dX11_dealt_57 : decode cX11_dealt 57 = .ok (.i2l, 1) := by decide +kernel
theorem dX11_dealt_58 : decode cX11_dealt 58 = .ok (.invokestatic 68, 3) := by decide +kernel
theorem dX11_dealt_61 : decode cX11_dealt 61 = .ok (.ifCond .ne 7, 3) := by decide +kernel
theorem dX11_dealt_64 : decode cX11_dealt 64 = .ok (.ldc2_w 78, 3) := by decide +kernel
theorem dX11_dealt_67 : decode cX11_dealt 67 = .ok (.lreturn, 1) := by decide +kernel
theorem dX11_dealt_68 : decode cX11_dealt 68 = .ok (.aload_n 0, 1) := by decide +kernel
theorem dX11_dealt_69 : decode cX11_dealt 69 = .ok (.iload_n 1, 1) := by decide +kernel
theorem dX11_dealt_70 : decode cX11_dealt 70 = .ok (.iconst 0, 1) := by decide +kernel
theorem dX11_dealt_71 : decode cX11_dealt 71 = .ok (.iload_n 2, 1) := by decide +kernel
theorem dX11_dealt_72 : decode cX11_dealt 72 = .ok (.iload_n 3, 1) := by decide +kernel
theorem dX11_dealt_73 : decode cX11_dealt 73 = .ok (.imul, 1) := by decide +kernel
theorem dX11_dealt_74 : decode cX11_dealt 74 = .ok (.invokevirtual 206, 3) := by decide +kernel
theorem dX11_dealt_77 : decode cX11_dealt 77 = .ok (.istore 5, 2) := by decide +kernel
theorem dX11_dealt_79 : decode cX11_dealt 79 = .ok (.iload 5, 2) := by decide +kernel
theorem dX11_dealt_81 : decode cX11_dealt 81 = .ok (.ifCond .le 10, 3) := by decide +kernel
theorem dX11_dealt_84 : decode cX11_dealt 84 = .ok (.aload_n 0, 1) := by decide +kernel
theorem dX11_dealt_85 : decode cX11_dealt 85 = .ok (.iload 5, 2) := by decide +kernel
theorem dX11_dealt_87 : decode cX11_dealt 87 = .ok (.invokevirtual 80, 3) := by decide +kernel
theorem dX11_dealt_90 : decode cX11_dealt 90 = .ok (.lreturn, 1) := by decide +kernel
theorem dX11_dealt_91 : decode cX11_dealt 91 = .ok (.iconst 0, 1) := by decide +kernel
theorem dX11_dealt_92 : decode cX11_dealt 92 = .ok (.istore 6, 2) := by decide +kernel
theorem dX11_dealt_94 : decode cX11_dealt 94 = .ok (.iload 6, 2) := by decide +kernel
theorem dX11_dealt_96 : decode cX11_dealt 96 = .ok (.iload_n 2, 1) := by decide +kernel
theorem dX11_dealt_97 : decode cX11_dealt 97 = .ok (.iload_n 3, 1) := by decide +kernel
theorem dX11_dealt_98 : decode cX11_dealt 98 = .ok (.imul, 1) := by decide +kernel
theorem dX11_dealt_99 : decode cX11_dealt 99 = .ok (.if_icmp .ge 36, 3) := by decide +kernel
theorem dX11_dealt_102 : decode cX11_dealt 102 = .ok (.aload_n 0, 1) := by decide +kernel
theorem dX11_dealt_103 : decode cX11_dealt 103 = .ok (.getfield 16, 3) := by decide +kernel
theorem dX11_dealt_106 : decode cX11_dealt 106 = .ok (.bipush 40, 2) := by decide +kernel
theorem dX11_dealt_108 : decode cX11_dealt 108 = .ok (.iload_n 1, 1) := by decide +kernel
theorem dX11_dealt_109 : decode cX11_dealt 109 = .ok (.imul, 1) := by decide +kernel
theorem dX11_dealt_110 : decode cX11_dealt 110 = .ok (.iload 6, 2) := by decide +kernel
theorem dX11_dealt_112 : decode cX11_dealt 112 = .ok (.iadd, 1) := by decide +kernel
theorem dX11_dealt_113 : decode cX11_dealt 113 = .ok (.iaload, 1) := by decide +kernel
theorem dX11_dealt_114 : decode cX11_dealt 114 = .ok (.i2l, 1) := by decide +kernel
theorem dX11_dealt_115 : decode cX11_dealt 115 = .ok (.lconst 0, 1) := by decide +kernel
theorem dX11_dealt_116 : decode cX11_dealt 116 = .ok (.ldc2_w 264, 3) := by decide +kernel
theorem dX11_dealt_119 : decode cX11_dealt 119 = .ok (.invokestatic 68, 3) := by decide +kernel
theorem dX11_dealt_122 : decode cX11_dealt 122 = .ok (.ifCond .ne 7, 3) := by decide +kernel
theorem dX11_dealt_125 : decode cX11_dealt 125 = .ok (.ldc2_w 78, 3) := by decide +kernel
theorem dX11_dealt_128 : decode cX11_dealt 128 = .ok (.lreturn, 1) := by decide +kernel
theorem dX11_dealt_129 : decode cX11_dealt 129 = .ok (.iinc 6 1, 3) := by decide +kernel
theorem dX11_dealt_132 : decode cX11_dealt 132 = .ok (.goto (-38), 3) := by decide +kernel
theorem dX11_dealt_135 : decode cX11_dealt 135 = .ok (.aload_n 0, 1) := by decide +kernel
theorem dX11_dealt_136 : decode cX11_dealt 136 = .ok (.iconst 0, 1) := by decide +kernel
theorem dX11_dealt_137 : decode cX11_dealt 137 = .ok (.putfield 61, 3) := by decide +kernel
theorem dX11_dealt_140 : decode cX11_dealt 140 = .ok (.aload_n 0, 1) := by decide +kernel
theorem dX11_dealt_141 : decode cX11_dealt 141 = .ok (.lconst 0, 1) := by decide +kernel
theorem dX11_dealt_142 : decode cX11_dealt 142 = .ok (.putfield 257, 3) := by decide +kernel
theorem dX11_dealt_145 : decode cX11_dealt 145 = .ok (.iconst 1, 1) := by decide +kernel
theorem dX11_dealt_146 : decode cX11_dealt 146 = .ok (.istore 6, 2) := by decide +kernel
theorem dX11_dealt_148 : decode cX11_dealt 148 = .ok (.iconst 0, 1) := by decide +kernel
theorem dX11_dealt_149 : decode cX11_dealt 149 = .ok (.istore 7, 2) := by decide +kernel
theorem dX11_dealt_151 : decode cX11_dealt 151 = .ok (.iload 7, 2) := by decide +kernel
theorem dX11_dealt_153 : decode cX11_dealt 153 = .ok (.iload_n 2, 1) := by decide +kernel
theorem dX11_dealt_154 : decode cX11_dealt 154 = .ok (.if_icmp .ge 15, 3) := by decide +kernel
theorem dX11_dealt_157 : decode cX11_dealt 157 = .ok (.iload 6, 2) := by decide +kernel
theorem dX11_dealt_159 : decode cX11_dealt 159 = .ok (.iload_n 2, 1) := by decide +kernel
theorem dX11_dealt_160 : decode cX11_dealt 160 = .ok (.imul, 1) := by decide +kernel
theorem dX11_dealt_161 : decode cX11_dealt 161 = .ok (.istore 6, 2) := by decide +kernel
theorem dX11_dealt_163 : decode cX11_dealt 163 = .ok (.iinc 7 1, 3) := by decide +kernel
theorem dX11_dealt_166 : decode cX11_dealt 166 = .ok (.goto (-15), 3) := by decide +kernel
theorem dX11_dealt_169 : decode cX11_dealt 169 = .ok (.iconst 0, 1) := by decide +kernel
theorem dX11_dealt_170 : decode cX11_dealt 170 = .ok (.istore 7, 2) := by decide +kernel
theorem dX11_dealt_172 : decode cX11_dealt 172 = .ok (.iload 7, 2) := by decide +kernel
theorem dX11_dealt_174 : decode cX11_dealt 174 = .ok (.iload 6, 2) := by decide +kernel
theorem dX11_dealt_176 : decode cX11_dealt 176 = .ok (.if_icmp .ge 64, 3) := by decide +kernel
theorem dX11_dealt_179 : decode cX11_dealt 179 = .ok (.iload 7, 2) := by decide +kernel
theorem dX11_dealt_181 : decode cX11_dealt 181 = .ok (.istore 8, 2) := by decide +kernel
theorem dX11_dealt_183 : decode cX11_dealt 183 = .ok (.iload_n 2, 1) := by decide +kernel
theorem dX11_dealt_184 : decode cX11_dealt 184 = .ok (.iconst 1, 1) := by decide +kernel
theorem dX11_dealt_185 : decode cX11_dealt 185 = .ok (.isub, 1) := by decide +kernel
theorem dX11_dealt_186 : decode cX11_dealt 186 = .ok (.istore 9, 2) := by decide +kernel
theorem dX11_dealt_188 : decode cX11_dealt 188 = .ok (.iload 9, 2) := by decide +kernel
theorem dX11_dealt_190 : decode cX11_dealt 190 = .ok (.ifCond .lt 26, 3) := by decide +kernel
theorem dX11_dealt_193 : decode cX11_dealt 193 = .ok (.aload_n 0, 1) := by decide +kernel
theorem dX11_dealt_194 : decode cX11_dealt 194 = .ok (.getfield 35, 3) := by decide +kernel
theorem dX11_dealt_197 : decode cX11_dealt 197 = .ok (.iload 9, 2) := by decide +kernel
theorem dX11_dealt_199 : decode cX11_dealt 199 = .ok (.iload 8, 2) := by decide +kernel
theorem dX11_dealt_201 : decode cX11_dealt 201 = .ok (.iload_n 2, 1) := by decide +kernel
theorem dX11_dealt_202 : decode cX11_dealt 202 = .ok (.irem, 1) := by decide +kernel
theorem dX11_dealt_203 : decode cX11_dealt 203 = .ok (.iastore, 1) := by decide +kernel
theorem dX11_dealt_204 : decode cX11_dealt 204 = .ok (.iload 8, 2) := by decide +kernel
theorem dX11_dealt_206 : decode cX11_dealt 206 = .ok (.iload_n 2, 1) := by decide +kernel
theorem dX11_dealt_207 : decode cX11_dealt 207 = .ok (.idiv, 1) := by decide +kernel
theorem dX11_dealt_208 : decode cX11_dealt 208 = .ok (.istore 8, 2) := by decide +kernel
theorem dX11_dealt_210 : decode cX11_dealt 210 = .ok (.iinc 9 (-1), 3) := by decide +kernel
theorem dX11_dealt_213 : decode cX11_dealt 213 = .ok (.goto (-25), 3) := by decide +kernel
theorem dX11_dealt_216 : decode cX11_dealt 216 = .ok (.aload_n 0, 1) := by decide +kernel
theorem dX11_dealt_217 : decode cX11_dealt 217 = .ok (.iload_n 2, 1) := by decide +kernel
theorem dX11_dealt_218 : decode cX11_dealt 218 = .ok (.invokevirtual 266, 3) := by decide +kernel
theorem dX11_dealt_221 : decode cX11_dealt 221 = .ok (.ifCond .eq 13, 3) := by decide +kernel
theorem dX11_dealt_224 : decode cX11_dealt 224 = .ok (.aload_n 0, 1) := by decide +kernel
theorem dX11_dealt_225 : decode cX11_dealt 225 = .ok (.bipush 40, 2) := by decide +kernel
theorem dX11_dealt_227 : decode cX11_dealt 227 = .ok (.iload_n 1, 1) := by decide +kernel
theorem dX11_dealt_228 : decode cX11_dealt 228 = .ok (.imul, 1) := by decide +kernel
theorem dX11_dealt_229 : decode cX11_dealt 229 = .ok (.iload_n 2, 1) := by decide +kernel
theorem dX11_dealt_230 : decode cX11_dealt 230 = .ok (.iload_n 3, 1) := by decide +kernel
theorem dX11_dealt_231 : decode cX11_dealt 231 = .ok (.invokevirtual 269, 3) := by decide +kernel
theorem dX11_dealt_234 : decode cX11_dealt 234 = .ok (.iinc 7 1, 3) := by decide +kernel
theorem dX11_dealt_237 : decode cX11_dealt 237 = .ok (.goto (-65), 3) := by decide +kernel
theorem dX11_dealt_240 : decode cX11_dealt 240 = .ok (.aload_n 0, 1) := by decide +kernel
theorem dX11_dealt_241 : decode cX11_dealt 241 = .ok (.getfield 257, 3) := by decide +kernel
theorem dX11_dealt_244 : decode cX11_dealt 244 = .ok (.lconst 0, 1) := by decide +kernel
theorem dX11_dealt_245 : decode cX11_dealt 245 = .ok (.lcmp, 1) := by decide +kernel
theorem dX11_dealt_246 : decode cX11_dealt 246 = .ok (.ifCond .ne 9, 3) := by decide +kernel
theorem dX11_dealt_249 : decode cX11_dealt 249 = .ok (.ldc2_w 217, 3) := by decide +kernel
theorem dX11_dealt_252 : decode cX11_dealt 252 = .ok (.goto 23, 3) := by decide +kernel
theorem dX11_dealt_255 : decode cX11_dealt 255 = .ok (.iload 4, 2) := by decide +kernel
theorem dX11_dealt_257 : decode cX11_dealt 257 = .ok (.ifCond .ge 10, 3) := by decide +kernel
theorem dX11_dealt_260 : decode cX11_dealt 260 = .ok (.aload_n 0, 1) := by decide +kernel
theorem dX11_dealt_261 : decode cX11_dealt 261 = .ok (.getfield 257, 3) := by decide +kernel
theorem dX11_dealt_264 : decode cX11_dealt 264 = .ok (.goto 11, 3) := by decide +kernel
theorem dX11_dealt_267 : decode cX11_dealt 267 = .ok (.aload_n 0, 1) := by decide +kernel
theorem dX11_dealt_268 : decode cX11_dealt 268 = .ok (.getfield 38, 3) := by decide +kernel
theorem dX11_dealt_271 : decode cX11_dealt 271 = .ok (.iload 4, 2) := by decide +kernel
theorem dX11_dealt_273 : decode cX11_dealt 273 = .ok (.iaload, 1) := by decide +kernel
theorem dX11_dealt_274 : decode cX11_dealt 274 = .ok (.i2l, 1) := by decide +kernel
theorem dX11_dealt_275 : decode cX11_dealt 275 = .ok (.lreturn, 1) := by decide +kernel
theorem dX11_bits_0 : decode cX11_bits 0 = .ok (.iconst 0, 1) := by decide +kernel
theorem dX11_bits_1 : decode cX11_bits 1 = .ok (.istore_n 1, 1) := by decide +kernel
theorem dX11_bits_2 : decode cX11_bits 2 = .ok (.iconst 0, 1) := by decide +kernel
theorem dX11_bits_3 : decode cX11_bits 3 = .ok (.istore_n 2, 1) := by decide +kernel
theorem dX11_bits_4 : decode cX11_bits 4 = .ok (.iload_n 2, 1) := by decide +kernel
theorem dX11_bits_5 : decode cX11_bits 5 = .ok (.bipush 8, 2) := by decide +kernel
theorem dX11_bits_7 : decode cX11_bits 7 = .ok (.if_icmp .ge 17, 3) := by decide +kernel
theorem dX11_bits_10 : decode cX11_bits 10 = .ok (.iload_n 1, 1) := by decide +kernel
theorem dX11_bits_11 : decode cX11_bits 11 = .ok (.iload_n 0, 1) := by decide +kernel
theorem dX11_bits_12 : decode cX11_bits 12 = .ok (.iload_n 2, 1) := by decide +kernel
theorem dX11_bits_13 : decode cX11_bits 13 = .ok (.ishr, 1) := by decide +kernel
theorem dX11_bits_14 : decode cX11_bits 14 = .ok (.iconst 1, 1) := by decide +kernel
theorem dX11_bits_15 : decode cX11_bits 15 = .ok (.iand, 1) := by decide +kernel
theorem dX11_bits_16 : decode cX11_bits 16 = .ok (.iadd, 1) := by decide +kernel
theorem dX11_bits_17 : decode cX11_bits 17 = .ok (.istore_n 1, 1) := by decide +kernel
theorem dX11_bits_18 : decode cX11_bits 18 = .ok (.iinc 2 1, 3) := by decide +kernel
theorem dX11_bits_21 : decode cX11_bits 21 = .ok (.goto (-17), 3) := by decide +kernel
theorem dX11_bits_24 : decode cX11_bits 24 = .ok (.iload_n 1, 1) := by decide +kernel
theorem dX11_bits_25 : decode cX11_bits 25 = .ok (.ireturn, 1) := by decide +kernel
theorem dX11_doKnow_0 : decode cX11_doKnow 0 = .ok (.lconst 1, 1) := by decide +kernel
theorem dX11_doKnow_1 : decode cX11_doKnow 1 = .ok (.lstore 4, 2) := by decide +kernel
theorem dX11_doKnow_3 : decode cX11_doKnow 3 = .ok (.iconst 0, 1) := by decide +kernel
theorem dX11_doKnow_4 : decode cX11_doKnow 4 = .ok (.istore 6, 2) := by decide +kernel
theorem dX11_doKnow_6 : decode cX11_doKnow 6 = .ok (.iload 6, 2) := by decide +kernel
theorem dX11_doKnow_8 : decode cX11_doKnow 8 = .ok (.bipush 8, 2) := by decide +kernel
theorem dX11_doKnow_10 : decode cX11_doKnow 10 = .ok (.if_icmp .ge 47, 3) := by decide +kernel
theorem dX11_doKnow_13 : decode cX11_doKnow 13 = .ok (.iload_n 3, 1) := by decide +kernel
theorem dX11_doKnow_14 : decode cX11_doKnow 14 = .ok (.iload 6, 2) := by decide +kernel
theorem dX11_doKnow_16 : decode cX11_doKnow 16 = .ok (.ishr, 1) := by decide +kernel
theorem dX11_doKnow_17 : decode cX11_doKnow 17 = .ok (.iconst 1, 1) := by decide +kernel
theorem dX11_doKnow_18 : decode cX11_doKnow 18 = .ok (.iand, 1) := by decide +kernel
theorem dX11_doKnow_19 : decode cX11_doKnow 19 = .ok (.iconst 1, 1) := by decide +kernel
theorem dX11_doKnow_20 : decode cX11_doKnow 20 = .ok (.if_icmp .ne 31, 3) := by decide +kernel
theorem dX11_doKnow_23 : decode cX11_doKnow 23 = .ok (.lload_n 1, 1) := by decide +kernel
theorem dX11_doKnow_24 : decode cX11_doKnow 24 = .ok (.aload_n 0, 1) := by decide +kernel
theorem dX11_doKnow_25 : decode cX11_doKnow 25 = .ok (.getfield 25, 3) := by decide +kernel
theorem dX11_doKnow_28 : decode cX11_doKnow 28 = .ok (.iload 6, 2) := by decide +kernel
theorem dX11_doKnow_30 : decode cX11_doKnow 30 = .ok (.laload, 1) := by decide +kernel
theorem dX11_doKnow_31 : decode cX11_doKnow 31 = .ok (.invokestatic 241, 3) := by decide +kernel
theorem dX11_doKnow_34 : decode cX11_doKnow 34 = .ok (.lstore 7, 2) := by decide +kernel
theorem dX11_doKnow_36 : decode cX11_doKnow 36 = .ok (.lload 4, 2) := by decide +kernel
theorem dX11_doKnow_38 : decode cX11_doKnow 38 = .ok (.lload 7, 2) := by decide +kernel
theorem dX11_doKnow_40 : decode cX11_doKnow 40 = .ok (.lload 4, 2) := by decide +kernel
theorem dX11_doKnow_42 : decode cX11_doKnow 42 = .ok (.lload 7, 2) := by decide +kernel
theorem dX11_doKnow_44 : decode cX11_doKnow 44 = .ok (.invokestatic 241, 3) := by decide +kernel
theorem dX11_doKnow_47 : decode cX11_doKnow 47 = .ok (.ldiv, 1) := by decide +kernel
theorem dX11_doKnow_48 : decode cX11_doKnow 48 = .ok (.lmul, 1) := by decide +kernel
theorem dX11_doKnow_49 : decode cX11_doKnow 49 = .ok (.lstore 4, 2) := by decide +kernel
theorem dX11_doKnow_51 : decode cX11_doKnow 51 = .ok (.iinc 6 1, 3) := by decide +kernel
theorem dX11_doKnow_54 : decode cX11_doKnow 54 = .ok (.goto (-48), 3) := by decide +kernel
theorem dX11_doKnow_57 : decode cX11_doKnow 57 = .ok (.lload 4, 2) := by decide +kernel
theorem dX11_doKnow_59 : decode cX11_doKnow 59 = .ok (.lload_n 1, 1) := by decide +kernel
theorem dX11_doKnow_60 : decode cX11_doKnow 60 = .ok (.lcmp, 1) := by decide +kernel
theorem dX11_doKnow_61 : decode cX11_doKnow 61 = .ok (.ifCond .ne 7, 3) := by decide +kernel
theorem dX11_doKnow_64 : decode cX11_doKnow 64 = .ok (.iconst 1, 1) := by decide +kernel
theorem dX11_doKnow_65 : decode cX11_doKnow 65 = .ok (.goto 4, 3) := by decide +kernel
theorem dX11_doKnow_68 : decode cX11_doKnow 68 = .ok (.iconst 0, 1) := by decide +kernel
theorem dX11_doKnow_69 : decode cX11_doKnow 69 = .ok (.ireturn, 1) := by decide +kernel
theorem dX11_secret_0 : decode cX11_secret 0 = .ok (.aload_n 0, 1) := by decide +kernel
theorem dX11_secret_1 : decode cX11_secret 1 = .ok (.iconst 0, 1) := by decide +kernel
theorem dX11_secret_2 : decode cX11_secret 2 = .ok (.putfield 57, 3) := by decide +kernel
theorem dX11_secret_5 : decode cX11_secret 5 = .ok (.iload_n 1, 1) := by decide +kernel
theorem dX11_secret_6 : decode cX11_secret 6 = .ok (.invokestatic 197, 3) := by decide +kernel
theorem dX11_secret_9 : decode cX11_secret 9 = .ok (.ifCond .eq 15, 3) := by decide +kernel
theorem dX11_secret_12 : decode cX11_secret 12 = .ok (.iload_n 2, 1) := by decide +kernel
theorem dX11_secret_13 : decode cX11_secret 13 = .ok (.i2l, 1) := by decide +kernel
theorem dX11_secret_14 : decode cX11_secret 14 = .ok (.lconst 0, 1) := by decide +kernel
theorem dX11_secret_15 : decode cX11_secret 15 = .ok (.ldc2_w 91, 3) := by decide +kernel
theorem dX11_secret_18 : decode cX11_secret 18 = .ok (.invokestatic 68, 3) := by decide +kernel
theorem dX11_secret_21 : decode cX11_secret 21 = .ok (.ifCond .ne 7, 3) := by decide +kernel
theorem dX11_secret_24 : decode cX11_secret 24 = .ok (.ldc2_w 78, 3) := by decide +kernel
theorem dX11_secret_27 : decode cX11_secret 27 = .ok (.lreturn, 1) := by decide +kernel
theorem dX11_secret_28 : decode cX11_secret 28 = .ok (.aload_n 0, 1) := by decide +kernel
theorem dX11_secret_29 : decode cX11_secret 29 = .ok (.getfield 25, 3) := by decide +kernel
theorem dX11_secret_32 : decode cX11_secret 32 = .ok (.iload_n 1, 1) := by decide +kernel
theorem dX11_secret_33 : decode cX11_secret 33 = .ok (.laload, 1) := by decide +kernel
theorem dX11_secret_34 : decode cX11_secret 34 = .ok (.lconst 0, 1) := by decide +kernel
theorem dX11_secret_35 : decode cX11_secret 35 = .ok (.lcmp, 1) := by decide +kernel
theorem dX11_secret_36 : decode cX11_secret 36 = .ok (.ifCond .ne 7, 3) := by decide +kernel
theorem dX11_secret_39 : decode cX11_secret 39 = .ok (.ldc2_w 239, 3) := by decide +kernel
theorem dX11_secret_42 : decode cX11_secret 42 = .ok (.lreturn, 1) := by decide +kernel
theorem dX11_secret_43 : decode cX11_secret 43 = .ok (.iconst 0, 1) := by decide +kernel
theorem dX11_secret_44 : decode cX11_secret 44 = .ok (.istore_n 3, 1) := by decide +kernel
theorem dX11_secret_45 : decode cX11_secret 45 = .ok (.iconst 0, 1) := by decide +kernel
theorem dX11_secret_46 : decode cX11_secret 46 = .ok (.istore 4, 2) := by decide +kernel
theorem dX11_secret_48 : decode cX11_secret 48 = .ok (.iload 4, 2) := by decide +kernel
theorem dX11_secret_50 : decode cX11_secret 50 = .ok (.bipush 8, 2) := by decide +kernel
theorem dX11_secret_52 : decode cX11_secret 52 = .ok (.if_icmp .ge 40, 3) := by decide +kernel
theorem dX11_secret_55 : decode cX11_secret 55 = .ok (.iload_n 3, 1) := by decide +kernel
theorem dX11_secret_56 : decode cX11_secret 56 = .ok (.iload 4, 2) := by decide +kernel
theorem dX11_secret_58 : decode cX11_secret 58 = .ok (.iload_n 1, 1) := by decide +kernel
theorem dX11_secret_59 : decode cX11_secret 59 = .ok (.if_icmp .eq 24, 3) := by decide +kernel
theorem dX11_secret_62 : decode cX11_secret 62 = .ok (.aload_n 0, 1) := by decide +kernel
theorem dX11_secret_63 : decode cX11_secret 63 = .ok (.getfield 25, 3) := by decide +kernel
theorem dX11_secret_66 : decode cX11_secret 66 = .ok (.iload 4, 2) := by decide +kernel
theorem dX11_secret_68 : decode cX11_secret 68 = .ok (.laload, 1) := by decide +kernel
theorem dX11_secret_69 : decode cX11_secret 69 = .ok (.lconst 0, 1) := by decide +kernel
theorem dX11_secret_70 : decode cX11_secret 70 = .ok (.lcmp, 1) := by decide +kernel
theorem dX11_secret_71 : decode cX11_secret 71 = .ok (.ifCond .le 12, 3) := by decide +kernel
theorem dX11_secret_74 : decode cX11_secret 74 = .ok (.iconst 1, 1) := by decide +kernel
theorem dX11_secret_75 : decode cX11_secret 75 = .ok (.iload 4, 2) := by decide +kernel
theorem dX11_secret_77 : decode cX11_secret 77 = .ok (.ishl, 1) := by decide +kernel
theorem dX11_secret_78 : decode cX11_secret 78 = .ok (.iload_n 2, 1) := by decide +kernel
theorem dX11_secret_79 : decode cX11_secret 79 = .ok (.iand, 1) := by decide +kernel
theorem dX11_secret_80 : decode cX11_secret 80 = .ok (.goto 4, 3) := by decide +kernel
theorem dX11_secret_83 : decode cX11_secret 83 = .ok (.iconst 0, 1) := by decide +kernel
theorem dX11_secret_84 : decode cX11_secret 84 = .ok (.ior, 1) := by decide +kernel
theorem dX11_secret_85 : decode cX11_secret 85 = .ok (.istore_n 3, 1) := by decide +kernel
theorem dX11_secret_86 : decode cX11_secret 86 = .ok (.iinc 4 1, 3) := by decide +kernel
theorem dX11_secret_89 : decode cX11_secret 89 = .ok (.goto (-41), 3) := by decide +kernel
theorem dX11_secret_92 : decode cX11_secret 92 = .ok (.ldc 96, 2) := by decide +kernel
theorem dX11_secret_94 : decode cX11_secret 94 = .ok (.istore 4, 2) := by decide +kernel
theorem dX11_secret_96 : decode cX11_secret 96 = .ok (.iconst 0, 1) := by decide +kernel
theorem dX11_secret_97 : decode cX11_secret 97 = .ok (.istore 5, 2) := by decide +kernel
theorem dX11_secret_99 : decode cX11_secret 99 = .ok (.iload 5, 2) := by decide +kernel
theorem dX11_secret_101 : decode cX11_secret 101 = .ok (.sipush 256, 3) := by decide +kernel
theorem dX11_secret_104 : decode cX11_secret 104 = .ok (.if_icmp .ge 74, 3) := by decide +kernel
theorem dX11_secret_107 : decode cX11_secret 107 = .ok (.iload 5, 2) := by decide +kernel
theorem dX11_secret_109 : decode cX11_secret 109 = .ok (.iload_n 3, 1) := by decide +kernel
theorem dX11_secret_110 : decode cX11_secret 110 = .ok (.iconst (-1), 1) := by decide +kernel
theorem dX11_secret_111 : decode cX11_secret 111 = .ok (.ixor, 1) := by decide +kernel
theorem dX11_secret_112 : decode cX11_secret 112 = .ok (.iand, 1) := by decide +kernel
theorem dX11_secret_113 : decode cX11_secret 113 = .ok (.ifCond .ne 42, 3) := by decide +kernel
theorem dX11_secret_116 : decode cX11_secret 116 = .ok (.iload 4, 2) := by decide +kernel
theorem dX11_secret_118 : decode cX11_secret 118 = .ok (.ldc 96, 2) := by decide +kernel
theorem dX11_secret_120 : decode cX11_secret 120 = .ok (.if_icmp .eq 16, 3) := by decide +kernel
theorem dX11_secret_123 : decode cX11_secret 123 = .ok (.iload 5, 2) := by decide +kernel
theorem dX11_secret_125 : decode cX11_secret 125 = .ok (.invokestatic 273, 3) := by decide +kernel
theorem dX11_secret_128 : decode cX11_secret 128 = .ok (.iload 4, 2) := by decide +kernel
theorem dX11_secret_130 : decode cX11_secret 130 = .ok (.invokestatic 273, 3) := by decide +kernel
theorem dX11_secret_133 : decode cX11_secret 133 = .ok (.if_icmp .ge 22, 3) := by decide +kernel
theorem dX11_secret_136 : decode cX11_secret 136 = .ok (.aload_n 0, 1) := by decide +kernel
theorem dX11_secret_137 : decode cX11_secret 137 = .ok (.aload_n 0, 1) := by decide +kernel
theorem dX11_secret_138 : decode cX11_secret 138 = .ok (.getfield 25, 3) := by decide +kernel
theorem dX11_secret_141 : decode cX11_secret 141 = .ok (.iload_n 1, 1) := by decide +kernel
theorem dX11_secret_142 : decode cX11_secret 142 = .ok (.laload, 1) := by decide +kernel
theorem dX11_secret_143 : decode cX11_secret 143 = .ok (.iload 5, 2) := by decide +kernel
theorem dX11_secret_145 : decode cX11_secret 145 = .ok (.invokevirtual 276, 3) := by decide +kernel
theorem dX11_secret_148 : decode cX11_secret 148 = .ok (.ifCond .eq 7, 3) := by decide +kernel
theorem dX11_secret_151 : decode cX11_secret 151 = .ok (.iconst 1, 1) := by decide +kernel
theorem dX11_secret_152 : decode cX11_secret 152 = .ok (.goto 4, 3) := by decide +kernel
theorem dX11_secret_155 : decode cX11_secret 155 = .ok (.iconst 0, 1) := by decide +kernel
theorem dX11_secret_156 : decode cX11_secret 156 = .ok (.istore 6, 2) := by decide +kernel
