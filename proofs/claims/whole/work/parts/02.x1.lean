theorem dX0_init_0 : decode cX0_init 0 = .ok (.aload_n 0, 1) := by decide +kernel
theorem dX0_init_1 : decode cX0_init 1 = .ok (.invokespecial 3, 3) := by decide +kernel
theorem dX0_init_4 : decode cX0_init 4 = .ok (.aload_n 0, 1) := by decide +kernel
theorem dX0_init_5 : decode cX0_init 5 = .ok (.bipush 16, 2) := by decide +kernel
theorem dX0_init_7 : decode cX0_init 7 = .ok (.newarray .int, 2) := by decide +kernel
theorem dX0_init_9 : decode cX0_init 9 = .ok (.putfield 9, 3) := by decide +kernel
theorem dX0_init_12 : decode cX0_init 12 = .ok (.return_, 1) := by decide +kernel
theorem dX0_begin_0 : decode cX0_begin 0 = .ok (.aload_n 0, 1) := by decide +kernel
theorem dX0_begin_1 : decode cX0_begin 1 = .ok (.iconst 0, 1) := by decide +kernel
theorem dX0_begin_2 : decode cX0_begin 2 = .ok (.putfield 15, 3) := by decide +kernel
theorem dX0_begin_5 : decode cX0_begin 5 = .ok (.aload_n 0, 1) := by decide +kernel
theorem dX0_begin_6 : decode cX0_begin 6 = .ok (.iload_n 1, 1) := by decide +kernel
theorem dX0_begin_7 : decode cX0_begin 7 = .ok (.putfield 19, 3) := by decide +kernel
theorem dX0_begin_10 : decode cX0_begin 10 = .ok (.aload_n 0, 1) := by decide +kernel
theorem dX0_begin_11 : decode cX0_begin 11 = .ok (.lload_n 2, 1) := by decide +kernel
theorem dX0_begin_12 : decode cX0_begin 12 = .ok (.putfield 22, 3) := by decide +kernel
theorem dX0_begin_15 : decode cX0_begin 15 = .ok (.aload_n 0, 1) := by decide +kernel
theorem dX0_begin_16 : decode cX0_begin 16 = .ok (.aload 4, 2) := by decide +kernel
theorem dX0_begin_18 : decode cX0_begin 18 = .ok (.getfield 26, 3) := by decide +kernel
theorem dX0_begin_21 : decode cX0_begin 21 = .ok (.putfield 31, 3) := by decide +kernel
theorem dX0_begin_24 : decode cX0_begin 24 = .ok (.aload_n 0, 1) := by decide +kernel
theorem dX0_begin_25 : decode cX0_begin 25 = .ok (.aload 4, 2) := by decide +kernel
theorem dX0_begin_27 : decode cX0_begin 27 = .ok (.invokevirtual 32, 3) := by decide +kernel
theorem dX0_begin_30 : decode cX0_begin 30 = .ok (.putfield 36, 3) := by decide +kernel
theorem dX0_begin_33 : decode cX0_begin 33 = .ok (.return_, 1) := by decide +kernel
theorem dX0_answer_0 : decode cX0_answer 0 = .ok (.aload_n 0, 1) := by decide +kernel
theorem dX0_answer_1 : decode cX0_answer 1 = .ok (.iload_n 1, 1) := by decide +kernel
theorem dX0_answer_2 : decode cX0_answer 2 = .ok (.iconst 0, 1) := by decide +kernel
theorem dX0_answer_3 : decode cX0_answer 3 = .ok (.invokevirtual 39, 3) := by decide +kernel
theorem dX0_answer_6 : decode cX0_answer 6 = .ok (.lreturn, 1) := by decide +kernel
theorem dX0_asked_0 : decode cX0_asked 0 = .ok (.aload_n 0, 1) := by decide +kernel
theorem dX0_asked_1 : decode cX0_asked 1 = .ok (.aload_n 0, 1) := by decide +kernel
theorem dX0_asked_2 : decode cX0_asked 2 = .ok (.iload_n 1, 1) := by decide +kernel
theorem dX0_asked_3 : decode cX0_asked 3 = .ok (.ifCond .ne 9, 3) := by decide +kernel
theorem dX0_asked_6 : decode cX0_asked 6 = .ok (.getstatic 43, 3) := by decide +kernel
theorem dX0_asked_9 : decode cX0_asked 9 = .ok (.goto 6, 3) := by decide +kernel
theorem dX0_asked_12 : decode cX0_asked 12 = .ok (.getstatic 46, 3) := by decide +kernel
theorem dX0_asked_15 : decode cX0_asked 15 = .ok (.invokevirtual 49, 3) := by decide +kernel
theorem dX0_asked_18 : decode cX0_asked 18 = .ok (.iload_n 2, 1) := by decide +kernel
theorem dX0_asked_19 : decode cX0_asked 19 = .ok (.invokevirtual 53, 3) := by decide +kernel
theorem dX0_asked_22 : decode cX0_asked 22 = .ok (.lreturn, 1) := by decide +kernel
theorem dX0_nearestBody_0 : decode cX0_nearestBody 0 = .ok (.aload_n 0, 1) := by decide +kernel
theorem dX0_nearestBody_1 : decode cX0_nearestBody 1 = .ok (.getfield 36, 3) := by decide +kernel
theorem dX0_nearestBody_4 : decode cX0_nearestBody 4 = .ok (.istore_n 2, 1) := by decide +kernel
theorem dX0_nearestBody_5 : decode cX0_nearestBody 5 = .ok (.iconst 0, 1) := by decide +kernel
theorem dX0_nearestBody_6 : decode cX0_nearestBody 6 = .ok (.istore_n 3, 1) := by decide +kernel
theorem dX0_nearestBody_7 : decode cX0_nearestBody 7 = .ok (.iload_n 3, 1) := by decide +kernel
theorem dX0_nearestBody_8 : decode cX0_nearestBody 8 = .ok (.bipush 6, 2) := by decide +kernel
theorem dX0_nearestBody_10 : decode cX0_nearestBody 10 = .ok (.if_icmp .ge 22, 3) := by decide +kernel
theorem dX0_nearestBody_13 : decode cX0_nearestBody 13 = .ok (.aload_n 1, 1) := by decide +kernel
theorem dX0_nearestBody_14 : decode cX0_nearestBody 14 = .ok (.iload_n 2, 1) := by decide +kernel
theorem dX0_nearestBody_15 : decode cX0_nearestBody 15 = .ok (.invokestatic 56, 3) := by decide +kernel
theorem dX0_nearestBody_18 : decode cX0_nearestBody 18 = .ok (.ifCond .ne 14, 3) := by decide +kernel
theorem dX0_nearestBody_21 : decode cX0_nearestBody 21 = .ok (.iload_n 2, 1) := by decide +kernel
theorem dX0_nearestBody_22 : decode cX0_nearestBody 22 = .ok (.invokestatic 60, 3) := by decide +kernel
theorem dX0_nearestBody_25 : decode cX0_nearestBody 25 = .ok (.istore_n 2, 1) := by decide +kernel
theorem dX0_nearestBody_26 : decode cX0_nearestBody 26 = .ok (.iinc 3 1, 3) := by decide +kernel
theorem dX0_nearestBody_29 : decode cX0_nearestBody 29 = .ok (.goto (-22), 3) := by decide +kernel
theorem dX0_nearestBody_32 : decode cX0_nearestBody 32 = .ok (.aload_n 1, 1) := by decide +kernel
theorem dX0_nearestBody_33 : decode cX0_nearestBody 33 = .ok (.iload_n 2, 1) := by decide +kernel
theorem dX0_nearestBody_34 : decode cX0_nearestBody 34 = .ok (.invokestatic 56, 3) := by decide +kernel
theorem dX0_nearestBody_37 : decode cX0_nearestBody 37 = .ok (.ireturn, 1) := by decide +kernel
theorem dX0_body_0 : decode cX0_body 0 = .ok (.iload_n 2, 1) := by decide +kernel
theorem dX0_body_1 : decode cX0_body 1 = .ok (.bipush 20, 2) := by decide +kernel
theorem dX0_body_3 : decode cX0_body 3 = .ok (.if_icmp .le 5, 3) := by decide +kernel
theorem dX0_body_6 : decode cX0_body 6 = .ok (.lconst 0, 1) := by decide +kernel
theorem dX0_body_7 : decode cX0_body 7 = .ok (.lreturn, 1) := by decide +kernel
theorem dX0_body_8 : decode cX0_body 8 = .ok (.aload_n 0, 1) := by decide +kernel
theorem dX0_body_9 : decode cX0_body 9 = .ok (.iload_n 1, 1) := by decide +kernel
theorem dX0_body_10 : decode cX0_body 10 = .ok (.invokevirtual 64, 3) := by decide +kernel
theorem dX0_body_13 : decode cX0_body 13 = .ok (.iload_n 2, 1) := by decide +kernel
theorem dX0_body_14 : decode cX0_body 14 = .ok (.iconst 1, 1) := by decide +kernel
theorem dX0_body_15 : decode cX0_body 15 = .ok (.iadd, 1) := by decide +kernel
theorem dX0_body_16 : decode cX0_body 16 = .ok (.istore_n 3, 1) := by decide +kernel
theorem dX0_body_17 : decode cX0_body 17 = .ok (.iload_n 1, 1) := by decide +kernel
theorem dX0_body_18 : decode cX0_body 18 = .ok (.tableswitch 191 10 24 #[74, 80, 95, 107, 116, 191, 191, 191, 191, 191, 125, 131, 152, 167, 179], 74) := by decide +kernel
theorem dX0_body_92 : decode cX0_body 92 = .ok (.aload_n 0, 1) := by decide +kernel
theorem dX0_body_93 : decode cX0_body 93 = .ok (.getfield 31, 3) := by decide +kernel
theorem dX0_body_96 : decode cX0_body 96 = .ok (.i2l, 1) := by decide +kernel
theorem dX0_body_97 : decode cX0_body 97 = .ok (.lreturn, 1) := by decide +kernel
theorem dX0_body_98 : decode cX0_body 98 = .ok (.aload_n 0, 1) := by decide +kernel
theorem dX0_body_99 : decode cX0_body 99 = .ok (.bipush 10, 2) := by decide +kernel
theorem dX0_body_101 : decode cX0_body 101 = .ok (.iload_n 3, 1) := by decide +kernel
theorem dX0_body_102 : decode cX0_body 102 = .ok (.invokevirtual 53, 3) := by decide +kernel
theorem dX0_body_105 : decode cX0_body 105 = .ok (.aload_n 0, 1) := by decide +kernel
theorem dX0_body_106 : decode cX0_body 106 = .ok (.iconst 1, 1) := by decide +kernel
theorem dX0_body_107 : decode cX0_body 107 = .ok (.iload_n 3, 1) := by decide +kernel
theorem dX0_body_108 : decode cX0_body 108 = .ok (.invokevirtual 39, 3) := by decide +kernel
theorem dX0_body_111 : decode cX0_body 111 = .ok (.ladd, 1) := by decide +kernel
theorem dX0_body_112 : decode cX0_body 112 = .ok (.lreturn, 1) := by decide +kernel
theorem dX0_body_113 : decode cX0_body 113 = .ok (.ldc2_w 68, 3) := by decide +kernel
theorem dX0_body_116 : decode cX0_body 116 = .ok (.aload_n 0, 1) := by decide +kernel
theorem dX0_body_117 : decode cX0_body 117 = .ok (.bipush 11, 2) := by decide +kernel
theorem dX0_body_119 : decode cX0_body 119 = .ok (.iload_n 3, 1) := by decide +kernel
theorem dX0_body_120 : decode cX0_body 120 = .ok (.invokevirtual 53, 3) := by decide +kernel
theorem dX0_body_123 : decode cX0_body 123 = .ok (.lmul, 1) := by decide +kernel
theorem dX0_body_124 : decode cX0_body 124 = .ok (.lreturn, 1) := by decide +kernel
theorem dX0_body_125 : decode cX0_body 125 = .ok (.aload_n 0, 1) := by decide +kernel
theorem dX0_body_126 : decode cX0_body 126 = .ok (.bipush 10, 2) := by decide +kernel
theorem dX0_body_128 : decode cX0_body 128 = .ok (.iload_n 3, 1) := by decide +kernel
theorem dX0_body_129 : decode cX0_body 129 = .ok (.invokevirtual 53, 3) := by decide +kernel
theorem dX0_body_132 : decode cX0_body 132 = .ok (.lneg, 1) := by decide +kernel
theorem dX0_body_133 : decode cX0_body 133 = .ok (.lreturn, 1) := by decide +kernel
theorem dX0_body_134 : decode cX0_body 134 = .ok (.aload_n 0, 1) := by decide +kernel
theorem dX0_body_135 : decode cX0_body 135 = .ok (.bipush 11, 2) := by decide +kernel
theorem dX0_body_137 : decode cX0_body 137 = .ok (.iload_n 3, 1) := by decide +kernel
theorem dX0_body_138 : decode cX0_body 138 = .ok (.invokevirtual 53, 3) := by decide +kernel
theorem dX0_body_141 : decode cX0_body 141 = .ok (.lneg, 1) := by decide +kernel
theorem dX0_body_142 : decode cX0_body 142 = .ok (.lreturn, 1) := by decide +kernel
theorem dX0_body_143 : decode cX0_body 143 = .ok (.aload_n 0, 1) := by decide +kernel
theorem dX0_body_144 : decode cX0_body 144 = .ok (.getfield 19, 3) := by decide +kernel
theorem dX0_body_147 : decode cX0_body 147 = .ok (.i2l, 1) := by decide +kernel
theorem dX0_body_148 : decode cX0_body 148 = .ok (.lreturn, 1) := by decide +kernel
theorem dX0_body_149 : decode cX0_body 149 = .ok (.aload_n 0, 1) := by decide +kernel
theorem dX0_body_150 : decode cX0_body 150 = .ok (.bipush 20, 2) := by decide +kernel
theorem dX0_body_152 : decode cX0_body 152 = .ok (.iload_n 3, 1) := by decide +kernel
theorem dX0_body_153 : decode cX0_body 153 = .ok (.invokevirtual 53, 3) := by decide +kernel
theorem dX0_body_156 : decode cX0_body 156 = .ok (.ldc2_w 70, 3) := by decide +kernel
theorem dX0_body_159 : decode cX0_body 159 = .ok (.aload_n 0, 1) := by decide +kernel
theorem dX0_body_160 : decode cX0_body 160 = .ok (.getfield 22, 3) := by decide +kernel
theorem dX0_body_163 : decode cX0_body 163 = .ok (.ldc2_w 72, 3) := by decide +kernel
theorem dX0_body_166 : decode cX0_body 166 = .ok (.lrem, 1) := by decide +kernel
theorem dX0_body_167 : decode cX0_body 167 = .ok (.lmul, 1) := by decide +kernel
theorem dX0_body_168 : decode cX0_body 168 = .ok (.ladd, 1) := by decide +kernel
theorem dX0_body_169 : decode cX0_body 169 = .ok (.lreturn, 1) := by decide +kernel
theorem dX0_body_170 : decode cX0_body 170 = .ok (.aload_n 0, 1) := by decide +kernel
theorem dX0_body_171 : decode cX0_body 171 = .ok (.bipush 24, 2) := by decide +kernel
theorem dX0_body_173 : decode cX0_body 173 = .ok (.iload_n 3, 1) := by decide +kernel
theorem dX0_body_174 : decode cX0_body 174 = .ok (.invokevirtual 53, 3) := by decide +kernel
theorem dX0_body_177 : decode cX0_body 177 = .ok (.aload_n 0, 1) := by decide +kernel
theorem dX0_body_178 : decode cX0_body 178 = .ok (.iconst 0, 1) := by decide +kernel
theorem dX0_body_179 : decode cX0_body 179 = .ok (.iload_n 3, 1) := by decide +kernel
theorem dX0_body_180 : decode cX0_body 180 = .ok (.invokevirtual 39, 3) := by decide +kernel
theorem dX0_body_183 : decode cX0_body 183 = .ok (.lsub, 1) := by decide +kernel
theorem dX0_body_184 : decode cX0_body 184 = .ok (.lreturn, 1) := by decide +kernel
theorem dX0_body_185 : decode cX0_body 185 = .ok (.aload_n 0, 1) := by decide +kernel
theorem dX0_body_186 : decode cX0_body 186 = .ok (.bipush 21, 2) := by decide +kernel
theorem dX0_body_188 : decode cX0_body 188 = .ok (.iload_n 3, 1) := by decide +kernel
theorem dX0_body_189 : decode cX0_body 189 = .ok (.invokevirtual 53, 3) := by decide +kernel
theorem dX0_body_192 : decode cX0_body 192 = .ok (.ldc2_w 74, 3) := by decide +kernel
theorem dX0_body_195 : decode cX0_body 195 = .ok (.ladd, 1) := by decide +kernel
theorem dX0_body_196 : decode cX0_body 196 = .ok (.lreturn, 1) := by decide +kernel
theorem dX0_body_197 : decode cX0_body 197 = .ok (.aload_n 0, 1) := by decide +kernel
theorem dX0_body_198 : decode cX0_body 198 = .ok (.bipush 20, 2) := by decide +kernel
theorem dX0_body_200 : decode cX0_body 200 = .ok (.iload_n 3, 1) := by decide +kernel
theorem dX0_body_201 : decode cX0_body 201 = .ok (.invokevirtual 53, 3) := by decide +kernel
theorem dX0_body_204 : decode cX0_body 204 = .ok (.ldc2_w 76, 3) := by decide +kernel
theorem dX0_body_207 : decode cX0_body 207 = .ok (.lsub, 1) := by decide +kernel
theorem dX0_body_208 : decode cX0_body 208 = .ok (.lreturn, 1) := by decide +kernel
theorem dX0_body_209 : decode cX0_body 209 = .ok (.lconst 0, 1) := by decide +kernel
theorem dX0_body_210 : decode cX0_body 210 = .ok (.lreturn, 1) := by decide +kernel
theorem dX0_leaveTrace_0 : decode cX0_leaveTrace 0 = .ok (.aload_n 0, 1) := by decide +kernel
theorem dX0_leaveTrace_1 : decode cX0_leaveTrace 1 = .ok (.getfield 15, 3) := by decide +kernel
theorem dX0_leaveTrace_4 : decode cX0_leaveTrace 4 = .ok (.aload_n 0, 1) := by decide +kernel
theorem dX0_leaveTrace_5 : decode cX0_leaveTrace 5 = .ok (.getfield 9, 3) := by decide +kernel
theorem dX0_leaveTrace_8 : decode cX0_leaveTrace 8 = .ok (.arraylength, 1) := by decide +kernel
theorem dX0_leaveTrace_9 : decode cX0_leaveTrace 9 = .ok (.if_icmp .ge 25, 3) := by decide +kernel
theorem dX0_leaveTrace_12 : decode cX0_leaveTrace 12 = .ok (.aload_n 0, 1) := by decide +kernel
theorem dX0_leaveTrace_13 : decode cX0_leaveTrace 13 = .ok (.getfield 9, 3) := by decide +kernel
theorem dX0_leaveTrace_16 : decode cX0_leaveTrace 16 = .ok (.aload_n 0, 1) := by decide +kernel
theorem dX0_leaveTrace_17 : decode cX0_leaveTrace 17 = .ok (.getfield 15, 3) := by decide +kernel
theorem dX0_leaveTrace_20 : decode cX0_leaveTrace 20 = .ok (.iload_n 1, 1) := by decide +kernel
theorem dX0_leaveTrace_21 : decode cX0_leaveTrace 21 = .ok (.invokestatic 78, 3) := by decide +kernel
theorem dX0_leaveTrace_24 : decode cX0_leaveTrace 24 = .ok (.aload_n 0, 1) := by decide +kernel
theorem dX0_leaveTrace_25 : decode cX0_leaveTrace 25 = .ok (.dup, 1) := by decide +kernel
theorem dX0_leaveTrace_26 : decode cX0_leaveTrace 26 = .ok (.getfield 15, 3) := by decide +kernel
theorem dX0_leaveTrace_29 : decode cX0_leaveTrace 29 = .ok (.iconst 1, 1) := by decide +kernel
theorem dX0_leaveTrace_30 : decode cX0_leaveTrace 30 = .ok (.iadd, 1) := by decide +kernel
theorem dX0_leaveTrace_31 : decode cX0_leaveTrace 31 = .ok (.putfield 15, 3) := by decide +kernel
theorem dX0_leaveTrace_34 : decode cX0_leaveTrace 34 = .ok (.return_, 1) := by decide +kernel
theorem dX1_init_0 : decode cX1_init 0 = .ok (.aload_n 0, 1) := by decide +kernel
theorem dX1_init_1 : decode cX1_init 1 = .ok (.invokespecial 3, 3) := by decide +kernel
theorem dX1_init_4 : decode cX1_init 4 = .ok (.aload_n 0, 1) := by decide +kernel
theorem dX1_init_5 : decode cX1_init 5 = .ok (.bipush 24, 2) := by decide +kernel
theorem dX1_init_7 : decode cX1_init 7 = .ok (.newarray .int, 2) := by decide +kernel
theorem dX1_init_9 : decode cX1_init 9 = .ok (.putfield 9, 3) := by decide +kernel
theorem dX1_init_12 : decode cX1_init 12 = .ok (.aload_n 0, 1) := by decide +kernel
theorem dX1_init_13 : decode cX1_init 13 = .ok (.bipush 6, 2) := by decide +kernel
theorem dX1_init_15 : decode cX1_init 15 = .ok (.newarray .int, 2) := by decide +kernel
theorem dX1_init_17 : decode cX1_init 17 = .ok (.putfield 15, 3) := by decide +kernel
theorem dX1_init_20 : decode cX1_init 20 = .ok (.aload_n 0, 1) := by decide +kernel
theorem dX1_init_21 : decode cX1_init 21 = .ok (.bipush 28, 2) := by decide +kernel
theorem dX1_init_23 : decode cX1_init 23 = .ok (.newarray .long, 2) := by decide +kernel
theorem dX1_init_25 : decode cX1_init 25 = .ok (.putfield 18, 3) := by decide +kernel
theorem dX1_init_28 : decode cX1_init 28 = .ok (.aload_n 0, 1) := by decide +kernel
theorem dX1_init_29 : decode cX1_init 29 = .ok (.bipush 6, 2) := by decide +kernel
theorem dX1_init_31 : decode cX1_init 31 = .ok (.newarray .int, 2) := by decide +kernel
theorem dX1_init_33 : decode cX1_init 33 = .ok (.putfield 22, 3) := by decide +kernel
theorem dX1_init_36 : decode cX1_init 36 = .ok (.return_, 1) := by decide +kernel
theorem dX1_isTold_0 : decode cX1_isTold 0 = .ok (.aload_n 0, 1) := by decide +kernel
theorem dX1_isTold_1 : decode cX1_isTold 1 = .ok (.iload_n 2, 1) := by decide +kernel
theorem dX1_isTold_2 : decode cX1_isTold 2 = .ok (.putfield 25, 3) := by decide +kernel
theorem dX1_isTold_5 : decode cX1_isTold 5 = .ok (.aload_n 0, 1) := by decide +kernel
theorem dX1_isTold_6 : decode cX1_isTold 6 = .ok (.iload_n 3, 1) := by decide +kernel
theorem dX1_isTold_7 : decode cX1_isTold 7 = .ok (.putfield 29, 3) := by decide +kernel
theorem dX1_isTold_10 : decode cX1_isTold 10 = .ok (.iconst 0, 1) := by decide +kernel
theorem dX1_isTold_11 : decode cX1_isTold 11 = .ok (.istore 4, 2) := by decide +kernel
theorem dX1_isTold_13 : decode cX1_isTold 13 = .ok (.iload 4, 2) := by decide +kernel
theorem dX1_isTold_15 : decode cX1_isTold 15 = .ok (.iload_n 2, 1) := by decide +kernel
theorem dX1_isTold_16 : decode cX1_isTold 16 = .ok (.iload_n 3, 1) := by decide +kernel
theorem dX1_isTold_17 : decode cX1_isTold 17 = .ok (.imul, 1) := by decide +kernel
theorem dX1_isTold_18 : decode cX1_isTold 18 = .ok (.if_icmp .ge 41, 3) := by decide +kernel
theorem dX1_isTold_21 : decode cX1_isTold 21 = .ok (.aload_n 1, 1) := by decide +kernel
theorem dX1_isTold_22 : decode cX1_isTold 22 = .ok (.iload 4, 2) := by decide +kernel
theorem dX1_isTold_24 : decode cX1_isTold 24 = .ok (.invokevirtual 32, 3) := by decide +kernel
theorem dX1_isTold_27 : decode cX1_isTold 27 = .ok (.istore 5, 2) := by decide +kernel
theorem dX1_isTold_29 : decode cX1_isTold 29 = .ok (.iload 5, 2) := by decide +kernel
theorem dX1_isTold_31 : decode cX1_isTold 31 = .ok (.ifCond .lt 9, 3) := by decide +kernel
theorem dX1_isTold_34 : decode cX1_isTold 34 = .ok (.iload 5, 2) := by decide +kernel
theorem dX1_isTold_36 : decode cX1_isTold 36 = .ok (.iconst 3, 1) := by decide +kernel
theorem dX1_isTold_37 : decode cX1_isTold 37 = .ok (.if_icmp .le 5, 3) := by decide +kernel
theorem dX1_isTold_40 : decode cX1_isTold 40 = .ok (.iconst 0, 1) := by decide +kernel
theorem dX1_isTold_41 : decode cX1_isTold 41 = .ok (.ireturn, 1) := by decide +kernel
theorem dX1_isTold_42 : decode cX1_isTold 42 = .ok (.aload_n 0, 1) := by decide +kernel
theorem dX1_isTold_43 : decode cX1_isTold 43 = .ok (.getfield 9, 3) := by decide +kernel
theorem dX1_isTold_46 : decode cX1_isTold 46 = .ok (.iload 4, 2) := by decide +kernel
theorem dX1_isTold_48 : decode cX1_isTold 48 = .ok (.iload 5, 2) := by decide +kernel
theorem dX1_isTold_50 : decode cX1_isTold 50 = .ok (.invokestatic 38, 3) := by decide +kernel
theorem dX1_isTold_53 : decode cX1_isTold 53 = .ok (.iinc 4 1, 3) := by decide +kernel
theorem dX1_isTold_56 : decode cX1_isTold 56 = .ok (.goto (-43), 3) := by decide +kernel
theorem dX1_isTold_59 : decode cX1_isTold 59 = .ok (.iconst 1, 1) := by decide +kernel
theorem dX1_isTold_60 : decode cX1_isTold 60 = .ok (.ireturn, 1) := by decide +kernel
theorem dX1_dealAll_0 : decode cX1_dealAll 0 = .ok (.aload_n 0, 1) := by decide +kernel
theorem dX1_dealAll_1 : decode cX1_dealAll 1 = .ok (.lconst 0, 1) := by decide +kernel
theorem dX1_dealAll_2 : decode cX1_dealAll 2 = .ok (.putfield 42, 3) := by decide +kernel
theorem dX1_dealAll_5 : decode cX1_dealAll 5 = .ok (.iconst 0, 1) := by decide +kernel
theorem dX1_dealAll_6 : decode cX1_dealAll 6 = .ok (.istore_n 2, 1) := by decide +kernel
theorem dX1_dealAll_7 : decode cX1_dealAll 7 = .ok (.iload_n 2, 1) := by decide +kernel
theorem dX1_dealAll_8 : decode cX1_dealAll 8 = .ok (.aload_n 0, 1) := by decide +kernel
theorem dX1_dealAll_9 : decode cX1_dealAll 9 = .ok (.getfield 29, 3) := by decide +kernel
theorem dX1_dealAll_12 : decode cX1_dealAll 12 = .ok (.if_icmp .ge 16, 3) := by decide +kernel
theorem dX1_dealAll_15 : decode cX1_dealAll 15 = .ok (.aload_n 0, 1) := by decide +kernel
theorem dX1_dealAll_16 : decode cX1_dealAll 16 = .ok (.iconst 0, 1) := by decide +kernel
theorem dX1_dealAll_17 : decode cX1_dealAll 17 = .ok (.iload_n 2, 1) := by decide +kernel
theorem dX1_dealAll_18 : decode cX1_dealAll 18 = .ok (.lconst 1, 1) := by decide +kernel
theorem dX1_dealAll_19 : decode cX1_dealAll 19 = .ok (.invokevirtual 46, 3) := by decide +kernel
theorem dX1_dealAll_22 : decode cX1_dealAll 22 = .ok (.iinc 2 1, 3) := by decide +kernel
theorem dX1_dealAll_25 : decode cX1_dealAll 25 = .ok (.goto (-18), 3) := by decide +kernel
theorem dX1_dealAll_28 : decode cX1_dealAll 28 = .ok (.aload_n 0, 1) := by decide +kernel
theorem dX1_dealAll_29 : decode cX1_dealAll 29 = .ok (.aload_n 1, 1) := by decide +kernel
theorem dX1_dealAll_30 : decode cX1_dealAll 30 = .ok (.iconst 0, 1) := by decide +kernel
theorem dX1_dealAll_31 : decode cX1_dealAll 31 = .ok (.iconst 0, 1) := by decide +kernel
theorem dX1_dealAll_32 : decode cX1_dealAll 32 = .ok (.invokestatic 50, 3) := by decide +kernel
theorem dX1_dealAll_35 : decode cX1_dealAll 35 = .ok (.return_, 1) := by decide +kernel
theorem dX1_dealFrom_0 : decode cX1_dealFrom 0 = .ok (.iload_n 2, 1) := by decide +kernel
theorem dX1_dealFrom_1 : decode cX1_dealFrom 1 = .ok (.aload_n 0, 1) := by decide +kernel
theorem dX1_dealFrom_2 : decode cX1_dealFrom 2 = .ok (.getfield 25, 3) := by decide +kernel
theorem dX1_dealFrom_5 : decode cX1_dealFrom 5 = .ok (.if_icmp .ge 9, 3) := by decide +kernel
theorem dX1_dealFrom_8 : decode cX1_dealFrom 8 = .ok (.iload_n 2, 1) := by decide +kernel
theorem dX1_dealFrom_9 : decode cX1_dealFrom 9 = .ok (.bipush 6, 2) := by decide +kernel
theorem dX1_dealFrom_11 : decode cX1_dealFrom 11 = .ok (.if_icmp .lt 8, 3) := by decide +kernel
theorem dX1_dealFrom_14 : decode cX1_dealFrom 14 = .ok (.aload_n 0, 1) := by decide +kernel
theorem dX1_dealFrom_15 : decode cX1_dealFrom 15 = .ok (.invokevirtual 54, 3) := by decide +kernel
theorem dX1_dealFrom_18 : decode cX1_dealFrom 18 = .ok (.return_, 1) := by decide +kernel
theorem dX1_dealFrom_19 : decode cX1_dealFrom 19 = .ok (.iconst 0, 1) := by decide +kernel
theorem dX1_dealFrom_20 : decode cX1_dealFrom 20 = .ok (.istore 4, 2) := by decide +kernel
theorem dX1_dealFrom_22 : decode cX1_dealFrom 22 = .ok (.iload 4, 2) := by decide +kernel
theorem dX1_dealFrom_24 : decode cX1_dealFrom 24 = .ok (.aload_n 0, 1) := by decide +kernel
theorem dX1_dealFrom_25 : decode cX1_dealFrom 25 = .ok (.getfield 25, 3) := by decide +kernel
theorem dX1_dealFrom_28 : decode cX1_dealFrom 28 = .ok (.if_icmp .ge 68, 3) := by decide +kernel
theorem dX1_dealFrom_31 : decode cX1_dealFrom 31 = .ok (.iload_n 3, 1) := by decide +kernel
theorem dX1_dealFrom_32 : decode cX1_dealFrom 32 = .ok (.iload 4, 2) := by decide +kernel
theorem dX1_dealFrom_34 : decode cX1_dealFrom 34 = .ok (.ishr, 1) := by decide +kernel
theorem dX1_dealFrom_35 : decode cX1_dealFrom 35 = .ok (.iconst 1, 1) := by decide +kernel
theorem dX1_dealFrom_36 : decode cX1_dealFrom 36 = .ok (.iand, 1) := by decide +kernel
theorem dX1_dealFrom_37 : decode cX1_dealFrom 37 = .ok (.ifCond .ne 7, 3) := by decide +kernel
theorem dX1_dealFrom_40 : decode cX1_dealFrom 40 = .ok (.iconst 1, 1) := by decide +kernel
theorem dX1_dealFrom_41 : decode cX1_dealFrom 41 = .ok (.goto 4, 3) := by decide +kernel
theorem dX1_dealFrom_44 : decode cX1_dealFrom 44 = .ok (.iconst 0, 1) := by decide +kernel
theorem dX1_dealFrom_45 : decode cX1_dealFrom 45 = .ok (.istore 5, 2) := by decide +kernel
theorem dX1_dealFrom_47 : decode cX1_dealFrom 47 = .ok (.iload 5, 2) := by decide +kernel
theorem dX1_dealFrom_49 : decode cX1_dealFrom 49 = .ok (.ifCond .eq 41, 3) := by decide +kernel
theorem dX1_dealFrom_52 : decode cX1_dealFrom 52 = .ok (.aload_n 0, 1) := by decide +kernel
theorem dX1_dealFrom_53 : decode cX1_dealFrom 53 = .ok (.iload_n 2, 1) := by decide +kernel
theorem dX1_dealFrom_54 : decode cX1_dealFrom 54 = .ok (.aload_n 1, 1) := by decide +kernel
theorem dX1_dealFrom_55 : decode cX1_dealFrom 55 = .ok (.iload 4, 2) := by decide +kernel
theorem dX1_dealFrom_57 : decode cX1_dealFrom 57 = .ok (.invokevirtual 57, 3) := by decide +kernel
theorem dX1_dealFrom_60 : decode cX1_dealFrom 60 = .ok (.invokevirtual 62, 3) := by decide +kernel
theorem dX1_dealFrom_63 : decode cX1_dealFrom 63 = .ok (.ifCond .eq 27, 3) := by decide +kernel
theorem dX1_dealFrom_66 : decode cX1_dealFrom 66 = .ok (.aload_n 0, 1) := by decide +kernel
theorem dX1_dealFrom_67 : decode cX1_dealFrom 67 = .ok (.getfield 15, 3) := by decide +kernel
theorem dX1_dealFrom_70 : decode cX1_dealFrom 70 = .ok (.iload_n 2, 1) := by decide +kernel
theorem dX1_dealFrom_71 : decode cX1_dealFrom 71 = .ok (.iload 4, 2) := by decide +kernel
theorem dX1_dealFrom_73 : decode cX1_dealFrom 73 = .ok (.invokestatic 38, 3) := by decide +kernel
theorem dX1_dealFrom_76 : decode cX1_dealFrom 76 = .ok (.aload_n 0, 1) := by decide +kernel
theorem dX1_dealFrom_77 : decode cX1_dealFrom 77 = .ok (.aload_n 1, 1) := by decide +kernel
theorem dX1_dealFrom_78 : decode cX1_dealFrom 78 = .ok (.iload_n 2, 1) := by decide +kernel
theorem dX1_dealFrom_79 : decode cX1_dealFrom 79 = .ok (.iconst 1, 1) := by decide +kernel
theorem dX1_dealFrom_80 : decode cX1_dealFrom 80 = .ok (.iadd, 1) := by decide +kernel
theorem dX1_dealFrom_81 : decode cX1_dealFrom 81 = .ok (.iload_n 3, 1) := by decide +kernel
theorem dX1_dealFrom_82 : decode cX1_dealFrom 82 = .ok (.iconst 1, 1) := by decide +kernel
theorem dX1_dealFrom_83 : decode cX1_dealFrom 83 = .ok (.iload 4, 2) := by decide +kernel
theorem dX1_dealFrom_85 : decode cX1_dealFrom 85 = .ok (.ishl, 1) := by decide +kernel
theorem dX1_dealFrom_86 : decode cX1_dealFrom 86 = .ok (.ior, 1) := by decide +kernel
theorem dX1_dealFrom_87 : decode cX1_dealFrom 87 = .ok (.invokestatic 50, 3) := by decide +kernel
theorem dX1_dealFrom_90 : decode cX1_dealFrom 90 = .ok (.iinc 4 1, 3) := by decide +kernel
theorem dX1_dealFrom_93 : decode cX1_dealFrom 93 = .ok (.goto (-71), 3) := by decide +kernel
theorem dX1_dealFrom_96 : decode cX1_dealFrom 96 = .ok (.return_, 1) := by decide +kernel
theorem dX1_makes_0 : decode cX1_makes 0 = .ok (.iconst 0, 1) := by decide +kernel
theorem dX1_makes_1 : decode cX1_makes 1 = .ok (.istore_n 3, 1) := by decide +kernel
theorem dX1_makes_2 : decode cX1_makes 2 = .ok (.iload_n 3, 1) := by decide +kernel
theorem dX1_makes_3 : decode cX1_makes 3 = .ok (.aload_n 0, 1) := by decide +kernel
theorem dX1_makes_4 : decode cX1_makes 4 = .ok (.getfield 29, 3) := by decide +kernel
theorem dX1_makes_7 : decode cX1_makes 7 = .ok (.if_icmp .ge 82, 3) := by decide +kernel
theorem dX1_makes_10 : decode cX1_makes 10 = .ok (.aload_n 0, 1) := by decide +kernel
theorem dX1_makes_11 : decode cX1_makes 11 = .ok (.iload_n 1, 1) := by decide +kernel
theorem dX1_makes_12 : decode cX1_makes 12 = .ok (.iload_n 3, 1) := by decide +kernel
theorem dX1_makes_13 : decode cX1_makes 13 = .ok (.invokevirtual 66, 3) := by decide +kernel
theorem dX1_makes_16 : decode cX1_makes 16 = .ok (.lstore 4, 2) := by decide +kernel
theorem dX1_makes_18 : decode cX1_makes 18 = .ok (.aload_n 0, 1) := by decide +kernel
theorem dX1_makes_19 : decode cX1_makes 19 = .ok (.getfield 9, 3) := by decide +kernel
theorem dX1_makes_22 : decode cX1_makes 22 = .ok (.iload_n 3, 1) := by decide +kernel
theorem dX1_makes_23 : decode cX1_makes 23 = .ok (.aload_n 0, 1) := by decide +kernel
theorem dX1_makes_24 : decode cX1_makes 24 = .ok (.getfield 25, 3) := by decide +kernel
theorem dX1_makes_27 : decode cX1_makes 27 = .ok (.imul, 1) := by decide +kernel
theorem dX1_makes_28 : decode cX1_makes 28 = .ok (.iload_n 1, 1) := by decide +kernel
theorem dX1_makes_29 : decode cX1_makes 29 = .ok (.iadd, 1) := by decide +kernel
theorem dX1_makes_30 : decode cX1_makes 30 = .ok (.invokestatic 70, 3) := by decide +kernel
theorem dX1_makes_33 : decode cX1_makes 33 = .ok (.istore 6, 2) := by decide +kernel
theorem dX1_makes_35 : decode cX1_makes 35 = .ok (.iload 6, 2) := by decide +kernel
theorem dX1_makes_37 : decode cX1_makes 37 = .ok (.ifCond .le 25, 3) := by decide +kernel
theorem dX1_makes_40 : decode cX1_makes 40 = .ok (.lload 4, 2) := by decide +kernel
theorem dX1_makes_42 : decode cX1_makes 42 = .ok (.ldc2_w 74, 3) := by decide +kernel
theorem dX1_makes_45 : decode cX1_makes 45 = .ok (.lcmp, 1) := by decide +kernel
theorem dX1_makes_46 : decode cX1_makes 46 = .ok (.ifCond .gt 16, 3) := by decide +kernel
theorem dX1_makes_49 : decode cX1_makes 49 = .ok (.lload 4, 2) := by decide +kernel
theorem dX1_makes_51 : decode cX1_makes 51 = .ok (.iload_n 2, 1) := by decide +kernel
theorem dX1_makes_52 : decode cX1_makes 52 = .ok (.i2l, 1) := by decide +kernel
theorem dX1_makes_53 : decode cX1_makes 53 = .ok (.lmul, 1) := by decide +kernel
theorem dX1_makes_54 : decode cX1_makes 54 = .ok (.lstore 4, 2) := by decide +kernel
theorem dX1_makes_56 : decode cX1_makes 56 = .ok (.iinc 6 (-1), 3) := by decide +kernel
theorem dX1_makes_59 : decode cX1_makes 59 = .ok (.goto (-24), 3) := by decide +kernel
theorem dX1_makes_62 : decode cX1_makes 62 = .ok (.lload 4, 2) := by decide +kernel
theorem dX1_makes_64 : decode cX1_makes 64 = .ok (.ldc2_w 74, 3) := by decide +kernel
theorem dX1_makes_67 : decode cX1_makes 67 = .ok (.lcmp, 1) := by decide +kernel
theorem dX1_makes_68 : decode cX1_makes 68 = .ok (.ifCond .le 5, 3) := by decide +kernel
theorem dX1_makes_71 : decode cX1_makes 71 = .ok (.iconst 0, 1) := by decide +kernel
theorem dX1_makes_72 : decode cX1_makes 72 = .ok (.ireturn, 1) := by decide +kernel
theorem dX1_makes_73 : decode cX1_makes 73 = .ok (.aload_n 0, 1) := by decide +kernel
theorem dX1_makes_74 : decode cX1_makes 74 = .ok (.iload_n 1, 1) := by decide +kernel
theorem dX1_makes_75 : decode cX1_makes 75 = .ok (.iconst 1, 1) := by decide +kernel
theorem dX1_makes_76 : decode cX1_makes 76 = .ok (.iadd, 1) := by decide +kernel
theorem dX1_makes_77 : decode cX1_makes 77 = .ok (.iload_n 3, 1) := by decide +kernel
theorem dX1_makes_78 : decode cX1_makes 78 = .ok (.lload 4, 2) := by decide +kernel
theorem dX1_makes_80 : decode cX1_makes 80 = .ok (.invokevirtual 46, 3) := by decide +kernel
theorem dX1_makes_83 : decode cX1_makes 83 = .ok (.iinc 3 1, 3) := by decide +kernel
theorem dX1_makes_86 : decode cX1_makes 86 = .ok (.goto (-84), 3) := by decide +kernel
theorem dX1_makes_89 : decode cX1_makes 89 = .ok (.iconst 1, 1) := by decide +kernel
theorem dX1_makes_90 : decode cX1_makes 90 = .ok (.ireturn, 1) := by decide +kernel
theorem dX1_compare_0 : decode cX1_compare 0 = .ok (.lconst 0, 1) := by decide +kernel
theorem dX1_compare_1 : decode cX1_compare 1 = .ok (.lstore_n 1, 1) := by decide +kernel
theorem dX1_compare_2 : decode cX1_compare 2 = .ok (.iconst 0, 1) := by decide +kernel
theorem dX1_compare_3 : decode cX1_compare 3 = .ok (.istore_n 3, 1) := by decide +kernel
theorem dX1_compare_4 : decode cX1_compare 4 = .ok (.iload_n 3, 1) := by decide +kernel
theorem dX1_compare_5 : decode cX1_compare 5 = .ok (.aload_n 0, 1) := by decide +kernel
theorem dX1_compare_6 : decode cX1_compare 6 = .ok (.getfield 29, 3) := by decide +kernel
theorem dX1_compare_9 : decode cX1_compare 9 = .ok (.if_icmp .ge 21, 3) := by decide +kernel
theorem dX1_compare_12 : decode cX1_compare 12 = .ok (.lload_n 1, 1) := by decide +kernel
theorem dX1_compare_13 : decode cX1_compare 13 = .ok (.aload_n 0, 1) := by decide +kernel
theorem dX1_compare_14 : decode cX1_compare 14 = .ok (.aload_n 0, 1) := by decide +kernel
theorem dX1_compare_15 : decode cX1_compare 15 = .ok (.getfield 25, 3) := by decide +kernel
theorem dX1_compare_18 : decode cX1_compare 18 = .ok (.iload_n 3, 1) := by decide +kernel
theorem dX1_compare_19 : decode cX1_compare 19 = .ok (.invokevirtual 66, 3) := by decide +kernel
theorem dX1_compare_22 : decode cX1_compare 22 = .ok (.ladd, 1) := by decide +kernel
theorem dX1_compare_23 : decode cX1_compare 23 = .ok (.lstore_n 1, 1) := by decide +kernel
theorem dX1_compare_24 : decode cX1_compare 24 = .ok (.iinc 3 1, 3) := by decide +kernel
theorem dX1_compare_27 : decode cX1_compare 27 = .ok (.goto (-23), 3) := by decide +kernel
theorem dX1_compare_30 : decode cX1_compare 30 = .ok (.aload_n 0, 1) := by decide +kernel
theorem dX1_compare_31 : decode cX1_compare 31 = .ok (.getfield 42, 3) := by decide +kernel
theorem dX1_compare_34 : decode cX1_compare 34 = .ok (.lconst 0, 1) := by decide +kernel
theorem dX1_compare_35 : decode cX1_compare 35 = .ok (.lcmp, 1) := by decide +kernel
theorem dX1_compare_36 : decode cX1_compare 36 = .ok (.ifCond .eq 12, 3) := by decide +kernel
theorem dX1_compare_39 : decode cX1_compare 39 = .ok (.lload_n 1, 1) := by decide +kernel
theorem dX1_compare_40 : decode cX1_compare 40 = .ok (.aload_n 0, 1) := by decide +kernel
theorem dX1_compare_41 : decode cX1_compare 41 = .ok (.getfield 42, 3) := by decide +kernel
theorem dX1_compare_44 : decode cX1_compare 44 = .ok (.lcmp, 1) := by decide +kernel
theorem dX1_compare_45 : decode cX1_compare 45 = .ok (.ifCond .ge 40, 3) := by decide +kernel
theorem dX1_compare_48 : decode cX1_compare 48 = .ok (.aload_n 0, 1) := by decide +kernel
theorem dX1_compare_49 : decode cX1_compare 49 = .ok (.lload_n 1, 1) := by decide +kernel
theorem dX1_compare_50 : decode cX1_compare 50 = .ok (.putfield 42, 3) := by decide +kernel
theorem dX1_compare_53 : decode cX1_compare 53 = .ok (.iconst 0, 1) := by decide +kernel
theorem dX1_compare_54 : decode cX1_compare 54 = .ok (.istore_n 3, 1) := by decide +kernel
theorem dX1_compare_55 : decode cX1_compare 55 = .ok (.iload_n 3, 1) := by decide +kernel
theorem dX1_compare_56 : decode cX1_compare 56 = .ok (.aload_n 0, 1) := by decide +kernel
theorem dX1_compare_57 : decode cX1_compare 57 = .ok (.getfield 25, 3) := by decide +kernel
theorem dX1_compare_60 : decode cX1_compare 60 = .ok (.if_icmp .ge 25, 3) := by decide +kernel
theorem dX1_compare_63 : decode cX1_compare 63 = .ok (.aload_n 0, 1) := by decide +kernel
theorem dX1_compare_64 : decode cX1_compare 64 = .ok (.getfield 22, 3) := by decide +kernel
theorem dX1_compare_67 : decode cX1_compare 67 = .ok (.iload_n 3, 1) := by decide +kernel
theorem dX1_compare_68 : decode cX1_compare 68 = .ok (.aload_n 0, 1) := by decide +kernel
theorem dX1_compare_69 : decode cX1_compare 69 = .ok (.getfield 15, 3) := by decide +kernel
theorem dX1_compare_72 : decode cX1_compare 72 = .ok (.iload_n 3, 1) := by decide +kernel
theorem dX1_compare_73 : decode cX1_compare 73 = .ok (.invokestatic 70, 3) := by decide +kernel
theorem dX1_compare_76 : decode cX1_compare 76 = .ok (.invokestatic 38, 3) := by decide +kernel
theorem dX1_compare_79 : decode cX1_compare 79 = .ok (.iinc 3 1, 3) := by decide +kernel
theorem dX1_compare_82 : decode cX1_compare 82 = .ok (.goto (-27), 3) := by decide +kernel
theorem dX1_compare_85 : decode cX1_compare 85 = .ok (.return_, 1) := by decide +kernel
theorem dX1_madeAt_0 : decode cX1_madeAt 0 = .ok (.iload_n 1, 1) := by decide +kernel
theorem dX1_madeAt_1 : decode cX1_madeAt 1 = .ok (.iconst 4, 1) := by decide +kernel
theorem dX1_madeAt_2 : decode cX1_madeAt 2 = .ok (.imul, 1) := by decide +kernel
theorem dX1_madeAt_3 : decode cX1_madeAt 3 = .ok (.iload_n 2, 1) := by decide +kernel
theorem dX1_madeAt_4 : decode cX1_madeAt 4 = .ok (.iadd, 1) := by decide +kernel
theorem dX1_madeAt_5 : decode cX1_madeAt 5 = .ok (.istore_n 3, 1) := by decide +kernel
theorem dX1_madeAt_6 : decode cX1_madeAt 6 = .ok (.iload_n 3, 1) := by decide +kernel
theorem dX1_madeAt_7 : decode cX1_madeAt 7 = .ok (.ifCond .lt 21, 3) := by decide +kernel
theorem dX1_madeAt_10 : decode cX1_madeAt 10 = .ok (.iload_n 3, 1) := by decide +kernel
theorem dX1_madeAt_11 : decode cX1_madeAt 11 = .ok (.aload_n 0, 1) := by decide +kernel
theorem dX1_madeAt_12 : decode cX1_madeAt 12 = .ok (.getfield 18, 3) := by decide +kernel
theorem dX1_madeAt_15 : decode cX1_madeAt 15 = .ok (.arraylength, 1) := by decide +kernel
theorem dX1_madeAt_16 : decode cX1_madeAt 16 = .ok (.if_icmp .ge 12, 3) := by decide +kernel
theorem dX1_madeAt_19 : decode cX1_madeAt 19 = .ok (.aload_n 0, 1) := by decide +kernel
theorem dX1_madeAt_20 : decode cX1_madeAt 20 = .ok (.getfield 18, 3) := by decide +kernel
theorem dX1_madeAt_23 : decode cX1_madeAt 23 = .ok (.iload_n 3, 1) := by decide +kernel
theorem dX1_madeAt_24 : decode cX1_madeAt 24 = .ok (.laload, 1) := by decide +kernel
theorem dX1_madeAt_25 : decode cX1_madeAt 25 = .ok (.goto 4, 3) := by decide +kernel
theorem dX1_madeAt_28 : decode cX1_madeAt 28 = .ok (.lconst 0, 1) := by decide +kernel
theorem dX1_madeAt_29 : decode cX1_madeAt 29 = .ok (.lreturn, 1) := by decide +kernel
theorem dX1_keepMade_0 : decode cX1_keepMade 0 = .ok (.iload_n 1, 1) := by decide +kernel
theorem dX1_keepMade_1 : decode cX1_keepMade 1 = .ok (.iconst 4, 1) := by decide +kernel
theorem dX1_keepMade_2 : decode cX1_keepMade 2 = .ok (.imul, 1) := by decide +kernel
theorem dX1_keepMade_3 : decode cX1_keepMade 3 = .ok (.iload_n 2, 1) := by decide +kernel
theorem dX1_keepMade_4 : decode cX1_keepMade 4 = .ok (.iadd, 1) := by decide +kernel
theorem dX1_keepMade_5 : decode cX1_keepMade 5 = .ok (.istore 5, 2) := by decide +kernel
theorem dX1_keepMade_7 : decode cX1_keepMade 7 = .ok (.iload 5, 2) := by decide +kernel
theorem dX1_keepMade_9 : decode cX1_keepMade 9 = .ok (.ifCond .lt 21, 3) := by decide +kernel
theorem dX1_keepMade_12 : decode cX1_keepMade 12 = .ok (.iload 5, 2) := by decide +kernel
theorem dX1_keepMade_14 : decode cX1_keepMade 14 = .ok (.aload_n 0, 1) := by decide +kernel
theorem dX1_keepMade_15 : decode cX1_keepMade 15 = .ok (.getfield 18, 3) := by decide +kernel
theorem dX1_keepMade_18 : decode cX1_keepMade 18 = .ok (.arraylength, 1) := by decide +kernel
theorem dX1_keepMade_19 : decode cX1_keepMade 19 = .ok (.if_icmp .ge 11, 3) := by decide +kernel
theorem dX1_keepMade_22 : decode cX1_keepMade 22 = .ok (.aload_n 0, 1) := by decide +kernel
theorem dX1_keepMade_23 : decode cX1_keepMade 23 = .ok (.getfield 18, 3) := by decide +kernel
theorem dX1_keepMade_26 : decode cX1_keepMade 26 = .ok (.iload 5, 2) := by decide +kernel
theorem dX1_keepMade_28 : decode cX1_keepMade 28 = .ok (.lload_n 3, 1) := by decide +kernel
theorem dX1_keepMade_29 : decode cX1_keepMade 29 = .ok (.lastore, 1) := by decide +kernel
theorem dX1_keepMade_30 : decode cX1_keepMade 30 = .ok (.return_, 1) := by decide +kernel
theorem dX2_init_0 : decode cX2_init 0 = .ok (.aload_n 0, 1) := by decide +kernel
theorem dX2_init_1 : decode cX2_init 1 = .ok (.invokespecial 3, 3) := by decide +kernel
theorem dX2_init_4 : decode cX2_init 4 = .ok (.aload_n 0, 1) := by decide +kernel
theorem dX2_init_5 : decode cX2_init 5 = .ok (.sipush 2001, 3) := by decide +kernel
theorem dX2_init_8 : decode cX2_init 8 = .ok (.newarray .int, 2) := by decide +kernel
theorem dX2_init_10 : decode cX2_init 10 = .ok (.putfield 9, 3) := by decide +kernel
theorem dX2_init_13 : decode cX2_init 13 = .ok (.aload_n 0, 1) := by decide +kernel
theorem dX2_init_14 : decode cX2_init 14 = .ok (.new 15, 3) := by decide +kernel
theorem dX2_init_17 : decode cX2_init 17 = .ok (.dup, 1) := by decide +kernel
theorem dX2_init_18 : decode cX2_init 18 = .ok (.invokespecial 17, 3) := by decide +kernel
theorem dX2_init_21 : decode cX2_init 21 = .ok (.putfield 18, 3) := by decide +kernel
theorem dX2_init_24 : decode cX2_init 24 = .ok (.return_, 1) := by decide +kernel
theorem dX2_forget_0 : decode cX2_forget 0 = .ok (.iconst 0, 1) := by decide +kernel
theorem dX2_forget_1 : decode cX2_forget 1 = .ok (.istore_n 1, 1) := by decide +kernel
theorem dX2_forget_2 : decode cX2_forget 2 = .ok (.iload_n 1, 1) := by decide +kernel
theorem dX2_forget_3 : decode cX2_forget 3 = .ok (.aload_n 0, 1) := by decide +kernel
theorem dX2_forget_4 : decode cX2_forget 4 = .ok (.getfield 9, 3) := by decide +kernel
theorem dX2_forget_7 : decode cX2_forget 7 = .ok (.arraylength, 1) := by decide +kernel
theorem dX2_forget_8 : decode cX2_forget 8 = .ok (.if_icmp .ge 16, 3) := by decide +kernel
theorem dX2_forget_11 : decode cX2_forget 11 = .ok (.aload_n 0, 1) := by decide +kernel
theorem dX2_forget_12 : decode cX2_forget 12 = .ok (.getfield 9, 3) := by decide +kernel
theorem dX2_forget_15 : decode cX2_forget 15 = .ok (.iload_n 1, 1) := by decide +kernel
theorem dX2_forget_16 : decode cX2_forget 16 = .ok (.iconst 0, 1) := by decide +kernel
theorem dX2_forget_17 : decode cX2_forget 17 = .ok (.iastore, 1) := by decide +kernel
theorem dX2_forget_18 : decode cX2_forget 18 = .ok (.iinc 1 1, 3) := by decide +kernel
theorem dX2_forget_21 : decode cX2_forget 21 = .ok (.goto (-19), 3) := by decide +kernel
theorem dX2_forget_24 : decode cX2_forget 24 = .ok (.return_, 1) := by decide +kernel
theorem dX2_isGood_0 : decode cX2_isGood 0 = .ok (.lload_n 2, 1) := by decide +kernel
theorem dX2_isGood_1 : decode cX2_isGood 1 = .ok (.lconst 1, 1) := by decide +kernel
theorem dX2_isGood_2 : decode cX2_isGood 2 = .ok (.lcmp, 1) := by decide +kernel
theorem dX2_isGood_3 : decode cX2_isGood 3 = .ok (.ifCond .lt 11, 3) := by decide +kernel
theorem dX2_isGood_6 : decode cX2_isGood 6 = .ok (.lload_n 2, 1) := by decide +kernel
theorem dX2_isGood_7 : decode cX2_isGood 7 = .ok (.ldc2_w 22, 3) := by decide +kernel
theorem dX2_isGood_10 : decode cX2_isGood 10 = .ok (.lcmp, 1) := by decide +kernel
theorem dX2_isGood_11 : decode cX2_isGood 11 = .ok (.ifCond .le 5, 3) := by decide +kernel
theorem dX2_isGood_14 : decode cX2_isGood 14 = .ok (.iconst 0, 1) := by decide +kernel
theorem dX2_isGood_15 : decode cX2_isGood 15 = .ok (.ireturn, 1) := by decide +kernel
theorem dX2_isGood_16 : decode cX2_isGood 16 = .ok (.lload_n 2, 1) := by decide +kernel
theorem dX2_isGood_17 : decode cX2_isGood 17 = .ok (.aload_n 0, 1) := by decide +kernel
theorem dX2_isGood_18 : decode cX2_isGood 18 = .ok (.getfield 9, 3) := by decide +kernel
theorem dX2_isGood_21 : decode cX2_isGood 21 = .ok (.arraylength, 1) := by decide +kernel
theorem dX2_isGood_22 : decode cX2_isGood 22 = .ok (.i2l, 1) := by decide +kernel
theorem dX2_isGood_23 : decode cX2_isGood 23 = .ok (.lcmp, 1) := by decide +kernel
theorem dX2_isGood_24 : decode cX2_isGood 24 = .ok (.ifCond .lt 20, 3) := by decide +kernel
theorem dX2_isGood_27 : decode cX2_isGood 27 = .ok (.aload_n 0, 1) := by decide +kernel
theorem dX2_isGood_28 : decode cX2_isGood 28 = .ok (.getfield 18, 3) := by decide +kernel
theorem dX2_isGood_31 : decode cX2_isGood 31 = .ok (.aload_n 1, 1) := by decide +kernel
theorem dX2_isGood_32 : decode cX2_isGood 32 = .ok (.lload_n 2, 1) := by decide +kernel
theorem dX2_isGood_33 : decode cX2_isGood 33 = .ok (.invokevirtual 24, 3) := by decide +kernel
theorem dX2_isGood_36 : decode cX2_isGood 36 = .ok (.aload_n 0, 1) := by decide +kernel
theorem dX2_isGood_37 : decode cX2_isGood 37 = .ok (.getfield 18, 3) := by decide +kernel
theorem dX2_isGood_40 : decode cX2_isGood 40 = .ok (.getfield 28, 3) := by decide +kernel
theorem dX2_isGood_43 : decode cX2_isGood 43 = .ok (.ireturn, 1) := by decide +kernel
theorem dX2_isGood_44 : decode cX2_isGood 44 = .ok (.lload_n 2, 1) := by decide +kernel
theorem dX2_isGood_45 : decode cX2_isGood 45 = .ok (.l2i, 1) := by decide +kernel
theorem dX2_isGood_46 : decode cX2_isGood 46 = .ok (.istore 4, 2) := by decide +kernel
theorem dX2_isGood_48 : decode cX2_isGood 48 = .ok (.aload_n 0, 1) := by decide +kernel
theorem dX2_isGood_49 : decode cX2_isGood 49 = .ok (.getfield 9, 3) := by decide +kernel
theorem dX2_isGood_52 : decode cX2_isGood 52 = .ok (.iload 4, 2) := by decide +kernel
theorem dX2_isGood_54 : decode cX2_isGood 54 = .ok (.iaload, 1) := by decide +kernel
theorem dX2_isGood_55 : decode cX2_isGood 55 = .ok (.ifCond .ne 34, 3) := by decide +kernel
theorem dX2_isGood_58 : decode cX2_isGood 58 = .ok (.aload_n 0, 1) := by decide +kernel
theorem dX2_isGood_59 : decode cX2_isGood 59 = .ok (.getfield 18, 3) := by decide +kernel
theorem dX2_isGood_62 : decode cX2_isGood 62 = .ok (.aload_n 1, 1) := by decide +kernel
theorem dX2_isGood_63 : decode cX2_isGood 63 = .ok (.lload_n 2, 1) := by decide +kernel
theorem dX2_isGood_64 : decode cX2_isGood 64 = .ok (.invokevirtual 24, 3) := by decide +kernel
theorem dX2_isGood_67 : decode cX2_isGood 67 = .ok (.aload_n 0, 1) := by decide +kernel
theorem dX2_isGood_68 : decode cX2_isGood 68 = .ok (.getfield 9, 3) := by decide +kernel
theorem dX2_isGood_71 : decode cX2_isGood 71 = .ok (.iload 4, 2) := by decide +kernel
theorem dX2_isGood_73 : decode cX2_isGood 73 = .ok (.aload_n 0, 1) := by decide +kernel
theorem dX2_isGood_74 : decode cX2_isGood 74 = .ok (.getfield 18, 3) := by decide +kernel
theorem dX2_isGood_77 : decode cX2_isGood 77 = .ok (.getfield 28, 3) := by decide +kernel
theorem dX2_isGood_80 : decode cX2_isGood 80 = .ok (.ifCond .eq 7, 3) := by decide +kernel
theorem dX2_isGood_83 : decode cX2_isGood 83 = .ok (.iconst 1, 1) := by decide +kernel
theorem dX2_isGood_84 : decode cX2_isGood 84 = .ok (.goto 4, 3) := by decide +kernel
theorem dX2_isGood_87 : decode cX2_isGood 87 = .ok (.iconst 2, 1) := by decide +kernel
theorem dX2_isGood_88 : decode cX2_isGood 88 = .ok (.iastore, 1) := by decide +kernel
theorem dX2_isGood_89 : decode cX2_isGood 89 = .ok (.aload_n 0, 1) := by decide +kernel
theorem dX2_isGood_90 : decode cX2_isGood 90 = .ok (.getfield 9, 3) := by decide +kernel
theorem dX2_isGood_93 : decode cX2_isGood 93 = .ok (.iload 4, 2) := by decide +kernel
theorem dX2_isGood_95 : decode cX2_isGood 95 = .ok (.iaload, 1) := by decide +kernel
theorem dX2_isGood_96 : decode cX2_isGood 96 = .ok (.iconst 1, 1) := by decide +kernel
theorem dX2_isGood_97 : decode cX2_isGood 97 = .ok (.if_icmp .ne 7, 3) := by decide +kernel
theorem dX2_isGood_100 : decode cX2_isGood 100 = .ok (.iconst 1, 1) := by decide +kernel
theorem dX2_isGood_101 : decode cX2_isGood 101 = .ok (.goto 4, 3) := by decide +kernel
theorem dX2_isGood_104 : decode cX2_isGood 104 = .ok (.iconst 0, 1) := by decide +kernel
theorem dX2_isGood_105 : decode cX2_isGood 105 = .ok (.ireturn, 1) := by decide +kernel
theorem dX3_init_0 : decode cX3_init 0 = .ok (.aload_n 0, 1) := by decide +kernel
theorem dX3_init_1 : decode cX3_init 1 = .ok (.invokespecial 3, 3) := by decide +kernel
theorem dX3_init_4 : decode cX3_init 4 = .ok (.aload_n 0, 1) := by decide +kernel
theorem dX3_init_5 : decode cX3_init 5 = .ok (.bipush 12, 2) := by decide +kernel
theorem dX3_init_7 : decode cX3_init 7 = .ok (.newarray .int, 2) := by decide +kernel
theorem dX3_init_9 : decode cX3_init 9 = .ok (.putfield 9, 3) := by decide +kernel
theorem dX3_init_12 : decode cX3_init 12 = .ok (.return_, 1) := by decide +kernel
theorem dX3_take_0 : decode cX3_take 0 = .ok (.aload_n 0, 1) := by decide +kernel
theorem dX3_take_1 : decode cX3_take 1 = .ok (.lload_n 2, 1) := by decide +kernel
theorem dX3_take_2 : decode cX3_take 2 = .ok (.putfield 15, 3) := by decide +kernel
theorem dX3_take_5 : decode cX3_take 5 = .ok (.aload_n 0, 1) := by decide +kernel
theorem dX3_take_6 : decode cX3_take 6 = .ok (.iconst 0, 1) := by decide +kernel
theorem dX3_take_7 : decode cX3_take 7 = .ok (.putfield 19, 3) := by decide +kernel
theorem dX3_take_10 : decode cX3_take 10 = .ok (.iconst 0, 1) := by decide +kernel
theorem dX3_take_11 : decode cX3_take 11 = .ok (.istore 4, 2) := by decide +kernel
theorem dX3_take_13 : decode cX3_take 13 = .ok (.iload 4, 2) := by decide +kernel
theorem dX3_take_15 : decode cX3_take 15 = .ok (.bipush 12, 2) := by decide +kernel
theorem dX3_take_17 : decode cX3_take 17 = .ok (.if_icmp .ge 54, 3) := by decide +kernel
theorem dX3_take_20 : decode cX3_take 20 = .ok (.aload_n 0, 1) := by decide +kernel
theorem dX3_take_21 : decode cX3_take 21 = .ok (.aload_n 1, 1) := by decide +kernel
theorem dX3_take_22 : decode cX3_take 22 = .ok (.iload 4, 2) := by decide +kernel
theorem dX3_take_24 : decode cX3_take 24 = .ok (.invokevirtual 23, 3) := by decide +kernel
theorem dX3_take_27 : decode cX3_take 27 = .ok (.invokevirtual 29, 3) := by decide +kernel
theorem dX3_take_30 : decode cX3_take 30 = .ok (.aload_n 0, 1) := by decide +kernel
theorem dX3_take_31 : decode cX3_take 31 = .ok (.aload_n 1, 1) := by decide +kernel
theorem dX3_take_32 : decode cX3_take 32 = .ok (.iload 4, 2) := by decide +kernel
theorem dX3_take_34 : decode cX3_take 34 = .ok (.invokevirtual 32, 3) := by decide +kernel
theorem dX3_take_37 : decode cX3_take 37 = .ok (.invokevirtual 29, 3) := by decide +kernel
theorem dX3_take_40 : decode cX3_take 40 = .ok (.iadd, 1) := by decide +kernel
theorem dX3_take_41 : decode cX3_take 41 = .ok (.istore 5, 2) := by decide +kernel
theorem dX3_take_43 : decode cX3_take 43 = .ok (.aload_n 0, 1) := by decide +kernel
theorem dX3_take_44 : decode cX3_take 44 = .ok (.getfield 9, 3) := by decide +kernel
theorem dX3_take_47 : decode cX3_take 47 = .ok (.iload 4, 2) := by decide +kernel
theorem dX3_take_49 : decode cX3_take 49 = .ok (.iload 5, 2) := by decide +kernel
theorem dX3_take_51 : decode cX3_take 51 = .ok (.invokestatic 35, 3) := by decide +kernel
theorem dX3_take_54 : decode cX3_take 54 = .ok (.aload_n 0, 1) := by decide +kernel
theorem dX3_take_55 : decode cX3_take 55 = .ok (.dup, 1) := by decide +kernel
theorem dX3_take_56 : decode cX3_take 56 = .ok (.getfield 19, 3) := by decide +kernel
theorem dX3_take_59 : decode cX3_take 59 = .ok (.iload 5, 2) := by decide +kernel
theorem dX3_take_61 : decode cX3_take 61 = .ok (.iadd, 1) := by decide +kernel
theorem dX3_take_62 : decode cX3_take 62 = .ok (.putfield 19, 3) := by decide +kernel
theorem dX3_take_65 : decode cX3_take 65 = .ok (.iinc 4 1, 3) := by decide +kernel
theorem dX3_take_68 : decode cX3_take 68 = .ok (.goto (-55), 3) := by decide +kernel
theorem dX3_take_71 : decode cX3_take 71 = .ok (.aload_n 0, 1) := by decide +kernel
theorem dX3_take_72 : decode cX3_take 72 = .ok (.aload_n 0, 1) := by decide +kernel
theorem dX3_take_73 : decode cX3_take 73 = .ok (.getfield 15, 3) := by decide +kernel
theorem dX3_take_76 : decode cX3_take 76 = .ok (.lconst 1, 1) := by decide +kernel
theorem dX3_take_77 : decode cX3_take 77 = .ok (.lcmp, 1) := by decide +kernel
theorem dX3_take_78 : decode cX3_take 78 = .ok (.ifCond .ne 23, 3) := by decide +kernel
theorem dX3_take_81 : decode cX3_take 81 = .ok (.aload_n 0, 1) := by decide +kernel
theorem dX3_take_82 : decode cX3_take 82 = .ok (.aload_n 1, 1) := by decide +kernel
theorem dX3_take_83 : decode cX3_take 83 = .ok (.invokevirtual 39, 3) := by decide +kernel
theorem dX3_take_86 : decode cX3_take 86 = .ok (.ifCond .eq 15, 3) := by decide +kernel
theorem dX3_take_89 : decode cX3_take 89 = .ok (.aload_n 0, 1) := by decide +kernel
theorem dX3_take_90 : decode cX3_take 90 = .ok (.aload_n 1, 1) := by decide +kernel
theorem dX3_take_91 : decode cX3_take 91 = .ok (.invokevirtual 43, 3) := by decide +kernel
theorem dX3_take_94 : decode cX3_take 94 = .ok (.ifCond .eq 7, 3) := by decide +kernel
theorem dX3_take_97 : decode cX3_take 97 = .ok (.iconst 1, 1) := by decide +kernel
theorem dX3_take_98 : decode cX3_take 98 = .ok (.goto 4, 3) := by decide +kernel
theorem dX3_take_101 : decode cX3_take 101 = .ok (.iconst 0, 1) := by decide +kernel
theorem dX3_take_102 : decode cX3_take 102 = .ok (.putfield 46, 3) := by decide +kernel
theorem dX3_take_105 : decode cX3_take 105 = .ok (.return_, 1) := by decide +kernel
theorem dX3_takeOut_0 : decode cX3_takeOut 0 = .ok (.iconst 0, 1) := by decide +kernel
theorem dX3_takeOut_1 : decode cX3_takeOut 1 = .ok (.istore_n 2, 1) := by decide +kernel
theorem dX3_takeOut_2 : decode cX3_takeOut 2 = .ok (.iload_n 1, 1) := by decide +kernel
theorem dX3_takeOut_3 : decode cX3_takeOut 3 = .ok (.iconst 1, 1) := by decide +kernel
theorem dX3_takeOut_4 : decode cX3_takeOut 4 = .ok (.if_icmp .le 38, 3) := by decide +kernel
theorem dX3_takeOut_7 : decode cX3_takeOut 7 = .ok (.iload_n 2, 1) := by decide +kernel
theorem dX3_takeOut_8 : decode cX3_takeOut 8 = .ok (.bipush 64, 2) := by decide +kernel
theorem dX3_takeOut_10 : decode cX3_takeOut 10 = .ok (.if_icmp .ge 32, 3) := by decide +kernel
theorem dX3_takeOut_13 : decode cX3_takeOut 13 = .ok (.aload_n 0, 1) := by decide +kernel
theorem dX3_takeOut_14 : decode cX3_takeOut 14 = .ok (.getfield 15, 3) := by decide +kernel
theorem dX3_takeOut_17 : decode cX3_takeOut 17 = .ok (.iload_n 1, 1) := by decide +kernel
theorem dX3_takeOut_18 : decode cX3_takeOut 18 = .ok (.i2l, 1) := by decide +kernel
theorem dX3_takeOut_19 : decode cX3_takeOut 19 = .ok (.lrem, 1) := by decide +kernel
theorem dX3_takeOut_20 : decode cX3_takeOut 20 = .ok (.lconst 0, 1) := by decide +kernel
theorem dX3_takeOut_21 : decode cX3_takeOut 21 = .ok (.lcmp, 1) := by decide +kernel
theorem dX3_takeOut_22 : decode cX3_takeOut 22 = .ok (.ifCond .ne 20, 3) := by decide +kernel
theorem dX3_takeOut_25 : decode cX3_takeOut 25 = .ok (.aload_n 0, 1) := by decide +kernel
theorem dX3_takeOut_26 : decode cX3_takeOut 26 = .ok (.dup, 1) := by decide +kernel
theorem dX3_takeOut_27 : decode cX3_takeOut 27 = .ok (.getfield 15, 3) := by decide +kernel
theorem dX3_takeOut_30 : decode cX3_takeOut 30 = .ok (.iload_n 1, 1) := by decide +kernel
theorem dX3_takeOut_31 : decode cX3_takeOut 31 = .ok (.i2l, 1) := by decide +kernel
theorem dX3_takeOut_32 : decode cX3_takeOut 32 = .ok (.ldiv, 1) := by decide +kernel
theorem dX3_takeOut_33 : decode cX3_takeOut 33 = .ok (.putfield 15, 3) := by decide +kernel
theorem dX3_takeOut_36 : decode cX3_takeOut 36 = .ok (.iinc 2 1, 3) := by decide +kernel
theorem dX3_takeOut_39 : decode cX3_takeOut 39 = .ok (.goto (-37), 3) := by decide +kernel
theorem dX3_takeOut_42 : decode cX3_takeOut 42 = .ok (.iload_n 2, 1) := by decide +kernel
theorem dX3_takeOut_43 : decode cX3_takeOut 43 = .ok (.ireturn, 1) := by decide +kernel
theorem dX3_keepsRules_0 : decode cX3_keepsRules 0 = .ok (.iconst 0, 1) := by decide +kernel
theorem dX3_keepsRules_1 : decode cX3_keepsRules 1 = .ok (.istore_n 2, 1) := by decide +kernel
theorem dX3_keepsRules_2 : decode cX3_keepsRules 2 = .ok (.iload_n 2, 1) := by decide +kernel
theorem dX3_keepsRules_3 : decode cX3_keepsRules 3 = .ok (.aload_n 1, 1) := by decide +kernel
theorem dX3_keepsRules_4 : decode cX3_keepsRules 4 = .ok (.getfield 50, 3) := by decide +kernel
theorem dX3_keepsRules_7 : decode cX3_keepsRules 7 = .ok (.if_icmp .ge 87, 3) := by decide +kernel
theorem dX3_keepsRules_10 : decode cX3_keepsRules 10 = .ok (.iconst 0, 1) := by decide +kernel
theorem dX3_keepsRules_11 : decode cX3_keepsRules 11 = .ok (.istore_n 3, 1) := by decide +kernel
theorem dX3_keepsRules_12 : decode cX3_keepsRules 12 = .ok (.iconst 0, 1) := by decide +kernel
theorem dX3_keepsRules_13 : decode cX3_keepsRules 13 = .ok (.istore 4, 2) := by decide +kernel
theorem dX3_keepsRules_15 : decode cX3_keepsRules 15 = .ok (.iload 4, 2) := by decide +kernel
theorem dX3_keepsRules_17 : decode cX3_keepsRules 17 = .ok (.aload_n 1, 1) := by decide +kernel
theorem dX3_keepsRules_18 : decode cX3_keepsRules 18 = .ok (.getfield 53, 3) := by decide +kernel
theorem dX3_keepsRules_21 : decode cX3_keepsRules 21 = .ok (.if_icmp .ge 41, 3) := by decide +kernel
theorem dX3_keepsRules_24 : decode cX3_keepsRules 24 = .ok (.aload_n 1, 1) := by decide +kernel
theorem dX3_keepsRules_25 : decode cX3_keepsRules 25 = .ok (.getfield 56, 3) := by decide +kernel
theorem dX3_keepsRules_28 : decode cX3_keepsRules 28 = .ok (.iload 4, 2) := by decide +kernel
theorem dX3_keepsRules_30 : decode cX3_keepsRules 30 = .ok (.invokestatic 59, 3) := by decide +kernel
theorem dX3_keepsRules_33 : decode cX3_keepsRules 33 = .ok (.aload_n 1, 1) := by decide +kernel
theorem dX3_keepsRules_34 : decode cX3_keepsRules 34 = .ok (.getfield 63, 3) := by decide +kernel
theorem dX3_keepsRules_37 : decode cX3_keepsRules 37 = .ok (.iload_n 2, 1) := by decide +kernel
theorem dX3_keepsRules_38 : decode cX3_keepsRules 38 = .ok (.invokestatic 59, 3) := by decide +kernel
theorem dX3_keepsRules_41 : decode cX3_keepsRules 41 = .ok (.if_icmp .ne 15, 3) := by decide +kernel
theorem dX3_keepsRules_44 : decode cX3_keepsRules 44 = .ok (.iload_n 3, 1) := by decide +kernel
theorem dX3_keepsRules_45 : decode cX3_keepsRules 45 = .ok (.aload_n 0, 1) := by decide +kernel
theorem dX3_keepsRules_46 : decode cX3_keepsRules 46 = .ok (.getfield 9, 3) := by decide +kernel
theorem dX3_keepsRules_49 : decode cX3_keepsRules 49 = .ok (.iload 4, 2) := by decide +kernel
theorem dX3_keepsRules_51 : decode cX3_keepsRules 51 = .ok (.invokestatic 59, 3) := by decide +kernel
theorem dX3_keepsRules_54 : decode cX3_keepsRules 54 = .ok (.iadd, 1) := by decide +kernel
theorem dX3_keepsRules_55 : decode cX3_keepsRules 55 = .ok (.istore_n 3, 1) := by decide +kernel
theorem dX3_keepsRules_56 : decode cX3_keepsRules 56 = .ok (.iinc 4 1, 3) := by decide +kernel
theorem dX3_keepsRules_59 : decode cX3_keepsRules 59 = .ok (.goto (-44), 3) := by decide +kernel
theorem dX3_keepsRules_62 : decode cX3_keepsRules 62 = .ok (.iload_n 3, 1) := by decide +kernel
theorem dX3_keepsRules_63 : decode cX3_keepsRules 63 = .ok (.aload_n 1, 1) := by decide +kernel
theorem dX3_keepsRules_64 : decode cX3_keepsRules 64 = .ok (.getfield 66, 3) := by decide +kernel
theorem dX3_keepsRules_67 : decode cX3_keepsRules 67 = .ok (.iload_n 2, 1) := by decide +kernel
theorem dX3_keepsRules_68 : decode cX3_keepsRules 68 = .ok (.invokestatic 59, 3) := by decide +kernel
theorem dX3_keepsRules_71 : decode cX3_keepsRules 71 = .ok (.if_icmp .lt 15, 3) := by decide +kernel
theorem dX3_keepsRules_74 : decode cX3_keepsRules 74 = .ok (.iload_n 3, 1) := by decide +kernel
theorem dX3_keepsRules_75 : decode cX3_keepsRules 75 = .ok (.aload_n 1, 1) := by decide +kernel
theorem dX3_keepsRules_76 : decode cX3_keepsRules 76 = .ok (.getfield 69, 3) := by decide +kernel
theorem dX3_keepsRules_79 : decode cX3_keepsRules 79 = .ok (.iload_n 2, 1) := by decide +kernel
theorem dX3_keepsRules_80 : decode cX3_keepsRules 80 = .ok (.invokestatic 59, 3) := by decide +kernel
theorem dX3_keepsRules_83 : decode cX3_keepsRules 83 = .ok (.if_icmp .le 5, 3) := by decide +kernel
theorem dX3_keepsRules_86 : decode cX3_keepsRules 86 = .ok (.iconst 0, 1) := by decide +kernel
theorem dX3_keepsRules_87 : decode cX3_keepsRules 87 = .ok (.ireturn, 1) := by decide +kernel
theorem dX3_keepsRules_88 : decode cX3_keepsRules 88 = .ok (.iinc 2 1, 3) := by decide +kernel
theorem dX3_keepsRules_91 : decode cX3_keepsRules 91 = .ok (.goto (-89), 3) := by decide +kernel
theorem dX3_keepsRules_94 : decode cX3_keepsRules 94 = .ok (.iconst 1, 1) := by decide +kernel
theorem dX3_keepsRules_95 : decode cX3_keepsRules 95 = .ok (.ireturn, 1) := by decide +kernel
theorem dX3_keepsPairs_0 : decode cX3_keepsPairs 0 = .ok (.iconst 0, 1) := by decide +kernel
theorem dX3_keepsPairs_1 : decode cX3_keepsPairs 1 = .ok (.istore_n 2, 1) := by decide +kernel
theorem dX3_keepsPairs_2 : decode cX3_keepsPairs 2 = .ok (.iload_n 2, 1) := by decide +kernel
theorem dX3_keepsPairs_3 : decode cX3_keepsPairs 3 = .ok (.aload_n 1, 1) := by decide +kernel
theorem dX3_keepsPairs_4 : decode cX3_keepsPairs 4 = .ok (.getfield 72, 3) := by decide +kernel
theorem dX3_keepsPairs_7 : decode cX3_keepsPairs 7 = .ok (.if_icmp .ge 47, 3) := by decide +kernel
theorem dX3_keepsPairs_10 : decode cX3_keepsPairs 10 = .ok (.aload_n 0, 1) := by decide +kernel
theorem dX3_keepsPairs_11 : decode cX3_keepsPairs 11 = .ok (.getfield 9, 3) := by decide +kernel
theorem dX3_keepsPairs_14 : decode cX3_keepsPairs 14 = .ok (.aload_n 1, 1) := by decide +kernel
theorem dX3_keepsPairs_15 : decode cX3_keepsPairs 15 = .ok (.getfield 75, 3) := by decide +kernel
theorem dX3_keepsPairs_18 : decode cX3_keepsPairs 18 = .ok (.iload_n 2, 1) := by decide +kernel
theorem dX3_keepsPairs_19 : decode cX3_keepsPairs 19 = .ok (.invokestatic 59, 3) := by decide +kernel
theorem dX3_keepsPairs_22 : decode cX3_keepsPairs 22 = .ok (.invokestatic 59, 3) := by decide +kernel
theorem dX3_keepsPairs_25 : decode cX3_keepsPairs 25 = .ok (.ifCond .le 23, 3) := by decide +kernel
theorem dX3_keepsPairs_28 : decode cX3_keepsPairs 28 = .ok (.aload_n 0, 1) := by decide +kernel
theorem dX3_keepsPairs_29 : decode cX3_keepsPairs 29 = .ok (.getfield 9, 3) := by decide +kernel
theorem dX3_keepsPairs_32 : decode cX3_keepsPairs 32 = .ok (.aload_n 1, 1) := by decide +kernel
theorem dX3_keepsPairs_33 : decode cX3_keepsPairs 33 = .ok (.getfield 78, 3) := by decide +kernel
theorem dX3_keepsPairs_36 : decode cX3_keepsPairs 36 = .ok (.iload_n 2, 1) := by decide +kernel
theorem dX3_keepsPairs_37 : decode cX3_keepsPairs 37 = .ok (.invokestatic 59, 3) := by decide +kernel
theorem dX3_keepsPairs_40 : decode cX3_keepsPairs 40 = .ok (.invokestatic 59, 3) := by decide +kernel
theorem dX3_keepsPairs_43 : decode cX3_keepsPairs 43 = .ok (.ifCond .le 5, 3) := by decide +kernel
theorem dX3_keepsPairs_46 : decode cX3_keepsPairs 46 = .ok (.iconst 0, 1) := by decide +kernel
theorem dX3_keepsPairs_47 : decode cX3_keepsPairs 47 = .ok (.ireturn, 1) := by decide +kernel
theorem dX3_keepsPairs_48 : decode cX3_keepsPairs 48 = .ok (.iinc 2 1, 3) := by decide +kernel
theorem dX3_keepsPairs_51 : decode cX3_keepsPairs 51 = .ok (.goto (-49), 3) := by decide +kernel
theorem dX3_keepsPairs_54 : decode cX3_keepsPairs 54 = .ok (.iconst 1, 1) := by decide +kernel
theorem dX3_keepsPairs_55 : decode cX3_keepsPairs 55 = .ok (.ireturn, 1) := by decide +kernel
theorem dX3_standingBits_0 : decode cX3_standingBits 0 = .ok (.iconst 0, 1) := by decide +kernel
theorem dX3_standingBits_1 : decode cX3_standingBits 1 = .ok (.istore_n 1, 1) := by decide +kernel
theorem dX3_standingBits_2 : decode cX3_standingBits 2 = .ok (.iconst 0, 1) := by decide +kernel
theorem dX3_standingBits_3 : decode cX3_standingBits 3 = .ok (.istore_n 2, 1) := by decide +kernel
theorem dX3_standingBits_4 : decode cX3_standingBits 4 = .ok (.iload_n 2, 1) := by decide +kernel
theorem dX3_standingBits_5 : decode cX3_standingBits 5 = .ok (.bipush 12, 2) := by decide +kernel
theorem dX3_standingBits_7 : decode cX3_standingBits 7 = .ok (.if_icmp .ge 26, 3) := by decide +kernel
theorem dX3_standingBits_10 : decode cX3_standingBits 10 = .ok (.aload_n 0, 1) := by decide +kernel
theorem dX3_standingBits_11 : decode cX3_standingBits 11 = .ok (.getfield 9, 3) := by decide +kernel
theorem dX3_standingBits_14 : decode cX3_standingBits 14 = .ok (.iload_n 2, 1) := by decide +kernel
theorem dX3_standingBits_15 : decode cX3_standingBits 15 = .ok (.invokestatic 59, 3) := by decide +kernel
theorem dX3_standingBits_18 : decode cX3_standingBits 18 = .ok (.ifCond .le 9, 3) := by decide +kernel
theorem dX3_standingBits_21 : decode cX3_standingBits 21 = .ok (.iload_n 1, 1) := by decide +kernel
theorem dX3_standingBits_22 : decode cX3_standingBits 22 = .ok (.iconst 1, 1) := by decide +kernel
theorem dX3_standingBits_23 : decode cX3_standingBits 23 = .ok (.iload_n 2, 1) := by decide +kernel
theorem dX3_standingBits_24 : decode cX3_standingBits 24 = .ok (.ishl, 1) := by decide +kernel
theorem dX3_standingBits_25 : decode cX3_standingBits 25 = .ok (.ior, 1) := by decide +kernel
theorem dX3_standingBits_26 : decode cX3_standingBits 26 = .ok (.istore_n 1, 1) := by decide +kernel
theorem dX3_standingBits_27 : decode cX3_standingBits 27 = .ok (.iinc 2 1, 3) := by decide +kernel
theorem dX3_standingBits_30 : decode cX3_standingBits 30 = .ok (.goto (-26), 3) := by decide +kernel
theorem dX3_standingBits_33 : decode cX3_standingBits 33 = .ok (.iload_n 1, 1) := by decide +kernel
theorem dX3_standingBits_34 : decode cX3_standingBits 34 = .ok (.ireturn, 1) := by decide +kernel
theorem dX3_toldAs_0 : decode cX3_toldAs 0 = .ok (.aload_n 0, 1) := by decide +kernel
theorem dX3_toldAs_1 : decode cX3_toldAs 1 = .ok (.getfield 15, 3) := by decide +kernel
theorem dX3_toldAs_4 : decode cX3_toldAs 4 = .ok (.lconst 1, 1) := by decide +kernel
theorem dX3_toldAs_5 : decode cX3_toldAs 5 = .ok (.lcmp, 1) := by decide +kernel
theorem dX3_toldAs_6 : decode cX3_toldAs 6 = .ok (.ifCond .eq 5, 3) := by decide +kernel
theorem dX3_toldAs_9 : decode cX3_toldAs 9 = .ok (.iconst 4, 1) := by decide +kernel
theorem dX3_toldAs_10 : decode cX3_toldAs 10 = .ok (.ireturn, 1) := by decide +kernel
theorem dX3_toldAs_11 : decode cX3_toldAs 11 = .ok (.aload_n 0, 1) := by decide +kernel
theorem dX3_toldAs_12 : decode cX3_toldAs 12 = .ok (.getfield 46, 3) := by decide +kernel
theorem dX3_toldAs_15 : decode cX3_toldAs 15 = .ok (.ifCond .ne 5, 3) := by decide +kernel
theorem dX3_toldAs_18 : decode cX3_toldAs 18 = .ok (.iconst 3, 1) := by decide +kernel
theorem dX3_toldAs_19 : decode cX3_toldAs 19 = .ok (.ireturn, 1) := by decide +kernel
theorem dX3_toldAs_20 : decode cX3_toldAs 20 = .ok (.aload_n 0, 1) := by decide +kernel
theorem dX3_toldAs_21 : decode cX3_toldAs 21 = .ok (.getfield 19, 3) := by decide +kernel
theorem dX3_toldAs_24 : decode cX3_toldAs 24 = .ok (.iconst 1, 1) := by decide +kernel
theorem dX3_toldAs_25 : decode cX3_toldAs 25 = .ok (.if_icmp .ne 5, 3) := by decide +kernel
theorem dX3_toldAs_28 : decode cX3_toldAs 28 = .ok (.iconst 2, 1) := by decide +kernel
theorem dX3_toldAs_29 : decode cX3_toldAs 29 = .ok (.ireturn, 1) := by decide +kernel
theorem dX3_toldAs_30 : decode cX3_toldAs 30 = .ok (.iconst 0, 1) := by decide +kernel
theorem dX3_toldAs_31 : decode cX3_toldAs 31 = .ok (.istore_n 1, 1) := by decide +kernel
theorem dX3_toldAs_32 : decode cX3_toldAs 32 = .ok (.iload_n 1, 1) := by decide +kernel
theorem dX3_toldAs_33 : decode cX3_toldAs 33 = .ok (.bipush 12, 2) := by decide +kernel
theorem dX3_toldAs_35 : decode cX3_toldAs 35 = .ok (.if_icmp .ge 23, 3) := by decide +kernel
theorem dX3_toldAs_38 : decode cX3_toldAs 38 = .ok (.aload_n 0, 1) := by decide +kernel
theorem dX3_toldAs_39 : decode cX3_toldAs 39 = .ok (.getfield 9, 3) := by decide +kernel
theorem dX3_toldAs_42 : decode cX3_toldAs 42 = .ok (.iload_n 1, 1) := by decide +kernel
theorem dX3_toldAs_43 : decode cX3_toldAs 43 = .ok (.invokestatic 59, 3) := by decide +kernel
theorem dX3_toldAs_46 : decode cX3_toldAs 46 = .ok (.iconst 3, 1) := by decide +kernel
theorem dX3_toldAs_47 : decode cX3_toldAs 47 = .ok (.if_icmp .lt 5, 3) := by decide +kernel
theorem dX3_toldAs_50 : decode cX3_toldAs 50 = .ok (.iconst 5, 1) := by decide +kernel
theorem dX3_toldAs_51 : decode cX3_toldAs 51 = .ok (.ireturn, 1) := by decide +kernel
theorem dX3_toldAs_52 : decode cX3_toldAs 52 = .ok (.iinc 1 1, 3) := by decide +kernel
theorem dX3_toldAs_55 : decode cX3_toldAs 55 = .ok (.goto (-23), 3) := by decide +kernel
theorem dX3_toldAs_58 : decode cX3_toldAs 58 = .ok (.iconst 1, 1) := by decide +kernel
theorem dX3_toldAs_59 : decode cX3_toldAs 59 = .ok (.ireturn, 1) := by decide +kernel
theorem dX4_init_0 : decode cX4_init 0 = .ok (.aload_n 0, 1) := by decide +kernel
theorem dX4_init_1 : decode cX4_init 1 = .ok (.invokespecial 3, 3) := by decide +kernel
theorem dX4_init_4 : decode cX4_init 4 = .ok (.return_, 1) := by decide +kernel
theorem dX4_begin_0 : decode cX4_begin 0 = .ok (.aload_n 0, 1) := by decide +kernel
theorem dX4_begin_1 : decode cX4_begin 1 = .ok (.iload_n 1, 1) := by decide +kernel
theorem dX4_begin_2 : decode cX4_begin 2 = .ok (.putfield 9, 3) := by decide +kernel
theorem dX4_begin_5 : decode cX4_begin 5 = .ok (.aload_n 0, 1) := by decide +kernel
theorem dX4_begin_6 : decode cX4_begin 6 = .ok (.iconst 0, 1) := by decide +kernel
theorem dX4_begin_7 : decode cX4_begin 7 = .ok (.putfield 15, 3) := by decide +kernel
theorem dX4_begin_10 : decode cX4_begin 10 = .ok (.aload_n 0, 1) := by decide +kernel
theorem dX4_begin_11 : decode cX4_begin 11 = .ok (.ldc2_w 18, 3) := by decide +kernel
theorem dX4_begin_14 : decode cX4_begin 14 = .ok (.putfield 20, 3) := by decide +kernel
theorem dX4_begin_17 : decode cX4_begin 17 = .ok (.return_, 1) := by decide +kernel
theorem dX4_offer_0 : decode cX4_offer 0 = .ok (.aload_n 0, 1) := by decide +kernel
theorem dX4_offer_1 : decode cX4_offer 1 = .ok (.getfield 15, 3) := by decide +kernel
theorem dX4_offer_4 : decode cX4_offer 4 = .ok (.aload_n 0, 1) := by decide +kernel
theorem dX4_offer_5 : decode cX4_offer 5 = .ok (.getfield 9, 3) := by decide +kernel
theorem dX4_offer_8 : decode cX4_offer 8 = .ok (.if_icmp .ne 8, 3) := by decide +kernel
theorem dX4_offer_11 : decode cX4_offer 11 = .ok (.aload_n 0, 1) := by decide +kernel
theorem dX4_offer_12 : decode cX4_offer 12 = .ok (.lload_n 1, 1) := by decide +kernel
theorem dX4_offer_13 : decode cX4_offer 13 = .ok (.putfield 20, 3) := by decide +kernel
theorem dX4_offer_16 : decode cX4_offer 16 = .ok (.aload_n 0, 1) := by decide +kernel
theorem dX4_offer_17 : decode cX4_offer 17 = .ok (.dup, 1) := by decide +kernel
theorem dX4_offer_18 : decode cX4_offer 18 = .ok (.getfield 15, 3) := by decide +kernel
theorem dX4_offer_21 : decode cX4_offer 21 = .ok (.iconst 1, 1) := by decide +kernel
theorem dX4_offer_22 : decode cX4_offer 22 = .ok (.iadd, 1) := by decide +kernel
theorem dX4_offer_23 : decode cX4_offer 23 = .ok (.putfield 15, 3) := by decide +kernel
theorem dX4_offer_26 : decode cX4_offer 26 = .ok (.return_, 1) := by decide +kernel
theorem dX4_answer_0 : decode cX4_answer 0 = .ok (.aload_n 0, 1) := by decide +kernel
theorem dX4_answer_1 : decode cX4_answer 1 = .ok (.getfield 9, 3) := by decide +kernel
theorem dX4_answer_4 : decode cX4_answer 4 = .ok (.iconst (-1), 1) := by decide +kernel
theorem dX4_answer_5 : decode cX4_answer 5 = .ok (.if_icmp .ne 11, 3) := by decide +kernel
theorem dX4_answer_8 : decode cX4_answer 8 = .ok (.aload_n 0, 1) := by decide +kernel
theorem dX4_answer_9 : decode cX4_answer 9 = .ok (.getfield 15, 3) := by decide +kernel
theorem dX4_answer_12 : decode cX4_answer 12 = .ok (.i2l, 1) := by decide +kernel
theorem dX4_answer_13 : decode cX4_answer 13 = .ok (.goto 7, 3) := by decide +kernel
theorem dX4_answer_16 : decode cX4_answer 16 = .ok (.aload_n 0, 1) := by decide +kernel
theorem dX4_answer_17 : decode cX4_answer 17 = .ok (.getfield 20, 3) := by decide +kernel
theorem dX4_answer_20 : decode cX4_answer 20 = .ok (.lreturn, 1) := by decide +kernel
theorem dX5_init_0 : decode cX5_init 0 = .ok (.aload_n 0, 1) := by decide +kernel
theorem dX5_init_1 : decode cX5_init 1 = .ok (.invokespecial 3, 3) := by decide +kernel
theorem dX5_init_4 : decode cX5_init 4 = .ok (.aload_n 0, 1) := by decide +kernel
theorem dX5_init_5 : decode cX5_init 5 = .ok (.aload_n 1, 1) := by decide +kernel
theorem dX5_init_6 : decode cX5_init 6 = .ok (.putfield 9, 3) := by decide +kernel
theorem dX5_init_9 : decode cX5_init 9 = .ok (.aload_n 0, 1) := by decide +kernel
theorem dX5_init_10 : decode cX5_init 10 = .ok (.aload_n 2, 1) := by decide +kernel
theorem dX5_init_11 : decode cX5_init 11 = .ok (.putfield 15, 3) := by decide +kernel
theorem dX5_init_14 : decode cX5_init 14 = .ok (.return_, 1) := by decide +kernel
theorem dX5_readAll_0 : decode cX5_readAll 0 = .ok (.aload_n 0, 1) := by decide +kernel
theorem dX5_readAll_1 : decode cX5_readAll 1 = .ok (.iconst 0, 1) := by decide +kernel
theorem dX5_readAll_2 : decode cX5_readAll 2 = .ok (.putfield 19, 3) := by decide +kernel
theorem dX5_readAll_5 : decode cX5_readAll 5 = .ok (.aload_n 0, 1) := by decide +kernel
theorem dX5_readAll_6 : decode cX5_readAll 6 = .ok (.iconst 0, 1) := by decide +kernel
theorem dX5_readAll_7 : decode cX5_readAll 7 = .ok (.putfield 23, 3) := by decide +kernel
theorem dX5_readAll_10 : decode cX5_readAll 10 = .ok (.aload_n 0, 1) := by decide +kernel
theorem dX5_readAll_11 : decode cX5_readAll 11 = .ok (.getfield 15, 3) := by decide +kernel
theorem dX5_readAll_14 : decode cX5_readAll 14 = .ok (.invokevirtual 26, 3) := by decide +kernel
theorem dX5_readAll_17 : decode cX5_readAll 17 = .ok (.aload_n 0, 1) := by decide +kernel
theorem dX5_readAll_18 : decode cX5_readAll 18 = .ok (.invokevirtual 31, 3) := by decide +kernel
theorem dX5_readAll_21 : decode cX5_readAll 21 = .ok (.aload_n 0, 1) := by decide +kernel
theorem dX5_readAll_22 : decode cX5_readAll 22 = .ok (.ldc 34, 2) := by decide +kernel
theorem dX5_readAll_24 : decode cX5_readAll 24 = .ok (.invokevirtual 36, 3) := by decide +kernel
theorem dX5_readAll_27 : decode cX5_readAll 27 = .ok (.ifCond .ne 8, 3) := by decide +kernel
theorem dX5_readAll_30 : decode cX5_readAll 30 = .ok (.aload_n 0, 1) := by decide +kernel
theorem dX5_readAll_31 : decode cX5_readAll 31 = .ok (.iconst 1, 1) := by decide +kernel
theorem dX5_readAll_32 : decode cX5_readAll 32 = .ok (.invokevirtual 40, 3) := by decide +kernel
theorem dX5_readAll_35 : decode cX5_readAll 35 = .ok (.iconst 0, 1) := by decide +kernel
theorem dX5_readAll_36 : decode cX5_readAll 36 = .ok (.istore_n 1, 1) := by decide +kernel
theorem dX5_readAll_37 : decode cX5_readAll 37 = .ok (.iload_n 1, 1) := by decide +kernel
theorem dX5_readAll_38 : decode cX5_readAll 38 = .ok (.bipush 12, 2) := by decide +kernel
theorem dX5_readAll_40 : decode cX5_readAll 40 = .ok (.if_icmp .gt 29, 3) := by decide +kernel
theorem dX5_readAll_43 : decode cX5_readAll 43 = .ok (.aload_n 0, 1) := by decide +kernel
theorem dX5_readAll_44 : decode cX5_readAll 44 = .ok (.getfield 19, 3) := by decide +kernel
theorem dX5_readAll_47 : decode cX5_readAll 47 = .ok (.ifCond .ne 22, 3) := by decide +kernel
theorem dX5_readAll_50 : decode cX5_readAll 50 = .ok (.aload_n 0, 1) := by decide +kernel
theorem dX5_readAll_51 : decode cX5_readAll 51 = .ok (.ldc 34, 2) := by decide +kernel
theorem dX5_readAll_53 : decode cX5_readAll 53 = .ok (.invokevirtual 36, 3) := by decide +kernel
theorem dX5_readAll_56 : decode cX5_readAll 56 = .ok (.ifCond .eq 13, 3) := by decide +kernel
theorem dX5_readAll_59 : decode cX5_readAll 59 = .ok (.aload_n 0, 1) := by decide +kernel
theorem dX5_readAll_60 : decode cX5_readAll 60 = .ok (.invokevirtual 44, 3) := by decide +kernel
theorem dX5_readAll_63 : decode cX5_readAll 63 = .ok (.iinc 1 1, 3) := by decide +kernel
theorem dX5_readAll_66 : decode cX5_readAll 66 = .ok (.goto (-29), 3) := by decide +kernel
theorem dX5_readAll_69 : decode cX5_readAll 69 = .ok (.iconst 0, 1) := by decide +kernel
theorem dX5_readAll_70 : decode cX5_readAll 70 = .ok (.istore_n 1, 1) := by decide +kernel
theorem dX5_readAll_71 : decode cX5_readAll 71 = .ok (.iload_n 1, 1) := by decide +kernel
theorem dX5_readAll_72 : decode cX5_readAll 72 = .ok (.iconst 5, 1) := by decide +kernel
theorem dX5_readAll_73 : decode cX5_readAll 73 = .ok (.if_icmp .gt 29, 3) := by decide +kernel
theorem dX5_readAll_76 : decode cX5_readAll 76 = .ok (.aload_n 0, 1) := by decide +kernel
theorem dX5_readAll_77 : decode cX5_readAll 77 = .ok (.getfield 19, 3) := by decide +kernel
theorem dX5_readAll_80 : decode cX5_readAll 80 = .ok (.ifCond .ne 22, 3) := by decide +kernel
theorem dX5_readAll_83 : decode cX5_readAll 83 = .ok (.aload_n 0, 1) := by decide +kernel
theorem dX5_readAll_84 : decode cX5_readAll 84 = .ok (.ldc 47, 2) := by decide +kernel
theorem dX5_readAll_86 : decode cX5_readAll 86 = .ok (.invokevirtual 36, 3) := by decide +kernel
theorem dX5_readAll_89 : decode cX5_readAll 89 = .ok (.ifCond .eq 13, 3) := by decide +kernel
theorem dX5_readAll_92 : decode cX5_readAll 92 = .ok (.aload_n 0, 1) := by decide +kernel
theorem dX5_readAll_93 : decode cX5_readAll 93 = .ok (.invokevirtual 49, 3) := by decide +kernel
theorem dX5_readAll_96 : decode cX5_readAll 96 = .ok (.iinc 1 1, 3) := by decide +kernel
theorem dX5_readAll_99 : decode cX5_readAll 99 = .ok (.goto (-28), 3) := by decide +kernel
theorem dX5_readAll_102 : decode cX5_readAll 102 = .ok (.iconst 0, 1) := by decide +kernel
theorem dX5_readAll_103 : decode cX5_readAll 103 = .ok (.istore_n 1, 1) := by decide +kernel
theorem dX5_readAll_104 : decode cX5_readAll 104 = .ok (.iload_n 1, 1) := by decide +kernel
theorem dX5_readAll_105 : decode cX5_readAll 105 = .ok (.bipush 8, 2) := by decide +kernel
theorem dX5_readAll_107 : decode cX5_readAll 107 = .ok (.if_icmp .gt 29, 3) := by decide +kernel
theorem dX5_readAll_110 : decode cX5_readAll 110 = .ok (.aload_n 0, 1) := by decide +kernel
theorem dX5_readAll_111 : decode cX5_readAll 111 = .ok (.getfield 19, 3) := by decide +kernel
theorem dX5_readAll_114 : decode cX5_readAll 114 = .ok (.ifCond .ne 22, 3) := by decide +kernel
theorem dX5_readAll_117 : decode cX5_readAll 117 = .ok (.aload_n 0, 1) := by decide +kernel
theorem dX5_readAll_118 : decode cX5_readAll 118 = .ok (.ldc 52, 2) := by decide +kernel
theorem dX5_readAll_120 : decode cX5_readAll 120 = .ok (.invokevirtual 36, 3) := by decide +kernel
theorem dX5_readAll_123 : decode cX5_readAll 123 = .ok (.ifCond .eq 13, 3) := by decide +kernel
theorem dX5_readAll_126 : decode cX5_readAll 126 = .ok (.aload_n 0, 1) := by decide +kernel
theorem dX5_readAll_127 : decode cX5_readAll 127 = .ok (.invokevirtual 54, 3) := by decide +kernel
theorem dX5_readAll_130 : decode cX5_readAll 130 = .ok (.iinc 1 1, 3) := by decide +kernel
theorem dX5_readAll_133 : decode cX5_readAll 133 = .ok (.goto (-29), 3) := by decide +kernel
theorem dX5_readAll_136 : decode cX5_readAll 136 = .ok (.aload_n 0, 1) := by decide +kernel
theorem dX5_readAll_137 : decode cX5_readAll 137 = .ok (.getfield 19, 3) := by decide +kernel
theorem dX5_readAll_140 : decode cX5_readAll 140 = .ok (.ifCond .ne 15, 3) := by decide +kernel
theorem dX5_readAll_143 : decode cX5_readAll 143 = .ok (.aload_n 0, 1) := by decide +kernel
theorem dX5_readAll_144 : decode cX5_readAll 144 = .ok (.getfield 57, 3) := by decide +kernel
theorem dX5_readAll_147 : decode cX5_readAll 147 = .ok (.ifCond .eq 8, 3) := by decide +kernel
theorem dX5_readAll_150 : decode cX5_readAll 150 = .ok (.aload_n 0, 1) := by decide +kernel
theorem dX5_readAll_151 : decode cX5_readAll 151 = .ok (.iconst 1, 1) := by decide +kernel
theorem dX5_readAll_152 : decode cX5_readAll 152 = .ok (.invokevirtual 40, 3) := by decide +kernel
theorem dX5_readAll_155 : decode cX5_readAll 155 = .ok (.aload_n 0, 1) := by decide +kernel
theorem dX5_readAll_156 : decode cX5_readAll 156 = .ok (.getfield 19, 3) := by decide +kernel
theorem dX5_readAll_159 : decode cX5_readAll 159 = .ok (.ifCond .ne 7, 3) := by decide +kernel
theorem dX5_readAll_162 : decode cX5_readAll 162 = .ok (.iconst 1, 1) := by decide +kernel
theorem dX5_readAll_163 : decode cX5_readAll 163 = .ok (.goto 4, 3) := by decide +kernel
theorem dX5_readAll_166 : decode cX5_readAll 166 = .ok (.iconst 0, 1) := by decide +kernel
theorem dX5_readAll_167 : decode cX5_readAll 167 = .ok (.ireturn, 1) := by decide +kernel
theorem dX5_readThing_0 : decode cX5_readThing 0 = .ok (.aload_n 0, 1) := by decide +kernel
theorem dX5_readThing_1 : decode cX5_readThing 1 = .ok (.getfield 15, 3) := by decide +kernel
theorem dX5_readThing_4 : decode cX5_readThing 4 = .ok (.getfield 60, 3) := by decide +kernel
theorem dX5_readThing_7 : decode cX5_readThing 7 = .ok (.bipush 12, 2) := by decide +kernel
theorem dX5_readThing_9 : decode cX5_readThing 9 = .ok (.if_icmp .lt 9, 3) := by decide +kernel
theorem dX5_readThing_12 : decode cX5_readThing 12 = .ok (.aload_n 0, 1) := by decide +kernel
theorem dX5_readThing_13 : decode cX5_readThing 13 = .ok (.iconst 3, 1) := by decide +kernel
theorem dX5_readThing_14 : decode cX5_readThing 14 = .ok (.invokevirtual 40, 3) := by decide +kernel
theorem dX5_readThing_17 : decode cX5_readThing 17 = .ok (.return_, 1) := by decide +kernel
theorem dX5_readThing_18 : decode cX5_readThing 18 = .ok (.aload_n 0, 1) := by decide +kernel
theorem dX5_readThing_19 : decode cX5_readThing 19 = .ok (.invokevirtual 31, 3) := by decide +kernel
theorem dX5_readThing_22 : decode cX5_readThing 22 = .ok (.aload_n 0, 1) := by decide +kernel
theorem dX5_readThing_23 : decode cX5_readThing 23 = .ok (.iconst 2, 1) := by decide +kernel
theorem dX5_readThing_24 : decode cX5_readThing 24 = .ok (.sipush 199, 3) := by decide +kernel
theorem dX5_readThing_27 : decode cX5_readThing 27 = .ok (.aload_n 0, 1) := by decide +kernel
theorem dX5_readThing_28 : decode cX5_readThing 28 = .ok (.iconst 0, 1) := by decide +kernel
theorem dX5_readThing_29 : decode cX5_readThing 29 = .ok (.invokevirtual 63, 3) := by decide +kernel
theorem dX5_readThing_32 : decode cX5_readThing 32 = .ok (.invokevirtual 67, 3) := by decide +kernel
theorem dX5_readThing_35 : decode cX5_readThing 35 = .ok (.istore_n 1, 1) := by decide +kernel
theorem dX5_readThing_36 : decode cX5_readThing 36 = .ok (.iconst 0, 1) := by decide +kernel
theorem dX5_readThing_37 : decode cX5_readThing 37 = .ok (.istore_n 2, 1) := by decide +kernel
theorem dX5_readThing_38 : decode cX5_readThing 38 = .ok (.aload_n 0, 1) := by decide +kernel
theorem dX5_readThing_39 : decode cX5_readThing 39 = .ok (.getfield 19, 3) := by decide +kernel
theorem dX5_readThing_42 : decode cX5_readThing 42 = .ok (.ifCond .ne 30, 3) := by decide +kernel
theorem dX5_readThing_45 : decode cX5_readThing 45 = .ok (.aload_n 0, 1) := by decide +kernel
theorem dX5_readThing_46 : decode cX5_readThing 46 = .ok (.ldc 71, 2) := by decide +kernel
theorem dX5_readThing_48 : decode cX5_readThing 48 = .ok (.invokevirtual 36, 3) := by decide +kernel
theorem dX5_readThing_51 : decode cX5_readThing 51 = .ok (.ifCond .eq 21, 3) := by decide +kernel
theorem dX5_readThing_54 : decode cX5_readThing 54 = .ok (.aload_n 0, 1) := by decide +kernel
theorem dX5_readThing_55 : decode cX5_readThing 55 = .ok (.invokevirtual 31, 3) := by decide +kernel
theorem dX5_readThing_58 : decode cX5_readThing 58 = .ok (.aload_n 0, 1) := by decide +kernel
theorem dX5_readThing_59 : decode cX5_readThing 59 = .ok (.iconst 2, 1) := by decide +kernel
theorem dX5_readThing_60 : decode cX5_readThing 60 = .ok (.sipush 199, 3) := by decide +kernel
theorem dX5_readThing_63 : decode cX5_readThing 63 = .ok (.aload_n 0, 1) := by decide +kernel
theorem dX5_readThing_64 : decode cX5_readThing 64 = .ok (.iload_n 1, 1) := by decide +kernel
theorem dX5_readThing_65 : decode cX5_readThing 65 = .ok (.invokevirtual 63, 3) := by decide +kernel
theorem dX5_readThing_68 : decode cX5_readThing 68 = .ok (.invokevirtual 67, 3) := by decide +kernel
theorem dX5_readThing_71 : decode cX5_readThing 71 = .ok (.istore_n 2, 1) := by decide +kernel
theorem dX5_readThing_72 : decode cX5_readThing 72 = .ok (.aload_n 0, 1) := by decide +kernel
theorem dX5_readThing_73 : decode cX5_readThing 73 = .ok (.iconst 0, 1) := by decide +kernel
theorem dX5_readThing_74 : decode cX5_readThing 74 = .ok (.iconst 4, 1) := by decide +kernel
theorem dX5_readThing_75 : decode cX5_readThing 75 = .ok (.iconst 1, 1) := by decide +kernel
theorem dX5_readThing_76 : decode cX5_readThing 76 = .ok (.invokevirtual 67, 3) := by decide +kernel
theorem dX5_readThing_79 : decode cX5_readThing 79 = .ok (.istore_n 3, 1) := by decide +kernel
theorem dX5_readThing_80 : decode cX5_readThing 80 = .ok (.aload_n 0, 1) := by decide +kernel
theorem dX5_readThing_81 : decode cX5_readThing 81 = .ok (.invokevirtual 73, 3) := by decide +kernel
theorem dX5_readThing_84 : decode cX5_readThing 84 = .ok (.aload_n 0, 1) := by decide +kernel
theorem dX5_readThing_85 : decode cX5_readThing 85 = .ok (.getfield 19, 3) := by decide +kernel
theorem dX5_readThing_88 : decode cX5_readThing 88 = .ok (.ifCond .ne 13, 3) := by decide +kernel
theorem dX5_readThing_91 : decode cX5_readThing 91 = .ok (.aload_n 0, 1) := by decide +kernel
theorem dX5_readThing_92 : decode cX5_readThing 92 = .ok (.getfield 15, 3) := by decide +kernel
theorem dX5_readThing_95 : decode cX5_readThing 95 = .ok (.iload_n 1, 1) := by decide +kernel
theorem dX5_readThing_96 : decode cX5_readThing 96 = .ok (.iload_n 2, 1) := by decide +kernel
theorem dX5_readThing_97 : decode cX5_readThing 97 = .ok (.iload_n 3, 1) := by decide +kernel
theorem dX5_readThing_98 : decode cX5_readThing 98 = .ok (.invokevirtual 76, 3) := by decide +kernel
theorem dX5_readThing_101 : decode cX5_readThing 101 = .ok (.return_, 1) := by decide +kernel
theorem dX5_readRule_0 : decode cX5_readRule 0 = .ok (.aload_n 0, 1) := by decide +kernel
theorem dX5_readRule_1 : decode cX5_readRule 1 = .ok (.invokevirtual 31, 3) := by decide +kernel
theorem dX5_readRule_4 : decode cX5_readRule 4 = .ok (.aload_n 0, 1) := by decide +kernel
theorem dX5_readRule_5 : decode cX5_readRule 5 = .ok (.iconst 0, 1) := by decide +kernel
theorem dX5_readRule_6 : decode cX5_readRule 6 = .ok (.iconst 4, 1) := by decide +kernel
theorem dX5_readRule_7 : decode cX5_readRule 7 = .ok (.aload_n 0, 1) := by decide +kernel
theorem dX5_readRule_8 : decode cX5_readRule 8 = .ok (.getfield 15, 3) := by decide +kernel
theorem dX5_readRule_11 : decode cX5_readRule 11 = .ok (.aload_n 0, 1) := by decide +kernel
theorem dX5_readRule_12 : decode cX5_readRule 12 = .ok (.getfield 80, 3) := by decide +kernel
theorem dX5_readRule_15 : decode cX5_readRule 15 = .ok (.invokevirtual 83, 3) := by decide +kernel
theorem dX5_readRule_18 : decode cX5_readRule 18 = .ok (.ifCond .ne 7, 3) := by decide +kernel
theorem dX5_readRule_21 : decode cX5_readRule 21 = .ok (.iconst 1, 1) := by decide +kernel
theorem dX5_readRule_22 : decode cX5_readRule 22 = .ok (.goto 4, 3) := by decide +kernel
theorem dX5_readRule_25 : decode cX5_readRule 25 = .ok (.iconst 0, 1) := by decide +kernel
theorem dX5_readRule_26 : decode cX5_readRule 26 = .ok (.invokevirtual 67, 3) := by decide +kernel
theorem dX5_readRule_29 : decode cX5_readRule 29 = .ok (.istore_n 1, 1) := by decide +kernel
theorem dX5_readRule_30 : decode cX5_readRule 30 = .ok (.aload_n 0, 1) := by decide +kernel
theorem dX5_readRule_31 : decode cX5_readRule 31 = .ok (.iconst 0, 1) := by decide +kernel
theorem dX5_readRule_32 : decode cX5_readRule 32 = .ok (.bipush 9, 2) := by decide +kernel
theorem dX5_readRule_34 : decode cX5_readRule 34 = .ok (.iconst 1, 1) := by decide +kernel
theorem dX5_readRule_35 : decode cX5_readRule 35 = .ok (.invokevirtual 67, 3) := by decide +kernel
theorem dX5_readRule_38 : decode cX5_readRule 38 = .ok (.istore_n 2, 1) := by decide +kernel
theorem dX5_readRule_39 : decode cX5_readRule 39 = .ok (.aload_n 0, 1) := by decide +kernel
theorem dX5_readRule_40 : decode cX5_readRule 40 = .ok (.iload_n 2, 1) := by decide +kernel
theorem dX5_readRule_41 : decode cX5_readRule 41 = .ok (.bipush 9, 2) := by decide +kernel
theorem dX5_readRule_43 : decode cX5_readRule 43 = .ok (.iconst 1, 1) := by decide +kernel
theorem dX5_readRule_44 : decode cX5_readRule 44 = .ok (.invokevirtual 67, 3) := by decide +kernel
theorem dX5_readRule_47 : decode cX5_readRule 47 = .ok (.istore_n 3, 1) := by decide +kernel
theorem dX5_readRule_48 : decode cX5_readRule 48 = .ok (.aload_n 0, 1) := by decide +kernel
theorem dX5_readRule_49 : decode cX5_readRule 49 = .ok (.invokevirtual 73, 3) := by decide +kernel
theorem dX5_readRule_52 : decode cX5_readRule 52 = .ok (.aload_n 0, 1) := by decide +kernel
theorem dX5_readRule_53 : decode cX5_readRule 53 = .ok (.getfield 19, 3) := by decide +kernel
theorem dX5_readRule_56 : decode cX5_readRule 56 = .ok (.ifCond .ne 13, 3) := by decide +kernel
theorem dX5_readRule_59 : decode cX5_readRule 59 = .ok (.aload_n 0, 1) := by decide +kernel
theorem dX5_readRule_60 : decode cX5_readRule 60 = .ok (.getfield 15, 3) := by decide +kernel
theorem dX5_readRule_63 : decode cX5_readRule 63 = .ok (.iload_n 1, 1) := by decide +kernel
theorem dX5_readRule_64 : decode cX5_readRule 64 = .ok (.iload_n 2, 1) := by decide +kernel
theorem dX5_readRule_65 : decode cX5_readRule 65 = .ok (.iload_n 3, 1) := by decide +kernel
theorem dX5_readRule_66 : decode cX5_readRule 66 = .ok (.invokevirtual 86, 3) := by decide +kernel
theorem dX5_readRule_69 : decode cX5_readRule 69 = .ok (.return_, 1) := by decide +kernel
theorem dX5_readPair_0 : decode cX5_readPair 0 = .ok (.aload_n 0, 1) := by decide +kernel
theorem dX5_readPair_1 : decode cX5_readPair 1 = .ok (.getfield 15, 3) := by decide +kernel
theorem dX5_readPair_4 : decode cX5_readPair 4 = .ok (.getfield 89, 3) := by decide +kernel
theorem dX5_readPair_7 : decode cX5_readPair 7 = .ok (.bipush 8, 2) := by decide +kernel
theorem dX5_readPair_9 : decode cX5_readPair 9 = .ok (.if_icmp .lt 9, 3) := by decide +kernel
theorem dX5_readPair_12 : decode cX5_readPair 12 = .ok (.aload_n 0, 1) := by decide +kernel
theorem dX5_readPair_13 : decode cX5_readPair 13 = .ok (.iconst 3, 1) := by decide +kernel
theorem dX5_readPair_14 : decode cX5_readPair 14 = .ok (.invokevirtual 40, 3) := by decide +kernel
theorem dX5_readPair_17 : decode cX5_readPair 17 = .ok (.return_, 1) := by decide +kernel
theorem dX5_readPair_18 : decode cX5_readPair 18 = .ok (.aload_n 0, 1) := by decide +kernel
theorem dX5_readPair_19 : decode cX5_readPair 19 = .ok (.invokevirtual 31, 3) := by decide +kernel
theorem dX5_readPair_22 : decode cX5_readPair 22 = .ok (.aload_n 0, 1) := by decide +kernel
theorem dX5_readPair_23 : decode cX5_readPair 23 = .ok (.iconst 0, 1) := by decide +kernel
theorem dX5_readPair_24 : decode cX5_readPair 24 = .ok (.aload_n 0, 1) := by decide +kernel
theorem dX5_readPair_25 : decode cX5_readPair 25 = .ok (.getfield 15, 3) := by decide +kernel
theorem dX5_readPair_28 : decode cX5_readPair 28 = .ok (.getfield 60, 3) := by decide +kernel
theorem dX5_readPair_31 : decode cX5_readPair 31 = .ok (.iconst 1, 1) := by decide +kernel
theorem dX5_readPair_32 : decode cX5_readPair 32 = .ok (.isub, 1) := by decide +kernel
theorem dX5_readPair_33 : decode cX5_readPair 33 = .ok (.iconst 1, 1) := by decide +kernel
theorem dX5_readPair_34 : decode cX5_readPair 34 = .ok (.invokevirtual 67, 3) := by decide +kernel
theorem dX5_readPair_37 : decode cX5_readPair 37 = .ok (.istore_n 1, 1) := by decide +kernel
theorem dX5_readPair_38 : decode cX5_readPair 38 = .ok (.aload_n 0, 1) := by decide +kernel
theorem dX5_readPair_39 : decode cX5_readPair 39 = .ok (.iconst 0, 1) := by decide +kernel
theorem dX5_readPair_40 : decode cX5_readPair 40 = .ok (.aload_n 0, 1) := by decide +kernel
theorem dX5_readPair_41 : decode cX5_readPair 41 = .ok (.getfield 15, 3) := by decide +kernel
theorem dX5_readPair_44 : decode cX5_readPair 44 = .ok (.getfield 60, 3) := by decide +kernel
theorem dX5_readPair_47 : decode cX5_readPair 47 = .ok (.iconst 1, 1) := by decide +kernel
theorem dX5_readPair_48 : decode cX5_readPair 48 = .ok (.isub, 1) := by decide +kernel
theorem dX5_readPair_49 : decode cX5_readPair 49 = .ok (.aload_n 0, 1) := by decide +kernel
theorem dX5_readPair_50 : decode cX5_readPair 50 = .ok (.getfield 80, 3) := by decide +kernel
theorem dX5_readPair_53 : decode cX5_readPair 53 = .ok (.iload_n 1, 1) := by decide +kernel
theorem dX5_readPair_54 : decode cX5_readPair 54 = .ok (.if_icmp .eq 7, 3) := by decide +kernel
theorem dX5_readPair_57 : decode cX5_readPair 57 = .ok (.iconst 1, 1) := by decide +kernel
theorem dX5_readPair_58 : decode cX5_readPair 58 = .ok (.goto 4, 3) := by decide +kernel
theorem dX5_readPair_61 : decode cX5_readPair 61 = .ok (.iconst 0, 1) := by decide +kernel
theorem dX5_readPair_62 : decode cX5_readPair 62 = .ok (.invokevirtual 67, 3) := by decide +kernel
theorem dX5_readPair_65 : decode cX5_readPair 65 = .ok (.istore_n 2, 1) := by decide +kernel
theorem dX5_readPair_66 : decode cX5_readPair 66 = .ok (.aload_n 0, 1) := by decide +kernel
theorem dX5_readPair_67 : decode cX5_readPair 67 = .ok (.invokevirtual 73, 3) := by decide +kernel
theorem dX5_readPair_70 : decode cX5_readPair 70 = .ok (.aload_n 0, 1) := by decide +kernel
theorem dX5_readPair_71 : decode cX5_readPair 71 = .ok (.getfield 19, 3) := by decide +kernel
theorem dX5_readPair_74 : decode cX5_readPair 74 = .ok (.ifCond .ne 12, 3) := by decide +kernel
theorem dX5_readPair_77 : decode cX5_readPair 77 = .ok (.aload_n 0, 1) := by decide +kernel
theorem dX5_readPair_78 : decode cX5_readPair 78 = .ok (.getfield 15, 3) := by decide +kernel
theorem dX5_readPair_81 : decode cX5_readPair 81 = .ok (.iload_n 1, 1) := by decide +kernel
theorem dX5_readPair_82 : decode cX5_readPair 82 = .ok (.iload_n 2, 1) := by decide +kernel
theorem dX5_readPair_83 : decode cX5_readPair 83 = .ok (.invokevirtual 92, 3) := by decide +kernel
theorem dX5_readPair_86 : decode cX5_readPair 86 = .ok (.return_, 1) := by decide +kernel
theorem dX5_isNew_0 : decode cX5_isNew 0 = .ok (.aload_n 0, 1) := by decide +kernel
theorem dX5_isNew_1 : decode cX5_isNew 1 = .ok (.getfield 80, 3) := by decide +kernel
theorem dX5_isNew_4 : decode cX5_isNew 4 = .ok (.iload_n 1, 1) := by decide +kernel
theorem dX5_isNew_5 : decode cX5_isNew 5 = .ok (.if_icmp .eq 31, 3) := by decide +kernel
theorem dX5_isNew_8 : decode cX5_isNew 8 = .ok (.aload_n 0, 1) := by decide +kernel
theorem dX5_isNew_9 : decode cX5_isNew 9 = .ok (.getfield 80, 3) := by decide +kernel
theorem dX5_isNew_12 : decode cX5_isNew 12 = .ok (.invokestatic 96, 3) := by decide +kernel
theorem dX5_isNew_15 : decode cX5_isNew 15 = .ok (.ifCond .eq 21, 3) := by decide +kernel
theorem dX5_isNew_18 : decode cX5_isNew 18 = .ok (.aload_n 0, 1) := by decide +kernel
theorem dX5_isNew_19 : decode cX5_isNew 19 = .ok (.getfield 15, 3) := by decide +kernel
theorem dX5_isNew_22 : decode cX5_isNew 22 = .ok (.aload_n 0, 1) := by decide +kernel
theorem dX5_isNew_23 : decode cX5_isNew 23 = .ok (.getfield 80, 3) := by decide +kernel
theorem dX5_isNew_26 : decode cX5_isNew 26 = .ok (.invokevirtual 99, 3) := by decide +kernel
theorem dX5_isNew_29 : decode cX5_isNew 29 = .ok (.ifCond .ne 7, 3) := by decide +kernel
theorem dX5_isNew_32 : decode cX5_isNew 32 = .ok (.iconst 1, 1) := by decide +kernel
theorem dX5_isNew_33 : decode cX5_isNew 33 = .ok (.goto 4, 3) := by decide +kernel
theorem dX5_isNew_36 : decode cX5_isNew 36 = .ok (.iconst 0, 1) := by decide +kernel
theorem dX5_isNew_37 : decode cX5_isNew 37 = .ok (.ireturn, 1) := by decide +kernel
theorem dX5_readNumber_0 : decode cX5_readNumber 0 = .ok (.aload_n 0, 1) := by decide +kernel
theorem dX5_readNumber_1 : decode cX5_readNumber 1 = .ok (.getfield 19, 3) := by decide +kernel
theorem dX5_readNumber_4 : decode cX5_readNumber 4 = .ok (.ifCond .ne 16, 3) := by decide +kernel
theorem dX5_readNumber_7 : decode cX5_readNumber 7 = .ok (.aload_n 0, 1) := by decide +kernel
theorem dX5_readNumber_8 : decode cX5_readNumber 8 = .ok (.getfield 57, 3) := by decide +kernel
theorem dX5_readNumber_11 : decode cX5_readNumber 11 = .ok (.iconst 3, 1) := by decide +kernel
theorem dX5_readNumber_12 : decode cX5_readNumber 12 = .ok (.if_icmp .eq 8, 3) := by decide +kernel
theorem dX5_readNumber_15 : decode cX5_readNumber 15 = .ok (.aload_n 0, 1) := by decide +kernel
theorem dX5_readNumber_16 : decode cX5_readNumber 16 = .ok (.iconst 1, 1) := by decide +kernel
theorem dX5_readNumber_17 : decode cX5_readNumber 17 = .ok (.invokevirtual 40, 3) := by decide +kernel
theorem dX5_readNumber_20 : decode cX5_readNumber 20 = .ok (.aload_n 0, 1) := by decide +kernel
theorem dX5_readNumber_21 : decode cX5_readNumber 21 = .ok (.getfield 19, 3) := by decide +kernel
theorem dX5_readNumber_24 : decode cX5_readNumber 24 = .ok (.ifCond .ne 28, 3) := by decide +kernel
theorem dX5_readNumber_27 : decode cX5_readNumber 27 = .ok (.aload_n 0, 1) := by decide +kernel
theorem dX5_readNumber_28 : decode cX5_readNumber 28 = .ok (.getfield 80, 3) := by decide +kernel
theorem dX5_readNumber_31 : decode cX5_readNumber 31 = .ok (.iload_n 1, 1) := by decide +kernel
theorem dX5_readNumber_32 : decode cX5_readNumber 32 = .ok (.if_icmp .lt 15, 3) := by decide +kernel
theorem dX5_readNumber_35 : decode cX5_readNumber 35 = .ok (.aload_n 0, 1) := by decide +kernel
theorem dX5_readNumber_36 : decode cX5_readNumber 36 = .ok (.getfield 80, 3) := by decide +kernel
theorem dX5_readNumber_39 : decode cX5_readNumber 39 = .ok (.iload_n 2, 1) := by decide +kernel
theorem dX5_readNumber_40 : decode cX5_readNumber 40 = .ok (.if_icmp .gt 7, 3) := by decide +kernel
theorem dX5_readNumber_43 : decode cX5_readNumber 43 = .ok (.iload_n 3, 1) := by decide +kernel
theorem dX5_readNumber_44 : decode cX5_readNumber 44 = .ok (.ifCond .ne 8, 3) := by decide +kernel
theorem dX5_readNumber_47 : decode cX5_readNumber 47 = .ok (.aload_n 0, 1) := by decide +kernel
theorem dX5_readNumber_48 : decode cX5_readNumber 48 = .ok (.iconst 2, 1) := by decide +kernel
theorem dX5_readNumber_49 : decode cX5_readNumber 49 = .ok (.invokevirtual 40, 3) := by decide +kernel
theorem dX5_readNumber_52 : decode cX5_readNumber 52 = .ok (.aload_n 0, 1) := by decide +kernel
theorem dX5_readNumber_53 : decode cX5_readNumber 53 = .ok (.getfield 19, 3) := by decide +kernel
theorem dX5_readNumber_56 : decode cX5_readNumber 56 = .ok (.ifCond .eq 5, 3) := by decide +kernel
theorem dX5_readNumber_59 : decode cX5_readNumber 59 = .ok (.iconst 0, 1) := by decide +kernel
theorem dX5_readNumber_60 : decode cX5_readNumber 60 = .ok (.ireturn, 1) := by decide +kernel
theorem dX5_readNumber_61 : decode cX5_readNumber 61 = .ok (.aload_n 0, 1) := by decide +kernel
theorem dX5_readNumber_62 : decode cX5_readNumber 62 = .ok (.getfield 80, 3) := by decide +kernel
theorem dX5_readNumber_65 : decode cX5_readNumber 65 = .ok (.istore 4, 2) := by decide +kernel
theorem dX5_readNumber_67 : decode cX5_readNumber 67 = .ok (.aload_n 0, 1) := by decide +kernel
theorem dX5_readNumber_68 : decode cX5_readNumber 68 = .ok (.invokevirtual 31, 3) := by decide +kernel
theorem dX5_readNumber_71 : decode cX5_readNumber 71 = .ok (.iload 4, 2) := by decide +kernel
theorem dX5_readNumber_73 : decode cX5_readNumber 73 = .ok (.ireturn, 1) := by decide +kernel
theorem dX5_readSign_0 : decode cX5_readSign 0 = .ok (.aload_n 0, 1) := by decide +kernel
theorem dX5_readSign_1 : decode cX5_readSign 1 = .ok (.getfield 19, 3) := by decide +kernel
theorem dX5_readSign_4 : decode cX5_readSign 4 = .ok (.ifCond .ne 16, 3) := by decide +kernel
theorem dX5_readSign_7 : decode cX5_readSign 7 = .ok (.aload_n 0, 1) := by decide +kernel
theorem dX5_readSign_8 : decode cX5_readSign 8 = .ok (.getfield 57, 3) := by decide +kernel
theorem dX5_readSign_11 : decode cX5_readSign 11 = .ok (.iconst 4, 1) := by decide +kernel
theorem dX5_readSign_12 : decode cX5_readSign 12 = .ok (.if_icmp .eq 8, 3) := by decide +kernel
theorem dX5_readSign_15 : decode cX5_readSign 15 = .ok (.aload_n 0, 1) := by decide +kernel
theorem dX5_readSign_16 : decode cX5_readSign 16 = .ok (.iconst 1, 1) := by decide +kernel
theorem dX5_readSign_17 : decode cX5_readSign 17 = .ok (.invokevirtual 40, 3) := by decide +kernel
theorem dX5_readSign_20 : decode cX5_readSign 20 = .ok (.aload_n 0, 1) := by decide +kernel
theorem dX5_readSign_21 : decode cX5_readSign 21 = .ok (.getfield 19, 3) := by decide +kernel
theorem dX5_readSign_24 : decode cX5_readSign 24 = .ok (.ifCond .ne 7, 3) := by decide +kernel
theorem dX5_readSign_27 : decode cX5_readSign 27 = .ok (.aload_n 0, 1) := by decide +kernel
theorem dX5_readSign_28 : decode cX5_readSign 28 = .ok (.invokevirtual 31, 3) := by decide +kernel
theorem dX5_readSign_31 : decode cX5_readSign 31 = .ok (.return_, 1) := by decide +kernel
theorem dX5_fail_0 : decode cX5_fail 0 = .ok (.aload_n 0, 1) := by decide +kernel
theorem dX5_fail_1 : decode cX5_fail 1 = .ok (.iload_n 1, 1) := by decide +kernel
theorem dX5_fail_2 : decode cX5_fail 2 = .ok (.putfield 19, 3) := by decide +kernel
theorem dX5_fail_5 : decode cX5_fail 5 = .ok (.aload_n 0, 1) := by decide +kernel
theorem dX5_fail_6 : decode cX5_fail 6 = .ok (.aload_n 0, 1) := by decide +kernel
theorem dX5_fail_7 : decode cX5_fail 7 = .ok (.getfield 102, 3) := by decide +kernel
theorem dX5_fail_10 : decode cX5_fail 10 = .ok (.putfield 105, 3) := by decide +kernel
theorem dX5_fail_13 : decode cX5_fail 13 = .ok (.return_, 1) := by decide +kernel
theorem dX5_next_0 : decode cX5_next 0 = .ok (.aload_n 0, 1) := by decide +kernel
theorem dX5_next_1 : decode cX5_next 1 = .ok (.aload_n 0, 1) := by decide +kernel
theorem dX5_next_2 : decode cX5_next 2 = .ok (.aload_n 0, 1) := by decide +kernel
theorem dX5_next_3 : decode cX5_next 3 = .ok (.getfield 23, 3) := by decide +kernel
theorem dX5_next_6 : decode cX5_next 6 = .ok (.iconst 1, 1) := by decide +kernel
theorem dX5_next_7 : decode cX5_next 7 = .ok (.invokevirtual 108, 3) := by decide +kernel
theorem dX5_next_10 : decode cX5_next 10 = .ok (.putfield 102, 3) := by decide +kernel
theorem dX5_next_13 : decode cX5_next 13 = .ok (.aload_n 0, 1) := by decide +kernel
theorem dX5_next_14 : decode cX5_next 14 = .ok (.aload_n 0, 1) := by decide +kernel
theorem dX5_next_15 : decode cX5_next 15 = .ok (.getfield 9, 3) := by decide +kernel
theorem dX5_next_18 : decode cX5_next 18 = .ok (.aload_n 0, 1) := by decide +kernel
theorem dX5_next_19 : decode cX5_next 19 = .ok (.getfield 102, 3) := by decide +kernel
theorem dX5_next_22 : decode cX5_next 22 = .ok (.invokevirtual 112, 3) := by decide +kernel
theorem dX5_next_25 : decode cX5_next 25 = .ok (.invokestatic 118, 3) := by decide +kernel
theorem dX5_next_28 : decode cX5_next 28 = .ok (.putfield 57, 3) := by decide +kernel
theorem dX5_next_31 : decode cX5_next 31 = .ok (.aload_n 0, 1) := by decide +kernel
theorem dX5_next_32 : decode cX5_next 32 = .ok (.aload_n 0, 1) := by decide +kernel
theorem dX5_next_33 : decode cX5_next 33 = .ok (.getfield 57, 3) := by decide +kernel
theorem dX5_next_36 : decode cX5_next 36 = .ok (.iconst 2, 1) := by decide +kernel
theorem dX5_next_37 : decode cX5_next 37 = .ok (.if_icmp .eq 11, 3) := by decide +kernel
theorem dX5_next_40 : decode cX5_next 40 = .ok (.aload_n 0, 1) := by decide +kernel
theorem dX5_next_41 : decode cX5_next 41 = .ok (.getfield 57, 3) := by decide +kernel
theorem dX5_next_44 : decode cX5_next 44 = .ok (.iconst 3, 1) := by decide +kernel
theorem dX5_next_45 : decode cX5_next 45 = .ok (.if_icmp .ne 18, 3) := by decide +kernel
theorem dX5_next_48 : decode cX5_next 48 = .ok (.aload_n 0, 1) := by decide +kernel
theorem dX5_next_49 : decode cX5_next 49 = .ok (.aload_n 0, 1) := by decide +kernel
theorem dX5_next_50 : decode cX5_next 50 = .ok (.getfield 102, 3) := by decide +kernel
theorem dX5_next_53 : decode cX5_next 53 = .ok (.aload_n 0, 1) := by decide +kernel
theorem dX5_next_54 : decode cX5_next 54 = .ok (.getfield 57, 3) := by decide +kernel
theorem dX5_next_57 : decode cX5_next 57 = .ok (.invokevirtual 108, 3) := by decide +kernel
theorem dX5_next_60 : decode cX5_next 60 = .ok (.goto 7, 3) := by decide +kernel
theorem dX5_next_63 : decode cX5_next 63 = .ok (.aload_n 0, 1) := by decide +kernel
theorem dX5_next_64 : decode cX5_next 64 = .ok (.getfield 102, 3) := by decide +kernel
theorem dX5_next_67 : decode cX5_next 67 = .ok (.putfield 23, 3) := by decide +kernel
theorem dX5_next_70 : decode cX5_next 70 = .ok (.aload_n 0, 1) := by decide +kernel
theorem dX5_next_71 : decode cX5_next 71 = .ok (.getfield 57, 3) := by decide +kernel
theorem dX5_next_74 : decode cX5_next 74 = .ok (.iconst 4, 1) := by decide +kernel
theorem dX5_next_75 : decode cX5_next 75 = .ok (.if_icmp .ne 13, 3) := by decide +kernel
theorem dX5_next_78 : decode cX5_next 78 = .ok (.aload_n 0, 1) := by decide +kernel
theorem dX5_next_79 : decode cX5_next 79 = .ok (.aload_n 0, 1) := by decide +kernel
theorem dX5_next_80 : decode cX5_next 80 = .ok (.getfield 102, 3) := by decide +kernel
theorem dX5_next_83 : decode cX5_next 83 = .ok (.iconst 1, 1) := by decide +kernel
theorem dX5_next_84 : decode cX5_next 84 = .ok (.iadd, 1) := by decide +kernel
theorem dX5_next_85 : decode cX5_next 85 = .ok (.putfield 23, 3) := by decide +kernel
theorem dX5_next_88 : decode cX5_next 88 = .ok (.aload_n 0, 1) := by decide +kernel
theorem dX5_next_89 : decode cX5_next 89 = .ok (.getfield 57, 3) := by decide +kernel
theorem dX5_next_92 : decode cX5_next 92 = .ok (.iconst 3, 1) := by decide +kernel
theorem dX5_next_93 : decode cX5_next 93 = .ok (.if_icmp .ne 21, 3) := by decide +kernel
theorem dX5_next_96 : decode cX5_next 96 = .ok (.aload_n 0, 1) := by decide +kernel
theorem dX5_next_97 : decode cX5_next 97 = .ok (.getfield 23, 3) := by decide +kernel
theorem dX5_next_100 : decode cX5_next 100 = .ok (.aload_n 0, 1) := by decide +kernel
theorem dX5_next_101 : decode cX5_next 101 = .ok (.getfield 102, 3) := by decide +kernel
theorem dX5_next_104 : decode cX5_next 104 = .ok (.isub, 1) := by decide +kernel
theorem dX5_next_105 : decode cX5_next 105 = .ok (.iconst 3, 1) := by decide +kernel
theorem dX5_next_106 : decode cX5_next 106 = .ok (.if_icmp .le 8, 3) := by decide +kernel
theorem dX5_next_109 : decode cX5_next 109 = .ok (.aload_n 0, 1) := by decide +kernel
theorem dX5_next_110 : decode cX5_next 110 = .ok (.iconst 5, 1) := by decide +kernel
theorem dX5_next_111 : decode cX5_next 111 = .ok (.putfield 57, 3) := by decide +kernel
theorem dX5_next_114 : decode cX5_next 114 = .ok (.aload_n 0, 1) := by decide +kernel
theorem dX5_next_115 : decode cX5_next 115 = .ok (.aload_n 0, 1) := by decide +kernel
theorem dX5_next_116 : decode cX5_next 116 = .ok (.getfield 57, 3) := by decide +kernel
theorem dX5_next_119 : decode cX5_next 119 = .ok (.iconst 3, 1) := by decide +kernel
theorem dX5_next_120 : decode cX5_next 120 = .ok (.if_icmp .ne 10, 3) := by decide +kernel
theorem dX5_next_123 : decode cX5_next 123 = .ok (.aload_n 0, 1) := by decide +kernel
theorem dX5_next_124 : decode cX5_next 124 = .ok (.invokevirtual 121, 3) := by decide +kernel
theorem dX5_next_127 : decode cX5_next 127 = .ok (.goto 4, 3) := by decide +kernel
theorem dX5_next_130 : decode cX5_next 130 = .ok (.iconst (-1), 1) := by decide +kernel
theorem dX5_next_131 : decode cX5_next 131 = .ok (.putfield 80, 3) := by decide +kernel
theorem dX5_next_134 : decode cX5_next 134 = .ok (.return_, 1) := by decide +kernel
theorem dX5_pastRun_0 : decode cX5_pastRun 0 = .ok (.iload_n 1, 1) := by decide +kernel
theorem dX5_pastRun_1 : decode cX5_pastRun 1 = .ok (.istore_n 3, 1) := by decide +kernel
theorem dX5_pastRun_2 : decode cX5_pastRun 2 = .ok (.iload_n 3, 1) := by decide +kernel
theorem dX5_pastRun_3 : decode cX5_pastRun 3 = .ok (.sipush 400, 3) := by decide +kernel
theorem dX5_pastRun_6 : decode cX5_pastRun 6 = .ok (.if_icmp .ge 24, 3) := by decide +kernel
theorem dX5_pastRun_9 : decode cX5_pastRun 9 = .ok (.aload_n 0, 1) := by decide +kernel
theorem dX5_pastRun_10 : decode cX5_pastRun 10 = .ok (.getfield 9, 3) := by decide +kernel
theorem dX5_pastRun_13 : decode cX5_pastRun 13 = .ok (.iload_n 3, 1) := by decide +kernel
theorem dX5_pastRun_14 : decode cX5_pastRun 14 = .ok (.invokevirtual 112, 3) := by decide +kernel
theorem dX5_pastRun_17 : decode cX5_pastRun 17 = .ok (.invokestatic 118, 3) := by decide +kernel
theorem dX5_pastRun_20 : decode cX5_pastRun 20 = .ok (.iload_n 2, 1) := by decide +kernel
theorem dX5_pastRun_21 : decode cX5_pastRun 21 = .ok (.if_icmp .ne 9, 3) := by decide +kernel
theorem dX5_pastRun_24 : decode cX5_pastRun 24 = .ok (.iinc 3 1, 3) := by decide +kernel
theorem dX5_pastRun_27 : decode cX5_pastRun 27 = .ok (.goto (-25), 3) := by decide +kernel
theorem dX5_pastRun_30 : decode cX5_pastRun 30 = .ok (.iload_n 3, 1) := by decide +kernel
theorem dX5_pastRun_31 : decode cX5_pastRun 31 = .ok (.ireturn, 1) := by decide +kernel
theorem dX5_figures_0 : decode cX5_figures 0 = .ok (.iconst 0, 1) := by decide +kernel
theorem dX5_figures_1 : decode cX5_figures 1 = .ok (.istore_n 1, 1) := by decide +kernel
theorem dX5_figures_2 : decode cX5_figures 2 = .ok (.aload_n 0, 1) := by decide +kernel
theorem dX5_figures_3 : decode cX5_figures 3 = .ok (.getfield 102, 3) := by decide +kernel
theorem dX5_figures_6 : decode cX5_figures 6 = .ok (.istore_n 2, 1) := by decide +kernel
theorem dX5_figures_7 : decode cX5_figures 7 = .ok (.iload_n 2, 1) := by decide +kernel
theorem dX5_figures_8 : decode cX5_figures 8 = .ok (.aload_n 0, 1) := by decide +kernel
theorem dX5_figures_9 : decode cX5_figures 9 = .ok (.getfield 23, 3) := by decide +kernel
theorem dX5_figures_12 : decode cX5_figures 12 = .ok (.if_icmp .ge 26, 3) := by decide +kernel
theorem dX5_figures_15 : decode cX5_figures 15 = .ok (.iload_n 1, 1) := by decide +kernel
theorem dX5_figures_16 : decode cX5_figures 16 = .ok (.bipush 10, 2) := by decide +kernel
theorem dX5_figures_18 : decode cX5_figures 18 = .ok (.imul, 1) := by decide +kernel
theorem dX5_figures_19 : decode cX5_figures 19 = .ok (.aload_n 0, 1) := by decide +kernel
theorem dX5_figures_20 : decode cX5_figures 20 = .ok (.getfield 9, 3) := by decide +kernel
theorem dX5_figures_23 : decode cX5_figures 23 = .ok (.iload_n 2, 1) := by decide +kernel
theorem dX5_figures_24 : decode cX5_figures 24 = .ok (.invokevirtual 112, 3) := by decide +kernel
theorem dX5_figures_27 : decode cX5_figures 27 = .ok (.iadd, 1) := by decide +kernel
theorem dX5_figures_28 : decode cX5_figures 28 = .ok (.bipush 48, 2) := by decide +kernel
theorem dX5_figures_30 : decode cX5_figures 30 = .ok (.isub, 1) := by decide +kernel
theorem dX5_figures_31 : decode cX5_figures 31 = .ok (.istore_n 1, 1) := by decide +kernel
theorem dX5_figures_32 : decode cX5_figures 32 = .ok (.iinc 2 1, 3) := by decide +kernel
theorem dX5_figures_35 : decode cX5_figures 35 = .ok (.goto (-28), 3) := by decide +kernel
theorem dX5_figures_38 : decode cX5_figures 38 = .ok (.iload_n 1, 1) := by decide +kernel
theorem dX5_figures_39 : decode cX5_figures 39 = .ok (.ireturn, 1) := by decide +kernel
theorem dX5_typeOf_0 : decode cX5_typeOf 0 = .ok (.iload_n 0, 1) := by decide +kernel
theorem dX5_typeOf_1 : decode cX5_typeOf 1 = .ok (.ifCond .ge 5, 3) := by decide +kernel
theorem dX5_typeOf_4 : decode cX5_typeOf 4 = .ok (.iconst 0, 1) := by decide +kernel
theorem dX5_typeOf_5 : decode cX5_typeOf 5 = .ok (.ireturn, 1) := by decide +kernel
theorem dX5_typeOf_6 : decode cX5_typeOf 6 = .ok (.iload_n 0, 1) := by decide +kernel
theorem dX5_typeOf_7 : decode cX5_typeOf 7 = .ok (.bipush 32, 2) := by decide +kernel
theorem dX5_typeOf_9 : decode cX5_typeOf 9 = .ok (.if_icmp .eq 9, 3) := by decide +kernel
theorem dX5_typeOf_12 : decode cX5_typeOf 12 = .ok (.iload_n 0, 1) := by decide +kernel
theorem dX5_typeOf_13 : decode cX5_typeOf 13 = .ok (.bipush 10, 2) := by decide +kernel
theorem dX5_typeOf_15 : decode cX5_typeOf 15 = .ok (.if_icmp .ne 5, 3) := by decide +kernel
theorem dX5_typeOf_18 : decode cX5_typeOf 18 = .ok (.iconst 1, 1) := by decide +kernel
theorem dX5_typeOf_19 : decode cX5_typeOf 19 = .ok (.ireturn, 1) := by decide +kernel
theorem dX5_typeOf_20 : decode cX5_typeOf 20 = .ok (.iload_n 0, 1) := by decide +kernel
theorem dX5_typeOf_21 : decode cX5_typeOf 21 = .ok (.bipush 97, 2) := by decide +kernel
theorem dX5_typeOf_23 : decode cX5_typeOf 23 = .ok (.if_icmp .lt 11, 3) := by decide +kernel
theorem dX5_typeOf_26 : decode cX5_typeOf 26 = .ok (.iload_n 0, 1) := by decide +kernel
theorem dX5_typeOf_27 : decode cX5_typeOf 27 = .ok (.bipush 122, 2) := by decide +kernel
theorem dX5_typeOf_29 : decode cX5_typeOf 29 = .ok (.if_icmp .gt 5, 3) := by decide +kernel
theorem dX5_typeOf_32 : decode cX5_typeOf 32 = .ok (.iconst 2, 1) := by decide +kernel
theorem dX5_typeOf_33 : decode cX5_typeOf 33 = .ok (.ireturn, 1) := by decide +kernel
theorem dX5_typeOf_34 : decode cX5_typeOf 34 = .ok (.iload_n 0, 1) := by decide +kernel
theorem dX5_typeOf_35 : decode cX5_typeOf 35 = .ok (.bipush 48, 2) := by decide +kernel
theorem dX5_typeOf_37 : decode cX5_typeOf 37 = .ok (.if_icmp .lt 11, 3) := by decide +kernel
theorem dX5_typeOf_40 : decode cX5_typeOf 40 = .ok (.iload_n 0, 1) := by decide +kernel
theorem dX5_typeOf_41 : decode cX5_typeOf 41 = .ok (.bipush 57, 2) := by decide +kernel
theorem dX5_typeOf_43 : decode cX5_typeOf 43 = .ok (.if_icmp .gt 5, 3) := by decide +kernel
theorem dX5_typeOf_46 : decode cX5_typeOf 46 = .ok (.iconst 3, 1) := by decide +kernel
theorem dX5_typeOf_47 : decode cX5_typeOf 47 = .ok (.ireturn, 1) := by decide +kernel
theorem dX5_typeOf_48 : decode cX5_typeOf 48 = .ok (.iload_n 0, 1) := by decide +kernel
theorem dX5_typeOf_49 : decode cX5_typeOf 49 = .ok (.bipush 59, 2) := by decide +kernel
theorem dX5_typeOf_51 : decode cX5_typeOf 51 = .ok (.if_icmp .ne 7, 3) := by decide +kernel
theorem dX5_typeOf_54 : decode cX5_typeOf 54 = .ok (.iconst 4, 1) := by decide +kernel
theorem dX5_typeOf_55 : decode cX5_typeOf 55 = .ok (.goto 4, 3) := by decide +kernel
theorem dX5_typeOf_58 : decode cX5_typeOf 58 = .ok (.iconst 5, 1) := by decide +kernel
theorem dX5_typeOf_59 : decode cX5_typeOf 59 = .ok (.ireturn, 1) := by decide +kernel
theorem dX5_isWord_0 : decode cX5_isWord 0 = .ok (.aload_n 0, 1) := by decide +kernel
theorem dX5_isWord_1 : decode cX5_isWord 1 = .ok (.getfield 57, 3) := by decide +kernel
theorem dX5_isWord_4 : decode cX5_isWord 4 = .ok (.iconst 2, 1) := by decide +kernel
theorem dX5_isWord_5 : decode cX5_isWord 5 = .ok (.if_icmp .ne 19, 3) := by decide +kernel
theorem dX5_isWord_8 : decode cX5_isWord 8 = .ok (.aload_n 0, 1) := by decide +kernel
theorem dX5_isWord_9 : decode cX5_isWord 9 = .ok (.getfield 23, 3) := by decide +kernel
theorem dX5_isWord_12 : decode cX5_isWord 12 = .ok (.aload_n 0, 1) := by decide +kernel
theorem dX5_isWord_13 : decode cX5_isWord 13 = .ok (.getfield 102, 3) := by decide +kernel
theorem dX5_isWord_16 : decode cX5_isWord 16 = .ok (.isub, 1) := by decide +kernel
theorem dX5_isWord_17 : decode cX5_isWord 17 = .ok (.aload_n 1, 1) := by decide +kernel
theorem dX5_isWord_18 : decode cX5_isWord 18 = .ok (.invokevirtual 125, 3) := by decide +kernel
theorem dX5_isWord_21 : decode cX5_isWord 21 = .ok (.if_icmp .eq 5, 3) := by decide +kernel
theorem dX5_isWord_24 : decode cX5_isWord 24 = .ok (.iconst 0, 1) := by decide +kernel
theorem dX5_isWord_25 : decode cX5_isWord 25 = .ok (.ireturn, 1) := by decide +kernel
theorem dX5_isWord_26 : decode cX5_isWord 26 = .ok (.iconst 0, 1) := by decide +kernel
theorem dX5_isWord_27 : decode cX5_isWord 27 = .ok (.istore_n 2, 1) := by decide +kernel
theorem dX5_isWord_28 : decode cX5_isWord 28 = .ok (.iload_n 2, 1) := by decide +kernel
theorem dX5_isWord_29 : decode cX5_isWord 29 = .ok (.aload_n 1, 1) := by decide +kernel
theorem dX5_isWord_30 : decode cX5_isWord 30 = .ok (.invokevirtual 125, 3) := by decide +kernel
theorem dX5_isWord_33 : decode cX5_isWord 33 = .ok (.if_icmp .ge 32, 3) := by decide +kernel
theorem dX5_isWord_36 : decode cX5_isWord 36 = .ok (.aload_n 0, 1) := by decide +kernel
theorem dX5_isWord_37 : decode cX5_isWord 37 = .ok (.getfield 9, 3) := by decide +kernel
theorem dX5_isWord_40 : decode cX5_isWord 40 = .ok (.aload_n 0, 1) := by decide +kernel
theorem dX5_isWord_41 : decode cX5_isWord 41 = .ok (.getfield 102, 3) := by decide +kernel
theorem dX5_isWord_44 : decode cX5_isWord 44 = .ok (.iload_n 2, 1) := by decide +kernel
theorem dX5_isWord_45 : decode cX5_isWord 45 = .ok (.iadd, 1) := by decide +kernel
theorem dX5_isWord_46 : decode cX5_isWord 46 = .ok (.invokevirtual 112, 3) := by decide +kernel
theorem dX5_isWord_49 : decode cX5_isWord 49 = .ok (.aload_n 1, 1) := by decide +kernel
theorem dX5_isWord_50 : decode cX5_isWord 50 = .ok (.iload_n 2, 1) := by decide +kernel
theorem dX5_isWord_51 : decode cX5_isWord 51 = .ok (.invokevirtual 130, 3) := by decide +kernel
theorem dX5_isWord_54 : decode cX5_isWord 54 = .ok (.if_icmp .eq 5, 3) := by decide +kernel
theorem dX5_isWord_57 : decode cX5_isWord 57 = .ok (.iconst 0, 1) := by decide +kernel
theorem dX5_isWord_58 : decode cX5_isWord 58 = .ok (.ireturn, 1) := by decide +kernel
theorem dX5_isWord_59 : decode cX5_isWord 59 = .ok (.iinc 2 1, 3) := by decide +kernel
theorem dX5_isWord_62 : decode cX5_isWord 62 = .ok (.goto (-34), 3) := by decide +kernel
theorem dX5_isWord_65 : decode cX5_isWord 65 = .ok (.iconst 1, 1) := by decide +kernel
theorem dX5_isWord_66 : decode cX5_isWord 66 = .ok (.ireturn, 1) := by decide +kernel
theorem dX5_isPrime_0 : decode cX5_isPrime 0 = .ok (.iconst 2, 1) := by decide +kernel
theorem dX5_isPrime_1 : decode cX5_isPrime 1 = .ok (.istore_n 1, 1) := by decide +kernel
theorem dX5_isPrime_2 : decode cX5_isPrime 2 = .ok (.iload_n 1, 1) := by decide +kernel
theorem dX5_isPrime_3 : decode cX5_isPrime 3 = .ok (.iload_n 1, 1) := by decide +kernel
theorem dX5_isPrime_4 : decode cX5_isPrime 4 = .ok (.imul, 1) := by decide +kernel
theorem dX5_isPrime_5 : decode cX5_isPrime 5 = .ok (.iload_n 0, 1) := by decide +kernel
theorem dX5_isPrime_6 : decode cX5_isPrime 6 = .ok (.if_icmp .gt 24, 3) := by decide +kernel
theorem dX5_isPrime_9 : decode cX5_isPrime 9 = .ok (.iload_n 1, 1) := by decide +kernel
theorem dX5_isPrime_10 : decode cX5_isPrime 10 = .ok (.sipush 199, 3) := by decide +kernel
theorem dX5_isPrime_13 : decode cX5_isPrime 13 = .ok (.if_icmp .gt 17, 3) := by decide +kernel
theorem dX5_isPrime_16 : decode cX5_isPrime 16 = .ok (.iload_n 0, 1) := by decide +kernel
theorem dX5_isPrime_17 : decode cX5_isPrime 17 = .ok (.iload_n 1, 1) := by decide +kernel
theorem dX5_isPrime_18 : decode cX5_isPrime 18 = .ok (.irem, 1) := by decide +kernel
theorem dX5_isPrime_19 : decode cX5_isPrime 19 = .ok (.ifCond .ne 5, 3) := by decide +kernel
theorem dX5_isPrime_22 : decode cX5_isPrime 22 = .ok (.iconst 0, 1) := by decide +kernel
theorem dX5_isPrime_23 : decode cX5_isPrime 23 = .ok (.ireturn, 1) := by decide +kernel
theorem dX5_isPrime_24 : decode cX5_isPrime 24 = .ok (.iinc 1 1, 3) := by decide +kernel
theorem dX5_isPrime_27 : decode cX5_isPrime 27 = .ok (.goto (-25), 3) := by decide +kernel
theorem dX5_isPrime_30 : decode cX5_isPrime 30 = .ok (.iload_n 0, 1) := by decide +kernel
theorem dX5_isPrime_31 : decode cX5_isPrime 31 = .ok (.iconst 1, 1) := by decide +kernel
theorem dX5_isPrime_32 : decode cX5_isPrime 32 = .ok (.if_icmp .le 7, 3) := by decide +kernel
theorem dX5_isPrime_35 : decode cX5_isPrime 35 = .ok (.iconst 1, 1) := by decide +kernel
theorem dX5_isPrime_36 : decode cX5_isPrime 36 = .ok (.goto 4, 3) := by decide +kernel
theorem dX5_isPrime_39 : decode cX5_isPrime 39 = .ok (.iconst 0, 1) := by decide +kernel
theorem dX5_isPrime_40 : decode cX5_isPrime 40 = .ok (.ireturn, 1) := by decide +kernel
theorem dX6_init_0 : decode cX6_init 0 = .ok (.aload_n 0, 1) := by decide +kernel
theorem dX6_init_1 : decode cX6_init 1 = .ok (.invokespecial 3, 3) := by decide +kernel
theorem dX6_init_4 : decode cX6_init 4 = .ok (.aload_n 0, 1) := by decide +kernel
theorem dX6_init_5 : decode cX6_init 5 = .ok (.bipush 40, 2) := by decide +kernel
theorem dX6_init_7 : decode cX6_init 7 = .ok (.newarray .int, 2) := by decide +kernel
theorem dX6_init_9 : decode cX6_init 9 = .ok (.putfield 9, 3) := by decide +kernel
theorem dX6_init_12 : decode cX6_init 12 = .ok (.return_, 1) := by decide +kernel
theorem dX6_begin_0 : decode cX6_begin 0 = .ok (.aload_n 0, 1) := by decide +kernel
theorem dX6_begin_1 : decode cX6_begin 1 = .ok (.iconst 1, 1) := by decide +kernel
theorem dX6_begin_2 : decode cX6_begin 2 = .ok (.putfield 15, 3) := by decide +kernel
theorem dX6_begin_5 : decode cX6_begin 5 = .ok (.aload_n 0, 1) := by decide +kernel
theorem dX6_begin_6 : decode cX6_begin 6 = .ok (.iload_n 1, 1) := by decide +kernel
theorem dX6_begin_7 : decode cX6_begin 7 = .ok (.putfield 19, 3) := by decide +kernel
theorem dX6_begin_10 : decode cX6_begin 10 = .ok (.aload_n 0, 1) := by decide +kernel
theorem dX6_begin_11 : decode cX6_begin 11 = .ok (.iload_n 2, 1) := by decide +kernel
theorem dX6_begin_12 : decode cX6_begin 12 = .ok (.putfield 23, 3) := by decide +kernel
theorem dX6_begin_15 : decode cX6_begin 15 = .ok (.iconst 0, 1) := by decide +kernel
theorem dX6_begin_16 : decode cX6_begin 16 = .ok (.istore_n 3, 1) := by decide +kernel
theorem dX6_begin_17 : decode cX6_begin 17 = .ok (.iload_n 3, 1) := by decide +kernel
theorem dX6_begin_18 : decode cX6_begin 18 = .ok (.aload_n 0, 1) := by decide +kernel
theorem dX6_begin_19 : decode cX6_begin 19 = .ok (.getfield 9, 3) := by decide +kernel
theorem dX6_begin_22 : decode cX6_begin 22 = .ok (.arraylength, 1) := by decide +kernel
theorem dX6_begin_23 : decode cX6_begin 23 = .ok (.if_icmp .ge 16, 3) := by decide +kernel
theorem dX6_begin_26 : decode cX6_begin 26 = .ok (.aload_n 0, 1) := by decide +kernel
theorem dX6_begin_27 : decode cX6_begin 27 = .ok (.getfield 9, 3) := by decide +kernel
theorem dX6_begin_30 : decode cX6_begin 30 = .ok (.iload_n 3, 1) := by decide +kernel
theorem dX6_begin_31 : decode cX6_begin 31 = .ok (.iconst 0, 1) := by decide +kernel
theorem dX6_begin_32 : decode cX6_begin 32 = .ok (.iastore, 1) := by decide +kernel
theorem dX6_begin_33 : decode cX6_begin 33 = .ok (.iinc 3 1, 3) := by decide +kernel
theorem dX6_begin_36 : decode cX6_begin 36 = .ok (.goto (-19), 3) := by decide +kernel
theorem dX6_begin_39 : decode cX6_begin 39 = .ok (.return_, 1) := by decide +kernel
theorem dX6_holds_0 : decode cX6_holds 0 = .ok (.iload_n 1, 1) := by decide +kernel
theorem dX6_holds_1 : decode cX6_holds 1 = .ok (.ifCond .lt 25, 3) := by decide +kernel
theorem dX6_holds_4 : decode cX6_holds 4 = .ok (.iload_n 2, 1) := by decide +kernel
theorem dX6_holds_5 : decode cX6_holds 5 = .ok (.ifCond .lt 21, 3) := by decide +kernel
theorem dX6_holds_8 : decode cX6_holds 8 = .ok (.iload_n 1, 1) := by decide +kernel
theorem dX6_holds_9 : decode cX6_holds 9 = .ok (.i2l, 1) := by decide +kernel
theorem dX6_holds_10 : decode cX6_holds 10 = .ok (.iload_n 2, 1) := by decide +kernel
theorem dX6_holds_11 : decode cX6_holds 11 = .ok (.i2l, 1) := by decide +kernel
theorem dX6_holds_12 : decode cX6_holds 12 = .ok (.ladd, 1) := by decide +kernel
theorem dX6_holds_13 : decode cX6_holds 13 = .ok (.aload_n 0, 1) := by decide +kernel
theorem dX6_holds_14 : decode cX6_holds 14 = .ok (.getfield 23, 3) := by decide +kernel
theorem dX6_holds_17 : decode cX6_holds 17 = .ok (.i2l, 1) := by decide +kernel
theorem dX6_holds_18 : decode cX6_holds 18 = .ok (.lcmp, 1) := by decide +kernel
theorem dX6_holds_19 : decode cX6_holds 19 = .ok (.ifCond .gt 7, 3) := by decide +kernel
theorem dX6_holds_22 : decode cX6_holds 22 = .ok (.iconst 1, 1) := by decide +kernel
theorem dX6_holds_23 : decode cX6_holds 23 = .ok (.goto 4, 3) := by decide +kernel
theorem dX6_holds_26 : decode cX6_holds 26 = .ok (.iconst 0, 1) := by decide +kernel
theorem dX6_holds_27 : decode cX6_holds 27 = .ok (.ireturn, 1) := by decide +kernel
theorem dX6_item_0 : decode cX6_item 0 = .ok (.aload_n 0, 1) := by decide +kernel
theorem dX6_item_1 : decode cX6_item 1 = .ok (.getfield 9, 3) := by decide +kernel
theorem dX6_item_4 : decode cX6_item 4 = .ok (.iload_n 1, 1) := by decide +kernel
theorem dX6_item_5 : decode cX6_item 5 = .ok (.invokestatic 26, 3) := by decide +kernel
theorem dX6_item_8 : decode cX6_item 8 = .ok (.ireturn, 1) := by decide +kernel
theorem dX6_change_0 : decode cX6_change 0 = .ok (.aload_n 0, 1) := by decide +kernel
theorem dX6_change_1 : decode cX6_change 1 = .ok (.getfield 9, 3) := by decide +kernel
theorem dX6_change_4 : decode cX6_change 4 = .ok (.iload_n 1, 1) := by decide +kernel
theorem dX6_change_5 : decode cX6_change 5 = .ok (.aload_n 0, 1) := by decide +kernel
theorem dX6_change_6 : decode cX6_change 6 = .ok (.getfield 19, 3) := by decide +kernel
theorem dX6_change_9 : decode cX6_change 9 = .ok (.ifCond .ne 8, 3) := by decide +kernel
theorem dX6_change_12 : decode cX6_change 12 = .ok (.iload_n 2, 1) := by decide +kernel
theorem dX6_change_13 : decode cX6_change 13 = .ok (.i2b, 1) := by decide +kernel
theorem dX6_change_14 : decode cX6_change 14 = .ok (.goto 17, 3) := by decide +kernel
theorem dX6_change_17 : decode cX6_change 17 = .ok (.aload_n 0, 1) := by decide +kernel
theorem dX6_change_18 : decode cX6_change 18 = .ok (.getfield 19, 3) := by decide +kernel
theorem dX6_change_21 : decode cX6_change 21 = .ok (.iconst 1, 1) := by decide +kernel
theorem dX6_change_22 : decode cX6_change 22 = .ok (.if_icmp .ne 8, 3) := by decide +kernel
theorem dX6_change_25 : decode cX6_change 25 = .ok (.iload_n 2, 1) := by decide +kernel
theorem dX6_change_26 : decode cX6_change 26 = .ok (.i2s, 1) := by decide +kernel
theorem dX6_change_27 : decode cX6_change 27 = .ok (.goto 4, 3) := by decide +kernel
theorem dX6_change_30 : decode cX6_change 30 = .ok (.iload_n 2, 1) := by decide +kernel
theorem dX6_change_31 : decode cX6_change 31 = .ok (.invokestatic 30, 3) := by decide +kernel
theorem dX6_change_34 : decode cX6_change 34 = .ok (.return_, 1) := by decide +kernel
theorem dX7_init_0 : decode cX7_init 0 = .ok (.aload_n 0, 1) := by decide +kernel
theorem dX7_init_1 : decode cX7_init 1 = .ok (.invokespecial 3, 3) := by decide +kernel
theorem dX7_init_4 : decode cX7_init 4 = .ok (.aload_n 0, 1) := by decide +kernel
theorem dX7_init_5 : decode cX7_init 5 = .ok (.new 9, 3) := by decide +kernel
theorem dX7_init_8 : decode cX7_init 8 = .ok (.dup, 1) := by decide +kernel
theorem dX7_init_9 : decode cX7_init 9 = .ok (.invokespecial 11, 3) := by decide +kernel
theorem dX7_init_12 : decode cX7_init 12 = .ok (.putfield 12, 3) := by decide +kernel
theorem dX7_init_15 : decode cX7_init 15 = .ok (.aload_n 0, 1) := by decide +kernel
theorem dX7_init_16 : decode cX7_init 16 = .ok (.bipush 8, 2) := by decide +kernel
theorem dX7_init_18 : decode cX7_init 18 = .ok (.newarray .long, 2) := by decide +kernel
theorem dX7_init_20 : decode cX7_init 20 = .ok (.putfield 18, 3) := by decide +kernel
theorem dX7_init_23 : decode cX7_init 23 = .ok (.return_, 1) := by decide +kernel
theorem dX7_begin_0 : decode cX7_begin 0 = .ok (.aload_n 0, 1) := by decide +kernel
theorem dX7_begin_1 : decode cX7_begin 1 = .ok (.getfield 12, 3) := by decide +kernel
theorem dX7_begin_4 : decode cX7_begin 4 = .ok (.aload_n 1, 1) := by decide +kernel
theorem dX7_begin_5 : decode cX7_begin 5 = .ok (.invokevirtual 22, 3) := by decide +kernel
theorem dX7_begin_8 : decode cX7_begin 8 = .ok (.iconst 0, 1) := by decide +kernel
theorem dX7_begin_9 : decode cX7_begin 9 = .ok (.istore_n 2, 1) := by decide +kernel
theorem dX7_begin_10 : decode cX7_begin 10 = .ok (.iload_n 2, 1) := by decide +kernel
theorem dX7_begin_11 : decode cX7_begin 11 = .ok (.bipush 8, 2) := by decide +kernel
theorem dX7_begin_13 : decode cX7_begin 13 = .ok (.if_icmp .ge 15, 3) := by decide +kernel
theorem dX7_begin_16 : decode cX7_begin 16 = .ok (.aload_n 0, 1) := by decide +kernel
theorem dX7_begin_17 : decode cX7_begin 17 = .ok (.iload_n 2, 1) := by decide +kernel
theorem dX7_begin_18 : decode cX7_begin 18 = .ok (.lconst 0, 1) := by decide +kernel
theorem dX7_begin_19 : decode cX7_begin 19 = .ok (.invokevirtual 26, 3) := by decide +kernel
theorem dX7_begin_22 : decode cX7_begin 22 = .ok (.iinc 2 1, 3) := by decide +kernel
theorem dX7_begin_25 : decode cX7_begin 25 = .ok (.goto (-15), 3) := by decide +kernel
theorem dX7_begin_28 : decode cX7_begin 28 = .ok (.return_, 1) := by decide +kernel
theorem dX7_become_0 : decode cX7_become 0 = .ok (.aload_n 0, 1) := by decide +kernel
theorem dX7_become_1 : decode cX7_become 1 = .ok (.getfield 12, 3) := by decide +kernel
theorem dX7_become_4 : decode cX7_become 4 = .ok (.aload_n 1, 1) := by decide +kernel
theorem dX7_become_5 : decode cX7_become 5 = .ok (.getfield 12, 3) := by decide +kernel
theorem dX7_become_8 : decode cX7_become 8 = .ok (.invokevirtual 22, 3) := by decide +kernel
theorem dX7_become_11 : decode cX7_become 11 = .ok (.iconst 0, 1) := by decide +kernel
theorem dX7_become_12 : decode cX7_become 12 = .ok (.istore_n 2, 1) := by decide +kernel
theorem dX7_become_13 : decode cX7_become 13 = .ok (.iload_n 2, 1) := by decide +kernel
theorem dX7_become_14 : decode cX7_become 14 = .ok (.bipush 8, 2) := by decide +kernel
theorem dX7_become_16 : decode cX7_become 16 = .ok (.if_icmp .ge 19, 3) := by decide +kernel
theorem dX7_become_19 : decode cX7_become 19 = .ok (.aload_n 0, 1) := by decide +kernel
theorem dX7_become_20 : decode cX7_become 20 = .ok (.iload_n 2, 1) := by decide +kernel
theorem dX7_become_21 : decode cX7_become 21 = .ok (.aload_n 1, 1) := by decide +kernel
theorem dX7_become_22 : decode cX7_become 22 = .ok (.iload_n 2, 1) := by decide +kernel
theorem dX7_become_23 : decode cX7_become 23 = .ok (.invokevirtual 30, 3) := by decide +kernel
theorem dX7_become_26 : decode cX7_become 26 = .ok (.invokevirtual 26, 3) := by decide +kernel
theorem dX7_become_29 : decode cX7_become 29 = .ok (.iinc 2 1, 3) := by decide +kernel
theorem dX7_become_32 : decode cX7_become 32 = .ok (.goto (-19), 3) := by decide +kernel
theorem dX7_become_35 : decode cX7_become 35 = .ok (.return_, 1) := by decide +kernel
theorem dX7_keep_0 : decode cX7_keep 0 = .ok (.iload_n 1, 1) := by decide +kernel
theorem dX7_keep_1 : decode cX7_keep 1 = .ok (.ifCond .lt 19, 3) := by decide +kernel
theorem dX7_keep_4 : decode cX7_keep 4 = .ok (.iload_n 1, 1) := by decide +kernel
theorem dX7_keep_5 : decode cX7_keep 5 = .ok (.aload_n 0, 1) := by decide +kernel
theorem dX7_keep_6 : decode cX7_keep 6 = .ok (.getfield 18, 3) := by decide +kernel
theorem dX7_keep_9 : decode cX7_keep 9 = .ok (.arraylength, 1) := by decide +kernel
theorem dX7_keep_10 : decode cX7_keep 10 = .ok (.if_icmp .ge 10, 3) := by decide +kernel
theorem dX7_keep_13 : decode cX7_keep 13 = .ok (.aload_n 0, 1) := by decide +kernel
theorem dX7_keep_14 : decode cX7_keep 14 = .ok (.getfield 18, 3) := by decide +kernel
theorem dX7_keep_17 : decode cX7_keep 17 = .ok (.iload_n 1, 1) := by decide +kernel
theorem dX7_keep_18 : decode cX7_keep 18 = .ok (.lload_n 2, 1) := by decide +kernel
theorem dX7_keep_19 : decode cX7_keep 19 = .ok (.lastore, 1) := by decide +kernel
theorem dX7_keep_20 : decode cX7_keep 20 = .ok (.return_, 1) := by decide +kernel
theorem dX7_held_0 : decode cX7_held 0 = .ok (.iload_n 1, 1) := by decide +kernel
theorem dX7_held_1 : decode cX7_held 1 = .ok (.ifCond .lt 21, 3) := by decide +kernel
theorem dX7_held_4 : decode cX7_held 4 = .ok (.iload_n 1, 1) := by decide +kernel
theorem dX7_held_5 : decode cX7_held 5 = .ok (.aload_n 0, 1) := by decide +kernel
theorem dX7_held_6 : decode cX7_held 6 = .ok (.getfield 18, 3) := by decide +kernel
theorem dX7_held_9 : decode cX7_held 9 = .ok (.arraylength, 1) := by decide +kernel
theorem dX7_held_10 : decode cX7_held 10 = .ok (.if_icmp .ge 12, 3) := by decide +kernel
theorem dX7_held_13 : decode cX7_held 13 = .ok (.aload_n 0, 1) := by decide +kernel
theorem dX7_held_14 : decode cX7_held 14 = .ok (.getfield 18, 3) := by decide +kernel
theorem dX7_held_17 : decode cX7_held 17 = .ok (.iload_n 1, 1) := by decide +kernel
theorem dX7_held_18 : decode cX7_held 18 = .ok (.laload, 1) := by decide +kernel
theorem dX7_held_19 : decode cX7_held 19 = .ok (.goto 4, 3) := by decide +kernel
theorem dX7_held_22 : decode cX7_held 22 = .ok (.lconst 0, 1) := by decide +kernel
theorem dX7_held_23 : decode cX7_held 23 = .ok (.lreturn, 1) := by decide +kernel
theorem dX7_heldBits_0 : decode cX7_heldBits 0 = .ok (.iconst 0, 1) := by decide +kernel
theorem dX7_heldBits_1 : decode cX7_heldBits 1 = .ok (.istore_n 1, 1) := by decide +kernel
theorem dX7_heldBits_2 : decode cX7_heldBits 2 = .ok (.iconst 0, 1) := by decide +kernel
theorem dX7_heldBits_3 : decode cX7_heldBits 3 = .ok (.istore_n 2, 1) := by decide +kernel
theorem dX7_heldBits_4 : decode cX7_heldBits 4 = .ok (.iload_n 2, 1) := by decide +kernel
theorem dX7_heldBits_5 : decode cX7_heldBits 5 = .ok (.bipush 8, 2) := by decide +kernel
theorem dX7_heldBits_7 : decode cX7_heldBits 7 = .ok (.if_icmp .ge 25, 3) := by decide +kernel
theorem dX7_heldBits_10 : decode cX7_heldBits 10 = .ok (.aload_n 0, 1) := by decide +kernel
theorem dX7_heldBits_11 : decode cX7_heldBits 11 = .ok (.iload_n 2, 1) := by decide +kernel
theorem dX7_heldBits_12 : decode cX7_heldBits 12 = .ok (.invokevirtual 30, 3) := by decide +kernel
theorem dX7_heldBits_15 : decode cX7_heldBits 15 = .ok (.lconst 0, 1) := by decide +kernel
theorem dX7_heldBits_16 : decode cX7_heldBits 16 = .ok (.lcmp, 1) := by decide +kernel
theorem dX7_heldBits_17 : decode cX7_heldBits 17 = .ok (.ifCond .eq 9, 3) := by decide +kernel
theorem dX7_heldBits_20 : decode cX7_heldBits 20 = .ok (.iload_n 1, 1) := by decide +kernel
theorem dX7_heldBits_21 : decode cX7_heldBits 21 = .ok (.iconst 1, 1) := by decide +kernel
theorem dX7_heldBits_22 : decode cX7_heldBits 22 = .ok (.iload_n 2, 1) := by decide +kernel
theorem dX7_heldBits_23 : decode cX7_heldBits 23 = .ok (.ishl, 1) := by decide +kernel
theorem dX7_heldBits_24 : decode cX7_heldBits 24 = .ok (.ior, 1) := by decide +kernel
theorem dX7_heldBits_25 : decode cX7_heldBits 25 = .ok (.istore_n 1, 1) := by decide +kernel
theorem dX7_heldBits_26 : decode cX7_heldBits 26 = .ok (.iinc 2 1, 3) := by decide +kernel
theorem dX7_heldBits_29 : decode cX7_heldBits 29 = .ok (.goto (-25), 3) := by decide +kernel
theorem dX7_heldBits_32 : decode cX7_heldBits 32 = .ok (.iload_n 1, 1) := by decide +kernel
theorem dX7_heldBits_33 : decode cX7_heldBits 33 = .ok (.ireturn, 1) := by decide +kernel
theorem dX8_init_0 : decode cX8_init 0 = .ok (.aload_n 0, 1) := by decide +kernel
theorem dX8_init_1 : decode cX8_init 1 = .ok (.invokespecial 3, 3) := by decide +kernel
theorem dX8_init_4 : decode cX8_init 4 = .ok (.aload_n 0, 1) := by decide +kernel
theorem dX8_init_5 : decode cX8_init 5 = .ok (.sipush 400, 3) := by decide +kernel
theorem dX8_init_8 : decode cX8_init 8 = .ok (.newarray .byte, 2) := by decide +kernel
theorem dX8_init_10 : decode cX8_init 10 = .ok (.putfield 9, 3) := by decide +kernel
theorem dX8_init_13 : decode cX8_init 13 = .ok (.return_, 1) := by decide +kernel
theorem dX8_hasRoomFor_0 : decode cX8_hasRoomFor 0 = .ok (.aload_n 0, 1) := by decide +kernel
theorem dX8_hasRoomFor_1 : decode cX8_hasRoomFor 1 = .ok (.getfield 15, 3) := by decide +kernel
theorem dX8_hasRoomFor_4 : decode cX8_hasRoomFor 4 = .ok (.iload_n 1, 1) := by decide +kernel
theorem dX8_hasRoomFor_5 : decode cX8_hasRoomFor 5 = .ok (.iadd, 1) := by decide +kernel
theorem dX8_hasRoomFor_6 : decode cX8_hasRoomFor 6 = .ok (.aload_n 0, 1) := by decide +kernel
theorem dX8_hasRoomFor_7 : decode cX8_hasRoomFor 7 = .ok (.getfield 9, 3) := by decide +kernel
theorem dX8_hasRoomFor_10 : decode cX8_hasRoomFor 10 = .ok (.arraylength, 1) := by decide +kernel
theorem dX8_hasRoomFor_11 : decode cX8_hasRoomFor 11 = .ok (.if_icmp .gt 7, 3) := by decide +kernel
theorem dX8_hasRoomFor_14 : decode cX8_hasRoomFor 14 = .ok (.iconst 1, 1) := by decide +kernel
theorem dX8_hasRoomFor_15 : decode cX8_hasRoomFor 15 = .ok (.goto 4, 3) := by decide +kernel
theorem dX8_hasRoomFor_18 : decode cX8_hasRoomFor 18 = .ok (.iconst 0, 1) := by decide +kernel
theorem dX8_hasRoomFor_19 : decode cX8_hasRoomFor 19 = .ok (.ireturn, 1) := by decide +kernel
theorem dX8_add_0 : decode cX8_add 0 = .ok (.aload_n 0, 1) := by decide +kernel
theorem dX8_add_1 : decode cX8_add 1 = .ok (.getfield 15, 3) := by decide +kernel
theorem dX8_add_4 : decode cX8_add 4 = .ok (.ifCond .lt 35, 3) := by decide +kernel
theorem dX8_add_7 : decode cX8_add 7 = .ok (.aload_n 0, 1) := by decide +kernel
theorem dX8_add_8 : decode cX8_add 8 = .ok (.getfield 15, 3) := by decide +kernel
theorem dX8_add_11 : decode cX8_add 11 = .ok (.aload_n 0, 1) := by decide +kernel
theorem dX8_add_12 : decode cX8_add 12 = .ok (.getfield 9, 3) := by decide +kernel
theorem dX8_add_15 : decode cX8_add 15 = .ok (.arraylength, 1) := by decide +kernel
theorem dX8_add_16 : decode cX8_add 16 = .ok (.if_icmp .ge 23, 3) := by decide +kernel
theorem dX8_add_19 : decode cX8_add 19 = .ok (.aload_n 0, 1) := by decide +kernel
theorem dX8_add_20 : decode cX8_add 20 = .ok (.getfield 9, 3) := by decide +kernel
theorem dX8_add_23 : decode cX8_add 23 = .ok (.aload_n 0, 1) := by decide +kernel
theorem dX8_add_24 : decode cX8_add 24 = .ok (.getfield 15, 3) := by decide +kernel
theorem dX8_add_27 : decode cX8_add 27 = .ok (.iload_n 1, 1) := by decide +kernel
theorem dX8_add_28 : decode cX8_add 28 = .ok (.bastore, 1) := by decide +kernel
theorem dX8_add_29 : decode cX8_add 29 = .ok (.aload_n 0, 1) := by decide +kernel
theorem dX8_add_30 : decode cX8_add 30 = .ok (.dup, 1) := by decide +kernel
theorem dX8_add_31 : decode cX8_add 31 = .ok (.getfield 15, 3) := by decide +kernel
theorem dX8_add_34 : decode cX8_add 34 = .ok (.iconst 1, 1) := by decide +kernel
theorem dX8_add_35 : decode cX8_add 35 = .ok (.iadd, 1) := by decide +kernel
theorem dX8_add_36 : decode cX8_add 36 = .ok (.putfield 15, 3) := by decide +kernel
theorem dX8_add_39 : decode cX8_add 39 = .ok (.return_, 1) := by decide +kernel
theorem dX8_byteAt_0 : decode cX8_byteAt 0 = .ok (.iload_n 1, 1) := by decide +kernel
theorem dX8_byteAt_1 : decode cX8_byteAt 1 = .ok (.ifCond .lt 33, 3) := by decide +kernel
theorem dX8_byteAt_4 : decode cX8_byteAt 4 = .ok (.iload_n 1, 1) := by decide +kernel
theorem dX8_byteAt_5 : decode cX8_byteAt 5 = .ok (.aload_n 0, 1) := by decide +kernel
theorem dX8_byteAt_6 : decode cX8_byteAt 6 = .ok (.getfield 15, 3) := by decide +kernel
theorem dX8_byteAt_9 : decode cX8_byteAt 9 = .ok (.if_icmp .ge 25, 3) := by decide +kernel
theorem dX8_byteAt_12 : decode cX8_byteAt 12 = .ok (.iload_n 1, 1) := by decide +kernel
theorem dX8_byteAt_13 : decode cX8_byteAt 13 = .ok (.aload_n 0, 1) := by decide +kernel
theorem dX8_byteAt_14 : decode cX8_byteAt 14 = .ok (.getfield 9, 3) := by decide +kernel
theorem dX8_byteAt_17 : decode cX8_byteAt 17 = .ok (.arraylength, 1) := by decide +kernel
theorem dX8_byteAt_18 : decode cX8_byteAt 18 = .ok (.if_icmp .ge 16, 3) := by decide +kernel
theorem dX8_byteAt_21 : decode cX8_byteAt 21 = .ok (.aload_n 0, 1) := by decide +kernel
theorem dX8_byteAt_22 : decode cX8_byteAt 22 = .ok (.getfield 9, 3) := by decide +kernel
theorem dX8_byteAt_25 : decode cX8_byteAt 25 = .ok (.iload_n 1, 1) := by decide +kernel
theorem dX8_byteAt_26 : decode cX8_byteAt 26 = .ok (.baload, 1) := by decide +kernel
theorem dX8_byteAt_27 : decode cX8_byteAt 27 = .ok (.sipush 255, 3) := by decide +kernel
theorem dX8_byteAt_30 : decode cX8_byteAt 30 = .ok (.iand, 1) := by decide +kernel
theorem dX8_byteAt_31 : decode cX8_byteAt 31 = .ok (.goto 4, 3) := by decide +kernel
theorem dX8_byteAt_34 : decode cX8_byteAt 34 = .ok (.iconst (-1), 1) := by decide +kernel
theorem dX8_byteAt_35 : decode cX8_byteAt 35 = .ok (.ireturn, 1) := by decide +kernel
theorem dX9_init_0 : decode cX9_init 0 = .ok (.aload_n 0, 1) := by decide +kernel
theorem dX9_init_1 : decode cX9_init 1 = .ok (.invokespecial 3, 3) := by decide +kernel
theorem dX9_init_4 : decode cX9_init 4 = .ok (.aload_n 0, 1) := by decide +kernel
theorem dX9_init_5 : decode cX9_init 5 = .ok (.bipush 12, 2) := by decide +kernel
theorem dX9_init_7 : decode cX9_init 7 = .ok (.newarray .int, 2) := by decide +kernel
theorem dX9_init_9 : decode cX9_init 9 = .ok (.putfield 9, 3) := by decide +kernel
theorem dX9_init_12 : decode cX9_init 12 = .ok (.aload_n 0, 1) := by decide +kernel
theorem dX9_init_13 : decode cX9_init 13 = .ok (.bipush 12, 2) := by decide +kernel
theorem dX9_init_15 : decode cX9_init 15 = .ok (.newarray .int, 2) := by decide +kernel
theorem dX9_init_17 : decode cX9_init 17 = .ok (.putfield 15, 3) := by decide +kernel
theorem dX9_init_20 : decode cX9_init 20 = .ok (.aload_n 0, 1) := by decide +kernel
theorem dX9_init_21 : decode cX9_init 21 = .ok (.bipush 12, 2) := by decide +kernel
theorem dX9_init_23 : decode cX9_init 23 = .ok (.newarray .int, 2) := by decide +kernel
theorem dX9_init_25 : decode cX9_init 25 = .ok (.putfield 18, 3) := by decide +kernel
theorem dX9_init_28 : decode cX9_init 28 = .ok (.aload_n 0, 1) := by decide +kernel
theorem dX9_init_29 : decode cX9_init 29 = .ok (.iconst 5, 1) := by decide +kernel
theorem dX9_init_30 : decode cX9_init 30 = .ok (.newarray .int, 2) := by decide +kernel
theorem dX9_init_32 : decode cX9_init 32 = .ok (.putfield 21, 3) := by decide +kernel
theorem dX9_init_35 : decode cX9_init 35 = .ok (.aload_n 0, 1) := by decide +kernel
theorem dX9_init_36 : decode cX9_init 36 = .ok (.iconst 5, 1) := by decide +kernel
theorem dX9_init_37 : decode cX9_init 37 = .ok (.newarray .int, 2) := by decide +kernel
theorem dX9_init_39 : decode cX9_init 39 = .ok (.putfield 24, 3) := by decide +kernel
theorem dX9_init_42 : decode cX9_init 42 = .ok (.aload_n 0, 1) := by decide +kernel
theorem dX9_init_43 : decode cX9_init 43 = .ok (.iconst 5, 1) := by decide +kernel
theorem dX9_init_44 : decode cX9_init 44 = .ok (.newarray .int, 2) := by decide +kernel
theorem dX9_init_46 : decode cX9_init 46 = .ok (.putfield 27, 3) := by decide +kernel
theorem dX9_init_49 : decode cX9_init 49 = .ok (.aload_n 0, 1) := by decide +kernel
theorem dX9_init_50 : decode cX9_init 50 = .ok (.bipush 8, 2) := by decide +kernel
theorem dX9_init_52 : decode cX9_init 52 = .ok (.newarray .int, 2) := by decide +kernel
theorem dX9_init_54 : decode cX9_init 54 = .ok (.putfield 30, 3) := by decide +kernel
theorem dX9_init_57 : decode cX9_init 57 = .ok (.aload_n 0, 1) := by decide +kernel
theorem dX9_init_58 : decode cX9_init 58 = .ok (.bipush 8, 2) := by decide +kernel
theorem dX9_init_60 : decode cX9_init 60 = .ok (.newarray .int, 2) := by decide +kernel
theorem dX9_init_62 : decode cX9_init 62 = .ok (.putfield 33, 3) := by decide +kernel
theorem dX9_init_65 : decode cX9_init 65 = .ok (.return_, 1) := by decide +kernel
theorem dX9_clear_0 : decode cX9_clear 0 = .ok (.aload_n 0, 1) := by decide +kernel
theorem dX9_clear_1 : decode cX9_clear 1 = .ok (.iconst 0, 1) := by decide +kernel
theorem dX9_clear_2 : decode cX9_clear 2 = .ok (.putfield 36, 3) := by decide +kernel
theorem dX9_clear_5 : decode cX9_clear 5 = .ok (.aload_n 0, 1) := by decide +kernel
theorem dX9_clear_6 : decode cX9_clear 6 = .ok (.iconst 0, 1) := by decide +kernel
theorem dX9_clear_7 : decode cX9_clear 7 = .ok (.putfield 40, 3) := by decide +kernel
theorem dX9_clear_10 : decode cX9_clear 10 = .ok (.aload_n 0, 1) := by decide +kernel
theorem dX9_clear_11 : decode cX9_clear 11 = .ok (.iconst 0, 1) := by decide +kernel
theorem dX9_clear_12 : decode cX9_clear 12 = .ok (.putfield 43, 3) := by decide +kernel
theorem dX9_clear_15 : decode cX9_clear 15 = .ok (.return_, 1) := by decide +kernel
theorem dX9_addThing_0 : decode cX9_addThing 0 = .ok (.aload_n 0, 1) := by decide +kernel
theorem dX9_addThing_1 : decode cX9_addThing 1 = .ok (.getfield 9, 3) := by decide +kernel
theorem dX9_addThing_4 : decode cX9_addThing 4 = .ok (.aload_n 0, 1) := by decide +kernel
theorem dX9_addThing_5 : decode cX9_addThing 5 = .ok (.getfield 36, 3) := by decide +kernel
theorem dX9_addThing_8 : decode cX9_addThing 8 = .ok (.iload_n 1, 1) := by decide +kernel
theorem dX9_addThing_9 : decode cX9_addThing 9 = .ok (.invokestatic 46, 3) := by decide +kernel
theorem dX9_addThing_12 : decode cX9_addThing 12 = .ok (.aload_n 0, 1) := by decide +kernel
theorem dX9_addThing_13 : decode cX9_addThing 13 = .ok (.getfield 15, 3) := by decide +kernel
theorem dX9_addThing_16 : decode cX9_addThing 16 = .ok (.aload_n 0, 1) := by decide +kernel
theorem dX9_addThing_17 : decode cX9_addThing 17 = .ok (.getfield 36, 3) := by decide +kernel
theorem dX9_addThing_20 : decode cX9_addThing 20 = .ok (.iload_n 2, 1) := by decide +kernel
theorem dX9_addThing_21 : decode cX9_addThing 21 = .ok (.invokestatic 46, 3) := by decide +kernel
theorem dX9_addThing_24 : decode cX9_addThing 24 = .ok (.aload_n 0, 1) := by decide +kernel
theorem dX9_addThing_25 : decode cX9_addThing 25 = .ok (.getfield 18, 3) := by decide +kernel
theorem dX9_addThing_28 : decode cX9_addThing 28 = .ok (.aload_n 0, 1) := by decide +kernel
theorem dX9_addThing_29 : decode cX9_addThing 29 = .ok (.getfield 36, 3) := by decide +kernel
theorem dX9_addThing_32 : decode cX9_addThing 32 = .ok (.iload_n 3, 1) := by decide +kernel
theorem dX9_addThing_33 : decode cX9_addThing 33 = .ok (.invokestatic 46, 3) := by decide +kernel
theorem dX9_addThing_36 : decode cX9_addThing 36 = .ok (.aload_n 0, 1) := by decide +kernel
theorem dX9_addThing_37 : decode cX9_addThing 37 = .ok (.dup, 1) := by decide +kernel
theorem dX9_addThing_38 : decode cX9_addThing 38 = .ok (.getfield 36, 3) := by decide +kernel
theorem dX9_addThing_41 : decode cX9_addThing 41 = .ok (.iconst 1, 1) := by decide +kernel
theorem dX9_addThing_42 : decode cX9_addThing 42 = .ok (.iadd, 1) := by decide +kernel
theorem dX9_addThing_43 : decode cX9_addThing 43 = .ok (.putfield 36, 3) := by decide +kernel
theorem dX9_addThing_46 : decode cX9_addThing 46 = .ok (.return_, 1) := by decide +kernel
theorem dX9_addRule_0 : decode cX9_addRule 0 = .ok (.aload_n 0, 1) := by decide +kernel
theorem dX9_addRule_1 : decode cX9_addRule 1 = .ok (.getfield 21, 3) := by decide +kernel
theorem dX9_addRule_4 : decode cX9_addRule 4 = .ok (.aload_n 0, 1) := by decide +kernel
theorem dX9_addRule_5 : decode cX9_addRule 5 = .ok (.getfield 40, 3) := by decide +kernel
theorem dX9_addRule_8 : decode cX9_addRule 8 = .ok (.iload_n 1, 1) := by decide +kernel
theorem dX9_addRule_9 : decode cX9_addRule 9 = .ok (.invokestatic 46, 3) := by decide +kernel
theorem dX9_addRule_12 : decode cX9_addRule 12 = .ok (.aload_n 0, 1) := by decide +kernel
theorem dX9_addRule_13 : decode cX9_addRule 13 = .ok (.getfield 24, 3) := by decide +kernel
theorem dX9_addRule_16 : decode cX9_addRule 16 = .ok (.aload_n 0, 1) := by decide +kernel
theorem dX9_addRule_17 : decode cX9_addRule 17 = .ok (.getfield 40, 3) := by decide +kernel
theorem dX9_addRule_20 : decode cX9_addRule 20 = .ok (.iload_n 2, 1) := by decide +kernel
theorem dX9_addRule_21 : decode cX9_addRule 21 = .ok (.invokestatic 46, 3) := by decide +kernel
theorem dX9_addRule_24 : decode cX9_addRule 24 = .ok (.aload_n 0, 1) := by decide +kernel
theorem dX9_addRule_25 : decode cX9_addRule 25 = .ok (.getfield 27, 3) := by decide +kernel
theorem dX9_addRule_28 : decode cX9_addRule 28 = .ok (.aload_n 0, 1) := by decide +kernel
theorem dX9_addRule_29 : decode cX9_addRule 29 = .ok (.getfield 40, 3) := by decide +kernel
theorem dX9_addRule_32 : decode cX9_addRule 32 = .ok (.iload_n 3, 1) := by decide +kernel
theorem dX9_addRule_33 : decode cX9_addRule 33 = .ok (.invokestatic 46, 3) := by decide +kernel
theorem dX9_addRule_36 : decode cX9_addRule 36 = .ok (.aload_n 0, 1) := by decide +kernel
theorem dX9_addRule_37 : decode cX9_addRule 37 = .ok (.dup, 1) := by decide +kernel
theorem dX9_addRule_38 : decode cX9_addRule 38 = .ok (.getfield 40, 3) := by decide +kernel
theorem dX9_addRule_41 : decode cX9_addRule 41 = .ok (.iconst 1, 1) := by decide +kernel
theorem dX9_addRule_42 : decode cX9_addRule 42 = .ok (.iadd, 1) := by decide +kernel
theorem dX9_addRule_43 : decode cX9_addRule 43 = .ok (.putfield 40, 3) := by decide +kernel
theorem dX9_addRule_46 : decode cX9_addRule 46 = .ok (.return_, 1) := by decide +kernel
theorem dX9_addPair_0 : decode cX9_addPair 0 = .ok (.aload_n 0, 1) := by decide +kernel
theorem dX9_addPair_1 : decode cX9_addPair 1 = .ok (.getfield 30, 3) := by decide +kernel
theorem dX9_addPair_4 : decode cX9_addPair 4 = .ok (.aload_n 0, 1) := by decide +kernel
theorem dX9_addPair_5 : decode cX9_addPair 5 = .ok (.getfield 43, 3) := by decide +kernel
theorem dX9_addPair_8 : decode cX9_addPair 8 = .ok (.iload_n 1, 1) := by decide +kernel
theorem dX9_addPair_9 : decode cX9_addPair 9 = .ok (.invokestatic 46, 3) := by decide +kernel
theorem dX9_addPair_12 : decode cX9_addPair 12 = .ok (.aload_n 0, 1) := by decide +kernel
theorem dX9_addPair_13 : decode cX9_addPair 13 = .ok (.getfield 33, 3) := by decide +kernel
theorem dX9_addPair_16 : decode cX9_addPair 16 = .ok (.aload_n 0, 1) := by decide +kernel
theorem dX9_addPair_17 : decode cX9_addPair 17 = .ok (.getfield 43, 3) := by decide +kernel
theorem dX9_addPair_20 : decode cX9_addPair 20 = .ok (.iload_n 2, 1) := by decide +kernel
theorem dX9_addPair_21 : decode cX9_addPair 21 = .ok (.invokestatic 46, 3) := by decide +kernel
theorem dX9_addPair_24 : decode cX9_addPair 24 = .ok (.aload_n 0, 1) := by decide +kernel
theorem dX9_addPair_25 : decode cX9_addPair 25 = .ok (.dup, 1) := by decide +kernel
theorem dX9_addPair_26 : decode cX9_addPair 26 = .ok (.getfield 43, 3) := by decide +kernel
theorem dX9_addPair_29 : decode cX9_addPair 29 = .ok (.iconst 1, 1) := by decide +kernel
theorem dX9_addPair_30 : decode cX9_addPair 30 = .ok (.iadd, 1) := by decide +kernel
theorem dX9_addPair_31 : decode cX9_addPair 31 = .ok (.putfield 43, 3) := by decide +kernel
theorem dX9_addPair_34 : decode cX9_addPair 34 = .ok (.return_, 1) := by decide +kernel
theorem dX9_become_0 : decode cX9_become 0 = .ok (.aload_n 0, 1) := by decide +kernel
theorem dX9_become_1 : decode cX9_become 1 = .ok (.invokevirtual 50, 3) := by decide +kernel
theorem dX9_become_4 : decode cX9_become 4 = .ok (.iconst 0, 1) := by decide +kernel
theorem dX9_become_5 : decode cX9_become 5 = .ok (.istore_n 2, 1) := by decide +kernel
theorem dX9_become_6 : decode cX9_become 6 = .ok (.iload_n 2, 1) := by decide +kernel
theorem dX9_become_7 : decode cX9_become 7 = .ok (.aload_n 1, 1) := by decide +kernel
theorem dX9_become_8 : decode cX9_become 8 = .ok (.getfield 36, 3) := by decide +kernel
theorem dX9_become_11 : decode cX9_become 11 = .ok (.if_icmp .ge 31, 3) := by decide +kernel
theorem dX9_become_14 : decode cX9_become 14 = .ok (.aload_n 0, 1) := by decide +kernel
theorem dX9_become_15 : decode cX9_become 15 = .ok (.aload_n 1, 1) := by decide +kernel
theorem dX9_become_16 : decode cX9_become 16 = .ok (.iload_n 2, 1) := by decide +kernel
theorem dX9_become_17 : decode cX9_become 17 = .ok (.invokevirtual 53, 3) := by decide +kernel
theorem dX9_become_20 : decode cX9_become 20 = .ok (.aload_n 1, 1) := by decide +kernel
theorem dX9_become_21 : decode cX9_become 21 = .ok (.iload_n 2, 1) := by decide +kernel
theorem dX9_become_22 : decode cX9_become 22 = .ok (.invokevirtual 57, 3) := by decide +kernel
theorem dX9_become_25 : decode cX9_become 25 = .ok (.aload_n 1, 1) := by decide +kernel
theorem dX9_become_26 : decode cX9_become 26 = .ok (.getfield 18, 3) := by decide +kernel
theorem dX9_become_29 : decode cX9_become 29 = .ok (.iload_n 2, 1) := by decide +kernel
theorem dX9_become_30 : decode cX9_become 30 = .ok (.invokestatic 60, 3) := by decide +kernel
theorem dX9_become_33 : decode cX9_become 33 = .ok (.invokevirtual 64, 3) := by decide +kernel
theorem dX9_become_36 : decode cX9_become 36 = .ok (.iinc 2 1, 3) := by decide +kernel
theorem dX9_become_39 : decode cX9_become 39 = .ok (.goto (-33), 3) := by decide +kernel
theorem dX9_become_42 : decode cX9_become 42 = .ok (.iconst 0, 1) := by decide +kernel
theorem dX9_become_43 : decode cX9_become 43 = .ok (.istore_n 2, 1) := by decide +kernel
theorem dX9_become_44 : decode cX9_become 44 = .ok (.iload_n 2, 1) := by decide +kernel
theorem dX9_become_45 : decode cX9_become 45 = .ok (.aload_n 1, 1) := by decide +kernel
theorem dX9_become_46 : decode cX9_become 46 = .ok (.getfield 40, 3) := by decide +kernel
theorem dX9_become_49 : decode cX9_become 49 = .ok (.if_icmp .ge 37, 3) := by decide +kernel
theorem dX9_become_52 : decode cX9_become 52 = .ok (.aload_n 0, 1) := by decide +kernel
theorem dX9_become_53 : decode cX9_become 53 = .ok (.aload_n 1, 1) := by decide +kernel
theorem dX9_become_54 : decode cX9_become 54 = .ok (.getfield 21, 3) := by decide +kernel
theorem dX9_become_57 : decode cX9_become 57 = .ok (.iload_n 2, 1) := by decide +kernel
theorem dX9_become_58 : decode cX9_become 58 = .ok (.invokestatic 60, 3) := by decide +kernel
theorem dX9_become_61 : decode cX9_become 61 = .ok (.aload_n 1, 1) := by decide +kernel
theorem dX9_become_62 : decode cX9_become 62 = .ok (.getfield 24, 3) := by decide +kernel
theorem dX9_become_65 : decode cX9_become 65 = .ok (.iload_n 2, 1) := by decide +kernel
theorem dX9_become_66 : decode cX9_become 66 = .ok (.invokestatic 60, 3) := by decide +kernel
theorem dX9_become_69 : decode cX9_become 69 = .ok (.aload_n 1, 1) := by decide +kernel
theorem dX9_become_70 : decode cX9_become 70 = .ok (.getfield 27, 3) := by decide +kernel
theorem dX9_become_73 : decode cX9_become 73 = .ok (.iload_n 2, 1) := by decide +kernel
theorem dX9_become_74 : decode cX9_become 74 = .ok (.invokestatic 60, 3) := by decide +kernel
theorem dX9_become_77 : decode cX9_become 77 = .ok (.invokevirtual 68, 3) := by decide +kernel
theorem dX9_become_80 : decode cX9_become 80 = .ok (.iinc 2 1, 3) := by decide +kernel
theorem dX9_become_83 : decode cX9_become 83 = .ok (.goto (-39), 3) := by decide +kernel
theorem dX9_become_86 : decode cX9_become 86 = .ok (.iconst 0, 1) := by decide +kernel
theorem dX9_become_87 : decode cX9_become 87 = .ok (.istore_n 2, 1) := by decide +kernel
theorem dX9_become_88 : decode cX9_become 88 = .ok (.iload_n 2, 1) := by decide +kernel
theorem dX9_become_89 : decode cX9_become 89 = .ok (.aload_n 1, 1) := by decide +kernel
theorem dX9_become_90 : decode cX9_become 90 = .ok (.getfield 43, 3) := by decide +kernel
theorem dX9_become_93 : decode cX9_become 93 = .ok (.if_icmp .ge 29, 3) := by decide +kernel
theorem dX9_become_96 : decode cX9_become 96 = .ok (.aload_n 0, 1) := by decide +kernel
theorem dX9_become_97 : decode cX9_become 97 = .ok (.aload_n 1, 1) := by decide +kernel
theorem dX9_become_98 : decode cX9_become 98 = .ok (.getfield 30, 3) := by decide +kernel
theorem dX9_become_101 : decode cX9_become 101 = .ok (.iload_n 2, 1) := by decide +kernel
theorem dX9_become_102 : decode cX9_become 102 = .ok (.invokestatic 60, 3) := by decide +kernel
theorem dX9_become_105 : decode cX9_become 105 = .ok (.aload_n 1, 1) := by decide +kernel
theorem dX9_become_106 : decode cX9_become 106 = .ok (.getfield 33, 3) := by decide +kernel
theorem dX9_become_109 : decode cX9_become 109 = .ok (.iload_n 2, 1) := by decide +kernel
theorem dX9_become_110 : decode cX9_become 110 = .ok (.invokestatic 60, 3) := by decide +kernel
theorem dX9_become_113 : decode cX9_become 113 = .ok (.invokevirtual 71, 3) := by decide +kernel
theorem dX9_become_116 : decode cX9_become 116 = .ok (.iinc 2 1, 3) := by decide +kernel
theorem dX9_become_119 : decode cX9_become 119 = .ok (.goto (-31), 3) := by decide +kernel
theorem dX9_become_122 : decode cX9_become 122 = .ok (.return_, 1) := by decide +kernel
theorem dX9_first_0 : decode cX9_first 0 = .ok (.iload_n 1, 1) := by decide +kernel
theorem dX9_first_1 : decode cX9_first 1 = .ok (.aload_n 0, 1) := by decide +kernel
theorem dX9_first_2 : decode cX9_first 2 = .ok (.getfield 36, 3) := by decide +kernel
theorem dX9_first_5 : decode cX9_first 5 = .ok (.if_icmp .ge 14, 3) := by decide +kernel
theorem dX9_first_8 : decode cX9_first 8 = .ok (.aload_n 0, 1) := by decide +kernel
theorem dX9_first_9 : decode cX9_first 9 = .ok (.getfield 9, 3) := by decide +kernel
theorem dX9_first_12 : decode cX9_first 12 = .ok (.iload_n 1, 1) := by decide +kernel
theorem dX9_first_13 : decode cX9_first 13 = .ok (.invokestatic 60, 3) := by decide +kernel
theorem dX9_first_16 : decode cX9_first 16 = .ok (.goto 4, 3) := by decide +kernel
theorem dX9_first_19 : decode cX9_first 19 = .ok (.iconst 0, 1) := by decide +kernel
theorem dX9_first_20 : decode cX9_first 20 = .ok (.ireturn, 1) := by decide +kernel
theorem dX9_other_0 : decode cX9_other 0 = .ok (.iload_n 1, 1) := by decide +kernel
theorem dX9_other_1 : decode cX9_other 1 = .ok (.aload_n 0, 1) := by decide +kernel
theorem dX9_other_2 : decode cX9_other 2 = .ok (.getfield 36, 3) := by decide +kernel
theorem dX9_other_5 : decode cX9_other 5 = .ok (.if_icmp .ge 14, 3) := by decide +kernel
theorem dX9_other_8 : decode cX9_other 8 = .ok (.aload_n 0, 1) := by decide +kernel
theorem dX9_other_9 : decode cX9_other 9 = .ok (.getfield 15, 3) := by decide +kernel
theorem dX9_other_12 : decode cX9_other 12 = .ok (.iload_n 1, 1) := by decide +kernel
theorem dX9_other_13 : decode cX9_other 13 = .ok (.invokestatic 60, 3) := by decide +kernel
theorem dX9_other_16 : decode cX9_other 16 = .ok (.goto 4, 3) := by decide +kernel
theorem dX9_other_19 : decode cX9_other 19 = .ok (.iconst 0, 1) := by decide +kernel
theorem dX9_other_20 : decode cX9_other 20 = .ok (.ireturn, 1) := by decide +kernel
theorem dX9_lesserNumber_0 : decode cX9_lesserNumber 0 = .ok (.aload_n 0, 1) := by decide +kernel
theorem dX9_lesserNumber_1 : decode cX9_lesserNumber 1 = .ok (.iload_n 1, 1) := by decide +kernel
theorem dX9_lesserNumber_2 : decode cX9_lesserNumber 2 = .ok (.invokevirtual 57, 3) := by decide +kernel
theorem dX9_lesserNumber_5 : decode cX9_lesserNumber 5 = .ok (.ifCond .ne 11, 3) := by decide +kernel
theorem dX9_lesserNumber_8 : decode cX9_lesserNumber 8 = .ok (.aload_n 0, 1) := by decide +kernel
theorem dX9_lesserNumber_9 : decode cX9_lesserNumber 9 = .ok (.iload_n 1, 1) := by decide +kernel
theorem dX9_lesserNumber_10 : decode cX9_lesserNumber 10 = .ok (.invokevirtual 53, 3) := by decide +kernel
theorem dX9_lesserNumber_13 : decode cX9_lesserNumber 13 = .ok (.goto 16, 3) := by decide +kernel
theorem dX9_lesserNumber_16 : decode cX9_lesserNumber 16 = .ok (.aload_n 0, 1) := by decide +kernel
theorem dX9_lesserNumber_17 : decode cX9_lesserNumber 17 = .ok (.iload_n 1, 1) := by decide +kernel
theorem dX9_lesserNumber_18 : decode cX9_lesserNumber 18 = .ok (.invokevirtual 53, 3) := by decide +kernel
theorem dX9_lesserNumber_21 : decode cX9_lesserNumber 21 = .ok (.aload_n 0, 1) := by decide +kernel
theorem dX9_lesserNumber_22 : decode cX9_lesserNumber 22 = .ok (.iload_n 1, 1) := by decide +kernel
theorem dX9_lesserNumber_23 : decode cX9_lesserNumber 23 = .ok (.invokevirtual 57, 3) := by decide +kernel
theorem dX9_lesserNumber_26 : decode cX9_lesserNumber 26 = .ok (.invokestatic 75, 3) := by decide +kernel
theorem dX9_lesserNumber_29 : decode cX9_lesserNumber 29 = .ok (.ireturn, 1) := by decide +kernel
theorem dX9_greaterNumber_0 : decode cX9_greaterNumber 0 = .ok (.aload_n 0, 1) := by decide +kernel
theorem dX9_greaterNumber_1 : decode cX9_greaterNumber 1 = .ok (.iload_n 1, 1) := by decide +kernel
theorem dX9_greaterNumber_2 : decode cX9_greaterNumber 2 = .ok (.invokevirtual 53, 3) := by decide +kernel
theorem dX9_greaterNumber_5 : decode cX9_greaterNumber 5 = .ok (.aload_n 0, 1) := by decide +kernel
theorem dX9_greaterNumber_6 : decode cX9_greaterNumber 6 = .ok (.iload_n 1, 1) := by decide +kernel
theorem dX9_greaterNumber_7 : decode cX9_greaterNumber 7 = .ok (.invokevirtual 57, 3) := by decide +kernel
theorem dX9_greaterNumber_10 : decode cX9_greaterNumber 10 = .ok (.invokestatic 81, 3) := by decide +kernel
theorem dX9_greaterNumber_13 : decode cX9_greaterNumber 13 = .ok (.ireturn, 1) := by decide +kernel
theorem dX9_numberOf_0 : decode cX9_numberOf 0 = .ok (.iload_n 1, 1) := by decide +kernel
theorem dX9_numberOf_1 : decode cX9_numberOf 1 = .ok (.bipush 20, 2) := by decide +kernel
theorem dX9_numberOf_3 : decode cX9_numberOf 3 = .ok (.if_icmp .ge 11, 3) := by decide +kernel
theorem dX9_numberOf_6 : decode cX9_numberOf 6 = .ok (.aload_n 0, 1) := by decide +kernel
theorem dX9_numberOf_7 : decode cX9_numberOf 7 = .ok (.iload_n 1, 1) := by decide +kernel
theorem dX9_numberOf_8 : decode cX9_numberOf 8 = .ok (.invokevirtual 53, 3) := by decide +kernel
theorem dX9_numberOf_11 : decode cX9_numberOf 11 = .ok (.goto 11, 3) := by decide +kernel
theorem dX9_numberOf_14 : decode cX9_numberOf 14 = .ok (.aload_n 0, 1) := by decide +kernel
theorem dX9_numberOf_15 : decode cX9_numberOf 15 = .ok (.iload_n 1, 1) := by decide +kernel
theorem dX9_numberOf_16 : decode cX9_numberOf 16 = .ok (.bipush 20, 2) := by decide +kernel
theorem dX9_numberOf_18 : decode cX9_numberOf 18 = .ok (.isub, 1) := by decide +kernel
theorem dX9_numberOf_19 : decode cX9_numberOf 19 = .ok (.invokevirtual 57, 3) := by decide +kernel
theorem dX9_numberOf_22 : decode cX9_numberOf 22 = .ok (.ireturn, 1) := by decide +kernel
theorem dX9_tells_0 : decode cX9_tells 0 = .ok (.iconst 0, 1) := by decide +kernel
theorem dX9_tells_1 : decode cX9_tells 1 = .ok (.istore_n 2, 1) := by decide +kernel
theorem dX9_tells_2 : decode cX9_tells 2 = .ok (.iload_n 2, 1) := by decide +kernel
theorem dX9_tells_3 : decode cX9_tells 3 = .ok (.aload_n 0, 1) := by decide +kernel
theorem dX9_tells_4 : decode cX9_tells 4 = .ok (.getfield 36, 3) := by decide +kernel
theorem dX9_tells_7 : decode cX9_tells 7 = .ok (.if_icmp .ge 29, 3) := by decide +kernel
theorem dX9_tells_10 : decode cX9_tells 10 = .ok (.aload_n 0, 1) := by decide +kernel
theorem dX9_tells_11 : decode cX9_tells 11 = .ok (.iload_n 2, 1) := by decide +kernel
theorem dX9_tells_12 : decode cX9_tells 12 = .ok (.invokevirtual 53, 3) := by decide +kernel
theorem dX9_tells_15 : decode cX9_tells 15 = .ok (.iload_n 1, 1) := by decide +kernel
theorem dX9_tells_16 : decode cX9_tells 16 = .ok (.if_icmp .eq 12, 3) := by decide +kernel
theorem dX9_tells_19 : decode cX9_tells 19 = .ok (.aload_n 0, 1) := by decide +kernel
theorem dX9_tells_20 : decode cX9_tells 20 = .ok (.iload_n 2, 1) := by decide +kernel
theorem dX9_tells_21 : decode cX9_tells 21 = .ok (.invokevirtual 57, 3) := by decide +kernel
theorem dX9_tells_24 : decode cX9_tells 24 = .ok (.iload_n 1, 1) := by decide +kernel
theorem dX9_tells_25 : decode cX9_tells 25 = .ok (.if_icmp .ne 5, 3) := by decide +kernel
theorem dX9_tells_28 : decode cX9_tells 28 = .ok (.iconst 1, 1) := by decide +kernel
theorem dX9_tells_29 : decode cX9_tells 29 = .ok (.ireturn, 1) := by decide +kernel
theorem dX9_tells_30 : decode cX9_tells 30 = .ok (.iinc 2 1, 3) := by decide +kernel
theorem dX9_tells_33 : decode cX9_tells 33 = .ok (.goto (-31), 3) := by decide +kernel
theorem dX9_tells_36 : decode cX9_tells 36 = .ok (.iconst 0, 1) := by decide +kernel
theorem dX9_tells_37 : decode cX9_tells 37 = .ok (.ireturn, 1) := by decide +kernel
theorem dX9_hasRule_0 : decode cX9_hasRule 0 = .ok (.iconst 0, 1) := by decide +kernel
theorem dX9_hasRule_1 : decode cX9_hasRule 1 = .ok (.istore_n 2, 1) := by decide +kernel
theorem dX9_hasRule_2 : decode cX9_hasRule 2 = .ok (.iload_n 2, 1) := by decide +kernel
theorem dX9_hasRule_3 : decode cX9_hasRule 3 = .ok (.aload_n 0, 1) := by decide +kernel
theorem dX9_hasRule_4 : decode cX9_hasRule 4 = .ok (.getfield 40, 3) := by decide +kernel
theorem dX9_hasRule_7 : decode cX9_hasRule 7 = .ok (.if_icmp .ge 23, 3) := by decide +kernel
theorem dX9_hasRule_10 : decode cX9_hasRule 10 = .ok (.aload_n 0, 1) := by decide +kernel
theorem dX9_hasRule_11 : decode cX9_hasRule 11 = .ok (.getfield 21, 3) := by decide +kernel
theorem dX9_hasRule_14 : decode cX9_hasRule 14 = .ok (.iload_n 2, 1) := by decide +kernel
theorem dX9_hasRule_15 : decode cX9_hasRule 15 = .ok (.invokestatic 60, 3) := by decide +kernel
theorem dX9_hasRule_18 : decode cX9_hasRule 18 = .ok (.iload_n 1, 1) := by decide +kernel
theorem dX9_hasRule_19 : decode cX9_hasRule 19 = .ok (.if_icmp .ne 5, 3) := by decide +kernel
theorem dX9_hasRule_22 : decode cX9_hasRule 22 = .ok (.iconst 1, 1) := by decide +kernel
theorem dX9_hasRule_23 : decode cX9_hasRule 23 = .ok (.ireturn, 1) := by decide +kernel
theorem dX9_hasRule_24 : decode cX9_hasRule 24 = .ok (.iinc 2 1, 3) := by decide +kernel
theorem dX9_hasRule_27 : decode cX9_hasRule 27 = .ok (.goto (-25), 3) := by decide +kernel
theorem dX9_hasRule_30 : decode cX9_hasRule 30 = .ok (.iconst 0, 1) := by decide +kernel
theorem dX9_hasRule_31 : decode cX9_hasRule 31 = .ok (.ireturn, 1) := by decide +kernel
theorem dX10_init_0 : decode cX10_init 0 = .ok (.aload_n 0, 1) := by decide +kernel
theorem dX10_init_1 : decode cX10_init 1 = .ok (.invokespecial 3, 3) := by decide +kernel
theorem dX10_init_4 : decode cX10_init 4 = .ok (.aload_n 0, 1) := by decide +kernel
theorem dX10_init_5 : decode cX10_init 5 = .ok (.bipush 8, 2) := by decide +kernel
theorem dX10_init_7 : decode cX10_init 7 = .ok (.anewarray 9, 3) := by decide +kernel
theorem dX10_init_10 : decode cX10_init 10 = .ok (.putfield 11, 3) := by decide +kernel
theorem dX10_init_13 : decode cX10_init 13 = .ok (.aload_n 0, 1) := by decide +kernel
theorem dX10_init_14 : decode cX10_init 14 = .ok (.new 15, 3) := by decide +kernel
theorem dX10_init_17 : decode cX10_init 17 = .ok (.dup, 1) := by decide +kernel
theorem dX10_init_18 : decode cX10_init 18 = .ok (.invokespecial 17, 3) := by decide +kernel
theorem dX10_init_21 : decode cX10_init 21 = .ok (.putfield 18, 3) := by decide +kernel
theorem dX10_init_24 : decode cX10_init 24 = .ok (.aload_n 0, 1) := by decide +kernel
theorem dX10_init_25 : decode cX10_init 25 = .ok (.new 22, 3) := by decide +kernel
theorem dX10_init_28 : decode cX10_init 28 = .ok (.dup, 1) := by decide +kernel
theorem dX10_init_29 : decode cX10_init 29 = .ok (.invokespecial 24, 3) := by decide +kernel
theorem dX10_init_32 : decode cX10_init 32 = .ok (.putfield 25, 3) := by decide +kernel
theorem dX10_init_35 : decode cX10_init 35 = .ok (.aload_n 0, 1) := by decide +kernel
theorem dX10_init_36 : decode cX10_init 36 = .ok (.new 29, 3) := by decide +kernel
theorem dX10_init_39 : decode cX10_init 39 = .ok (.dup, 1) := by decide +kernel
theorem dX10_init_40 : decode cX10_init 40 = .ok (.aload_n 0, 1) := by decide +kernel
theorem dX10_init_41 : decode cX10_init 41 = .ok (.getfield 18, 3) := by decide +kernel
theorem dX10_init_44 : decode cX10_init 44 = .ok (.aload_n 0, 1) := by decide +kernel
theorem dX10_init_45 : decode cX10_init 45 = .ok (.getfield 25, 3) := by decide +kernel
theorem dX10_init_48 : decode cX10_init 48 = .ok (.invokespecial 31, 3) := by decide +kernel
theorem dX10_init_51 : decode cX10_init 51 = .ok (.putfield 34, 3) := by decide +kernel
theorem dX10_init_54 : decode cX10_init 54 = .ok (.aload_n 0, 1) := by decide +kernel
theorem dX10_init_55 : decode cX10_init 55 = .ok (.new 38, 3) := by decide +kernel
theorem dX10_init_58 : decode cX10_init 58 = .ok (.dup, 1) := by decide +kernel
theorem dX10_init_59 : decode cX10_init 59 = .ok (.invokespecial 40, 3) := by decide +kernel
theorem dX10_init_62 : decode cX10_init 62 = .ok (.putfield 41, 3) := by decide +kernel
theorem dX10_init_65 : decode cX10_init 65 = .ok (.aload_n 0, 1) := by decide +kernel
theorem dX10_init_66 : decode cX10_init 66 = .ok (.iconst 2, 1) := by decide +kernel
theorem dX10_init_67 : decode cX10_init 67 = .ok (.anewarray 38, 3) := by decide +kernel
theorem dX10_init_70 : decode cX10_init 70 = .ok (.putfield 45, 3) := by decide +kernel
theorem dX10_init_73 : decode cX10_init 73 = .ok (.aload_n 0, 1) := by decide +kernel
theorem dX10_init_74 : decode cX10_init 74 = .ok (.new 49, 3) := by decide +kernel
theorem dX10_init_77 : decode cX10_init 77 = .ok (.dup, 1) := by decide +kernel
theorem dX10_init_78 : decode cX10_init 78 = .ok (.invokespecial 51, 3) := by decide +kernel
theorem dX10_init_81 : decode cX10_init 81 = .ok (.putfield 52, 3) := by decide +kernel
theorem dX10_init_84 : decode cX10_init 84 = .ok (.aload_n 0, 1) := by decide +kernel
theorem dX10_init_85 : decode cX10_init 85 = .ok (.new 56, 3) := by decide +kernel
theorem dX10_init_88 : decode cX10_init 88 = .ok (.dup, 1) := by decide +kernel
theorem dX10_init_89 : decode cX10_init 89 = .ok (.invokespecial 58, 3) := by decide +kernel
theorem dX10_init_92 : decode cX10_init 92 = .ok (.putfield 59, 3) := by decide +kernel
theorem dX10_init_95 : decode cX10_init 95 = .ok (.aload_n 0, 1) := by decide +kernel
theorem dX10_init_96 : decode cX10_init 96 = .ok (.new 63, 3) := by decide +kernel
theorem dX10_init_99 : decode cX10_init 99 = .ok (.dup, 1) := by decide +kernel
theorem dX10_init_100 : decode cX10_init 100 = .ok (.invokespecial 65, 3) := by decide +kernel
theorem dX10_init_103 : decode cX10_init 103 = .ok (.putfield 66, 3) := by decide +kernel
theorem dX10_init_106 : decode cX10_init 106 = .ok (.aload_n 0, 1) := by decide +kernel
theorem dX10_init_107 : decode cX10_init 107 = .ok (.new 70, 3) := by decide +kernel
theorem dX10_init_110 : decode cX10_init 110 = .ok (.dup, 1) := by decide +kernel
theorem dX10_init_111 : decode cX10_init 111 = .ok (.invokespecial 72, 3) := by decide +kernel
theorem dX10_init_114 : decode cX10_init 114 = .ok (.putfield 73, 3) := by decide +kernel
theorem dX10_init_117 : decode cX10_init 117 = .ok (.aload_n 0, 1) := by decide +kernel
theorem dX10_init_118 : decode cX10_init 118 = .ok (.new 77, 3) := by decide +kernel
theorem dX10_init_121 : decode cX10_init 121 = .ok (.dup, 1) := by decide +kernel
theorem dX10_init_122 : decode cX10_init 122 = .ok (.invokespecial 79, 3) := by decide +kernel
theorem dX10_init_125 : decode cX10_init 125 = .ok (.putfield 80, 3) := by decide +kernel
theorem dX10_init_128 : decode cX10_init 128 = .ok (.iconst 0, 1) := by decide +kernel
theorem dX10_init_129 : decode cX10_init 129 = .ok (.istore_n 1, 1) := by decide +kernel
theorem dX10_init_130 : decode cX10_init 130 = .ok (.iload_n 1, 1) := by decide +kernel
theorem dX10_init_131 : decode cX10_init 131 = .ok (.aload_n 0, 1) := by decide +kernel
theorem dX10_init_132 : decode cX10_init 132 = .ok (.getfield 11, 3) := by decide +kernel
theorem dX10_init_135 : decode cX10_init 135 = .ok (.arraylength, 1) := by decide +kernel
theorem dX10_init_136 : decode cX10_init 136 = .ok (.if_icmp .ge 22, 3) := by decide +kernel
theorem dX10_init_139 : decode cX10_init 139 = .ok (.aload_n 0, 1) := by decide +kernel
theorem dX10_init_140 : decode cX10_init 140 = .ok (.getfield 11, 3) := by decide +kernel
theorem dX10_init_143 : decode cX10_init 143 = .ok (.iload_n 1, 1) := by decide +kernel
theorem dX10_init_144 : decode cX10_init 144 = .ok (.new 9, 3) := by decide +kernel
theorem dX10_init_147 : decode cX10_init 147 = .ok (.dup, 1) := by decide +kernel
theorem dX10_init_148 : decode cX10_init 148 = .ok (.invokespecial 84, 3) := by decide +kernel
theorem dX10_init_151 : decode cX10_init 151 = .ok (.aastore, 1) := by decide +kernel
theorem dX10_init_152 : decode cX10_init 152 = .ok (.iinc 1 1, 3) := by decide +kernel
theorem dX10_init_155 : decode cX10_init 155 = .ok (.goto (-25), 3) := by decide +kernel
theorem dX10_init_158 : decode cX10_init 158 = .ok (.iconst 0, 1) := by decide +kernel
theorem dX10_init_159 : decode cX10_init 159 = .ok (.istore_n 1, 1) := by decide +kernel
theorem dX10_init_160 : decode cX10_init 160 = .ok (.iload_n 1, 1) := by decide +kernel
theorem dX10_init_161 : decode cX10_init 161 = .ok (.aload_n 0, 1) := by decide +kernel
theorem dX10_init_162 : decode cX10_init 162 = .ok (.getfield 45, 3) := by decide +kernel
theorem dX10_init_165 : decode cX10_init 165 = .ok (.arraylength, 1) := by decide +kernel
theorem dX10_init_166 : decode cX10_init 166 = .ok (.if_icmp .ge 22, 3) := by decide +kernel
theorem dX10_init_169 : decode cX10_init 169 = .ok (.aload_n 0, 1) := by decide +kernel
theorem dX10_init_170 : decode cX10_init 170 = .ok (.getfield 45, 3) := by decide +kernel
theorem dX10_init_173 : decode cX10_init 173 = .ok (.iload_n 1, 1) := by decide +kernel
theorem dX10_init_174 : decode cX10_init 174 = .ok (.new 38, 3) := by decide +kernel
