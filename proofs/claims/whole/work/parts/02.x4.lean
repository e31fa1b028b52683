theorem dX11_secret_158 : decode cX11_secret 158 = .ok (.iload 6, 2) := by decide +kernel
theorem dX11_secret_160 : decode cX11_secret 160 = .ok (.ifCond .eq 8, 3) := by decide +kernel
theorem dX11_secret_163 : decode cX11_secret 163 = .ok (.iload 5, 2) := by decide +kernel
theorem dX11_secret_165 : decode cX11_secret 165 = .ok (.goto 5, 3) := by decide +kernel
theorem dX11_secret_168 : decode cX11_secret 168 = .ok (.iload 4, 2) := by decide +kernel
theorem dX11_secret_170 : decode cX11_secret 170 = .ok (.istore 4, 2) := by decide +kernel
theorem dX11_secret_172 : decode cX11_secret 172 = .ok (.iinc 5 1, 3) := by decide +kernel
theorem dX11_secret_175 : decode cX11_secret 175 = .ok (.goto (-76), 3) := by decide +kernel
theorem dX11_secret_178 : decode cX11_secret 178 = .ok (.iload 4, 2) := by decide +kernel
theorem dX11_secret_180 : decode cX11_secret 180 = .ok (.i2l, 1) := by decide +kernel
theorem dX11_secret_181 : decode cX11_secret 181 = .ok (.lreturn, 1) := by decide +kernel
theorem dX11_signed_0 : decode cX11_signed 0 = .ok (.aload_n 0, 1) := by decide +kernel
theorem dX11_signed_1 : decode cX11_signed 1 = .ok (.iconst 0, 1) := by decide +kernel
theorem dX11_signed_2 : decode cX11_signed 2 = .ok (.putfield 57, 3) := by decide +kernel
theorem dX11_signed_5 : decode cX11_signed 5 = .ok (.iload_n 1, 1) := by decide +kernel
theorem dX11_signed_6 : decode cX11_signed 6 = .ok (.invokestatic 197, 3) := by decide +kernel
theorem dX11_signed_9 : decode cX11_signed 9 = .ok (.ifCond .eq 17, 3) := by decide +kernel
theorem dX11_signed_12 : decode cX11_signed 12 = .ok (.iload_n 2, 1) := by decide +kernel
theorem dX11_signed_13 : decode cX11_signed 13 = .ok (.i2l, 1) := by decide +kernel
theorem dX11_signed_14 : decode cX11_signed 14 = .ok (.ldc2_w 262, 3) := by decide +kernel
theorem dX11_signed_17 : decode cX11_signed 17 = .ok (.ldc2_w 280, 3) := by decide +kernel
theorem dX11_signed_20 : decode cX11_signed 20 = .ok (.invokestatic 68, 3) := by decide +kernel
theorem dX11_signed_23 : decode cX11_signed 23 = .ok (.ifCond .ne 7, 3) := by decide +kernel
theorem dX11_signed_26 : decode cX11_signed 26 = .ok (.ldc2_w 78, 3) := by decide +kernel
theorem dX11_signed_29 : decode cX11_signed 29 = .ok (.lreturn, 1) := by decide +kernel
theorem dX11_signed_30 : decode cX11_signed 30 = .ok (.aload_n 0, 1) := by decide +kernel
theorem dX11_signed_31 : decode cX11_signed 31 = .ok (.getfield 25, 3) := by decide +kernel
theorem dX11_signed_34 : decode cX11_signed 34 = .ok (.iload_n 1, 1) := by decide +kernel
theorem dX11_signed_35 : decode cX11_signed 35 = .ok (.laload, 1) := by decide +kernel
theorem dX11_signed_36 : decode cX11_signed 36 = .ok (.lconst 0, 1) := by decide +kernel
theorem dX11_signed_37 : decode cX11_signed 37 = .ok (.lcmp, 1) := by decide +kernel
theorem dX11_signed_38 : decode cX11_signed 38 = .ok (.ifCond .ne 7, 3) := by decide +kernel
theorem dX11_signed_41 : decode cX11_signed 41 = .ok (.ldc2_w 239, 3) := by decide +kernel
theorem dX11_signed_44 : decode cX11_signed 44 = .ok (.lreturn, 1) := by decide +kernel
theorem dX11_signed_45 : decode cX11_signed 45 = .ok (.aload_n 0, 1) := by decide +kernel
theorem dX11_signed_46 : decode cX11_signed 46 = .ok (.aload_n 0, 1) := by decide +kernel
theorem dX11_signed_47 : decode cX11_signed 47 = .ok (.getfield 25, 3) := by decide +kernel
theorem dX11_signed_50 : decode cX11_signed 50 = .ok (.iload_n 1, 1) := by decide +kernel
theorem dX11_signed_51 : decode cX11_signed 51 = .ok (.laload, 1) := by decide +kernel
theorem dX11_signed_52 : decode cX11_signed 52 = .ok (.invokevirtual 229, 3) := by decide +kernel
theorem dX11_signed_55 : decode cX11_signed 55 = .ok (.iconst 0, 1) := by decide +kernel
theorem dX11_signed_56 : decode cX11_signed 56 = .ok (.istore_n 3, 1) := by decide +kernel
theorem dX11_signed_57 : decode cX11_signed 57 = .ok (.iconst 0, 1) := by decide +kernel
theorem dX11_signed_58 : decode cX11_signed 58 = .ok (.istore 4, 2) := by decide +kernel
theorem dX11_signed_60 : decode cX11_signed 60 = .ok (.iload 4, 2) := by decide +kernel
theorem dX11_signed_62 : decode cX11_signed 62 = .ok (.bipush 12, 2) := by decide +kernel
theorem dX11_signed_64 : decode cX11_signed 64 = .ok (.if_icmp .ge 30, 3) := by decide +kernel
theorem dX11_signed_67 : decode cX11_signed 67 = .ok (.iload_n 3, 1) := by decide +kernel
theorem dX11_signed_68 : decode cX11_signed 68 = .ok (.aload_n 0, 1) := by decide +kernel
theorem dX11_signed_69 : decode cX11_signed 69 = .ok (.getfield 32, 3) := by decide +kernel
theorem dX11_signed_72 : decode cX11_signed 72 = .ok (.iload 4, 2) := by decide +kernel
theorem dX11_signed_74 : decode cX11_signed 74 = .ok (.iaload, 1) := by decide +kernel
theorem dX11_signed_75 : decode cX11_signed 75 = .ok (.ifCond .le 10, 3) := by decide +kernel
theorem dX11_signed_78 : decode cX11_signed 78 = .ok (.iconst 1, 1) := by decide +kernel
theorem dX11_signed_79 : decode cX11_signed 79 = .ok (.iload 4, 2) := by decide +kernel
theorem dX11_signed_81 : decode cX11_signed 81 = .ok (.ishl, 1) := by decide +kernel
theorem dX11_signed_82 : decode cX11_signed 82 = .ok (.goto 4, 3) := by decide +kernel
theorem dX11_signed_85 : decode cX11_signed 85 = .ok (.iconst 0, 1) := by decide +kernel
theorem dX11_signed_86 : decode cX11_signed 86 = .ok (.ior, 1) := by decide +kernel
theorem dX11_signed_87 : decode cX11_signed 87 = .ok (.istore_n 3, 1) := by decide +kernel
theorem dX11_signed_88 : decode cX11_signed 88 = .ok (.iinc 4 1, 3) := by decide +kernel
theorem dX11_signed_91 : decode cX11_signed 91 = .ok (.goto (-31), 3) := by decide +kernel
theorem dX11_signed_94 : decode cX11_signed 94 = .ok (.iload_n 2, 1) := by decide +kernel
theorem dX11_signed_95 : decode cX11_signed 95 = .ok (.ifCond .ge 8, 3) := by decide +kernel
theorem dX11_signed_98 : decode cX11_signed 98 = .ok (.iload_n 3, 1) := by decide +kernel
theorem dX11_signed_99 : decode cX11_signed 99 = .ok (.i2l, 1) := by decide +kernel
theorem dX11_signed_100 : decode cX11_signed 100 = .ok (.goto 9, 3) := by decide +kernel
theorem dX11_signed_103 : decode cX11_signed 103 = .ok (.iload_n 2, 1) := by decide +kernel
theorem dX11_signed_104 : decode cX11_signed 104 = .ok (.iload_n 3, 1) := by decide +kernel
theorem dX11_signed_105 : decode cX11_signed 105 = .ok (.iconst (-1), 1) := by decide +kernel
theorem dX11_signed_106 : decode cX11_signed 106 = .ok (.ixor, 1) := by decide +kernel
theorem dX11_signed_107 : decode cX11_signed 107 = .ok (.iand, 1) := by decide +kernel
theorem dX11_signed_108 : decode cX11_signed 108 = .ok (.i2l, 1) := by decide +kernel
theorem dX11_signed_109 : decode cX11_signed 109 = .ok (.lreturn, 1) := by decide +kernel
theorem dX11_plus_0 : decode cX11_plus 0 = .ok (.aload_n 0, 1) := by decide +kernel
theorem dX11_plus_1 : decode cX11_plus 1 = .ok (.iconst 0, 1) := by decide +kernel
theorem dX11_plus_2 : decode cX11_plus 2 = .ok (.putfield 57, 3) := by decide +kernel
theorem dX11_plus_5 : decode cX11_plus 5 = .ok (.aload_n 0, 1) := by decide +kernel
theorem dX11_plus_6 : decode cX11_plus 6 = .ok (.getfield 191, 3) := by decide +kernel
theorem dX11_plus_9 : decode cX11_plus 9 = .ok (.ifCond .ne 7, 3) := by decide +kernel
theorem dX11_plus_12 : decode cX11_plus 12 = .ok (.ldc2_w 239, 3) := by decide +kernel
theorem dX11_plus_15 : decode cX11_plus 15 = .ok (.lreturn, 1) := by decide +kernel
theorem dX11_plus_16 : decode cX11_plus 16 = .ok (.iload_n 1, 1) := by decide +kernel
theorem dX11_plus_17 : decode cX11_plus 17 = .ok (.i2l, 1) := by decide +kernel
theorem dX11_plus_18 : decode cX11_plus 18 = .ok (.ldc2_w 76, 3) := by decide +kernel
theorem dX11_plus_21 : decode cX11_plus 21 = .ok (.ldc2_w 282, 3) := by decide +kernel
theorem dX11_plus_24 : decode cX11_plus 24 = .ok (.invokestatic 68, 3) := by decide +kernel
theorem dX11_plus_27 : decode cX11_plus 27 = .ok (.ifCond .eq 8, 3) := by decide +kernel
theorem dX11_plus_30 : decode cX11_plus 30 = .ok (.iload_n 2, 1) := by decide +kernel
theorem dX11_plus_31 : decode cX11_plus 31 = .ok (.iconst (-1), 1) := by decide +kernel
theorem dX11_plus_32 : decode cX11_plus 32 = .ok (.if_icmp .ge 7, 3) := by decide +kernel
theorem dX11_plus_35 : decode cX11_plus 35 = .ok (.ldc2_w 78, 3) := by decide +kernel
theorem dX11_plus_38 : decode cX11_plus 38 = .ok (.lreturn, 1) := by decide +kernel
theorem dX11_plus_39 : decode cX11_plus 39 = .ok (.iconst 0, 1) := by decide +kernel
theorem dX11_plus_40 : decode cX11_plus 40 = .ok (.istore_n 3, 1) := by decide +kernel
theorem dX11_plus_41 : decode cX11_plus 41 = .ok (.iconst 1, 1) := by decide +kernel
theorem dX11_plus_42 : decode cX11_plus 42 = .ok (.istore 4, 2) := by decide +kernel
theorem dX11_plus_44 : decode cX11_plus 44 = .ok (.iload 4, 2) := by decide +kernel
theorem dX11_plus_46 : decode cX11_plus 46 = .ok (.iload_n 1, 1) := by decide +kernel
theorem dX11_plus_47 : decode cX11_plus 47 = .ok (.iload 4, 2) := by decide +kernel
theorem dX11_plus_49 : decode cX11_plus 49 = .ok (.isub, 1) := by decide +kernel
theorem dX11_plus_50 : decode cX11_plus 50 = .ok (.if_icmp .gt 43, 3) := by decide +kernel
theorem dX11_plus_53 : decode cX11_plus 53 = .ok (.aload_n 0, 1) := by decide +kernel
theorem dX11_plus_54 : decode cX11_plus 54 = .ok (.iload 4, 2) := by decide +kernel
theorem dX11_plus_56 : decode cX11_plus 56 = .ok (.i2l, 1) := by decide +kernel
theorem dX11_plus_57 : decode cX11_plus 57 = .ok (.invokevirtual 246, 3) := by decide +kernel
theorem dX11_plus_60 : decode cX11_plus 60 = .ok (.ifCond .eq 27, 3) := by decide +kernel
theorem dX11_plus_63 : decode cX11_plus 63 = .ok (.aload_n 0, 1) := by decide +kernel
theorem dX11_plus_64 : decode cX11_plus 64 = .ok (.iload_n 1, 1) := by decide +kernel
theorem dX11_plus_65 : decode cX11_plus 65 = .ok (.iload 4, 2) := by decide +kernel
theorem dX11_plus_67 : decode cX11_plus 67 = .ok (.isub, 1) := by decide +kernel
theorem dX11_plus_68 : decode cX11_plus 68 = .ok (.i2l, 1) := by decide +kernel
theorem dX11_plus_69 : decode cX11_plus 69 = .ok (.invokevirtual 246, 3) := by decide +kernel
theorem dX11_plus_72 : decode cX11_plus 72 = .ok (.ifCond .eq 15, 3) := by decide +kernel
theorem dX11_plus_75 : decode cX11_plus 75 = .ok (.iload_n 3, 1) := by decide +kernel
theorem dX11_plus_76 : decode cX11_plus 76 = .ok (.iload_n 2, 1) := by decide +kernel
theorem dX11_plus_77 : decode cX11_plus 77 = .ok (.if_icmp .ne 7, 3) := by decide +kernel
theorem dX11_plus_80 : decode cX11_plus 80 = .ok (.iload 4, 2) := by decide +kernel
theorem dX11_plus_82 : decode cX11_plus 82 = .ok (.i2l, 1) := by decide +kernel
theorem dX11_plus_83 : decode cX11_plus 83 = .ok (.lreturn, 1) := by decide +kernel
theorem dX11_plus_84 : decode cX11_plus 84 = .ok (.iinc 3 1, 3) := by decide +kernel
theorem dX11_plus_87 : decode cX11_plus 87 = .ok (.iinc 4 1, 3) := by decide +kernel
theorem dX11_plus_90 : decode cX11_plus 90 = .ok (.goto (-46), 3) := by decide +kernel
theorem dX11_plus_93 : decode cX11_plus 93 = .ok (.iload_n 2, 1) := by decide +kernel
theorem dX11_plus_94 : decode cX11_plus 94 = .ok (.ifCond .ge 8, 3) := by decide +kernel
theorem dX11_plus_97 : decode cX11_plus 97 = .ok (.iload_n 3, 1) := by decide +kernel
theorem dX11_plus_98 : decode cX11_plus 98 = .ok (.i2l, 1) := by decide +kernel
theorem dX11_plus_99 : decode cX11_plus 99 = .ok (.goto 6, 3) := by decide +kernel
theorem dX11_plus_102 : decode cX11_plus 102 = .ok (.ldc2_w 217, 3) := by decide +kernel
theorem dX11_plus_105 : decode cX11_plus 105 = .ok (.lreturn, 1) := by decide +kernel
theorem dX11_madeNow_0 : decode cX11_madeNow 0 = .ok (.lconst 1, 1) := by decide +kernel
theorem dX11_madeNow_1 : decode cX11_madeNow 1 = .ok (.lstore_n 1, 1) := by decide +kernel
theorem dX11_madeNow_2 : decode cX11_madeNow 2 = .ok (.iconst 0, 1) := by decide +kernel
theorem dX11_madeNow_3 : decode cX11_madeNow 3 = .ok (.istore_n 3, 1) := by decide +kernel
theorem dX11_madeNow_4 : decode cX11_madeNow 4 = .ok (.iload_n 3, 1) := by decide +kernel
theorem dX11_madeNow_5 : decode cX11_madeNow 5 = .ok (.aload_n 0, 1) := by decide +kernel
theorem dX11_madeNow_6 : decode cX11_madeNow 6 = .ok (.getfield 19, 3) := by decide +kernel
theorem dX11_madeNow_9 : decode cX11_madeNow 9 = .ok (.iconst 0, 1) := by decide +kernel
theorem dX11_madeNow_10 : decode cX11_madeNow 10 = .ok (.iaload, 1) := by decide +kernel
theorem dX11_madeNow_11 : decode cX11_madeNow 11 = .ok (.if_icmp .ge 62, 3) := by decide +kernel
theorem dX11_madeNow_14 : decode cX11_madeNow 14 = .ok (.iconst 0, 1) := by decide +kernel
theorem dX11_madeNow_15 : decode cX11_madeNow 15 = .ok (.istore 4, 2) := by decide +kernel
theorem dX11_madeNow_17 : decode cX11_madeNow 17 = .ok (.iload 4, 2) := by decide +kernel
theorem dX11_madeNow_19 : decode cX11_madeNow 19 = .ok (.aload_n 0, 1) := by decide +kernel
theorem dX11_madeNow_20 : decode cX11_madeNow 20 = .ok (.getfield 32, 3) := by decide +kernel
theorem dX11_madeNow_23 : decode cX11_madeNow 23 = .ok (.iload_n 3, 1) := by decide +kernel
theorem dX11_madeNow_24 : decode cX11_madeNow 24 = .ok (.iaload, 1) := by decide +kernel
theorem dX11_madeNow_25 : decode cX11_madeNow 25 = .ok (.if_icmp .ge 42, 3) := by decide +kernel
theorem dX11_madeNow_28 : decode cX11_madeNow 28 = .ok (.lload_n 1, 1) := by decide +kernel
theorem dX11_madeNow_29 : decode cX11_madeNow 29 = .ok (.aload_n 0, 1) := by decide +kernel
theorem dX11_madeNow_30 : decode cX11_madeNow 30 = .ok (.getfield 19, 3) := by decide +kernel
theorem dX11_madeNow_33 : decode cX11_madeNow 33 = .ok (.iconst 3, 1) := by decide +kernel
theorem dX11_madeNow_34 : decode cX11_madeNow 34 = .ok (.iconst 3, 1) := by decide +kernel
theorem dX11_madeNow_35 : decode cX11_madeNow 35 = .ok (.iload_n 3, 1) := by decide +kernel
theorem dX11_madeNow_36 : decode cX11_madeNow 36 = .ok (.imul, 1) := by decide +kernel
theorem dX11_madeNow_37 : decode cX11_madeNow 37 = .ok (.iadd, 1) := by decide +kernel
theorem dX11_madeNow_38 : decode cX11_madeNow 38 = .ok (.iload 4, 2) := by decide +kernel
theorem dX11_madeNow_40 : decode cX11_madeNow 40 = .ok (.aload_n 0, 1) := by decide +kernel
theorem dX11_madeNow_41 : decode cX11_madeNow 41 = .ok (.getfield 41, 3) := by decide +kernel
theorem dX11_madeNow_44 : decode cX11_madeNow 44 = .ok (.iload_n 3, 1) := by decide +kernel
theorem dX11_madeNow_45 : decode cX11_madeNow 45 = .ok (.iaload, 1) := by decide +kernel
theorem dX11_madeNow_46 : decode cX11_madeNow 46 = .ok (.if_icmp .ge 7, 3) := by decide +kernel
theorem dX11_madeNow_49 : decode cX11_madeNow 49 = .ok (.iconst 1, 1) := by decide +kernel
theorem dX11_madeNow_50 : decode cX11_madeNow 50 = .ok (.goto 4, 3) := by decide +kernel
theorem dX11_madeNow_53 : decode cX11_madeNow 53 = .ok (.iconst 0, 1) := by decide +kernel
theorem dX11_madeNow_54 : decode cX11_madeNow 54 = .ok (.iadd, 1) := by decide +kernel
theorem dX11_madeNow_55 : decode cX11_madeNow 55 = .ok (.iaload, 1) := by decide +kernel
theorem dX11_madeNow_56 : decode cX11_madeNow 56 = .ok (.i2l, 1) := by decide +kernel
theorem dX11_madeNow_57 : decode cX11_madeNow 57 = .ok (.invokestatic 213, 3) := by decide +kernel
theorem dX11_madeNow_60 : decode cX11_madeNow 60 = .ok (.lstore_n 1, 1) := by decide +kernel
theorem dX11_madeNow_61 : decode cX11_madeNow 61 = .ok (.iinc 4 1, 3) := by decide +kernel
theorem dX11_madeNow_64 : decode cX11_madeNow 64 = .ok (.goto (-47), 3) := by decide +kernel
theorem dX11_madeNow_67 : decode cX11_madeNow 67 = .ok (.iinc 3 1, 3) := by decide +kernel
theorem dX11_madeNow_70 : decode cX11_madeNow 70 = .ok (.goto (-66), 3) := by decide +kernel
theorem dX11_madeNow_73 : decode cX11_madeNow 73 = .ok (.lload_n 1, 1) := by decide +kernel
theorem dX11_madeNow_74 : decode cX11_madeNow 74 = .ok (.lreturn, 1) := by decide +kernel
theorem dX11_nextWay_0 : decode cX11_nextWay 0 = .ok (.iconst 0, 1) := by decide +kernel
theorem dX11_nextWay_1 : decode cX11_nextWay 1 = .ok (.istore_n 1, 1) := by decide +kernel
theorem dX11_nextWay_2 : decode cX11_nextWay 2 = .ok (.iload_n 1, 1) := by decide +kernel
theorem dX11_nextWay_3 : decode cX11_nextWay 3 = .ok (.aload_n 0, 1) := by decide +kernel
theorem dX11_nextWay_4 : decode cX11_nextWay 4 = .ok (.getfield 19, 3) := by decide +kernel
theorem dX11_nextWay_7 : decode cX11_nextWay 7 = .ok (.iconst 0, 1) := by decide +kernel
theorem dX11_nextWay_8 : decode cX11_nextWay 8 = .ok (.iaload, 1) := by decide +kernel
theorem dX11_nextWay_9 : decode cX11_nextWay 9 = .ok (.if_icmp .ge 58, 3) := by decide +kernel
theorem dX11_nextWay_12 : decode cX11_nextWay 12 = .ok (.aload_n 0, 1) := by decide +kernel
theorem dX11_nextWay_13 : decode cX11_nextWay 13 = .ok (.getfield 19, 3) := by decide +kernel
theorem dX11_nextWay_16 : decode cX11_nextWay 16 = .ok (.iconst 3, 1) := by decide +kernel
theorem dX11_nextWay_17 : decode cX11_nextWay 17 = .ok (.iconst 3, 1) := by decide +kernel
theorem dX11_nextWay_18 : decode cX11_nextWay 18 = .ok (.iload_n 1, 1) := by decide +kernel
theorem dX11_nextWay_19 : decode cX11_nextWay 19 = .ok (.imul, 1) := by decide +kernel
theorem dX11_nextWay_20 : decode cX11_nextWay 20 = .ok (.iadd, 1) := by decide +kernel
theorem dX11_nextWay_21 : decode cX11_nextWay 21 = .ok (.iconst 1, 1) := by decide +kernel
theorem dX11_nextWay_22 : decode cX11_nextWay 22 = .ok (.iadd, 1) := by decide +kernel
theorem dX11_nextWay_23 : decode cX11_nextWay 23 = .ok (.iaload, 1) := by decide +kernel
theorem dX11_nextWay_24 : decode cX11_nextWay 24 = .ok (.ifCond .le 37, 3) := by decide +kernel
theorem dX11_nextWay_27 : decode cX11_nextWay 27 = .ok (.aload_n 0, 1) := by decide +kernel
theorem dX11_nextWay_28 : decode cX11_nextWay 28 = .ok (.getfield 41, 3) := by decide +kernel
theorem dX11_nextWay_31 : decode cX11_nextWay 31 = .ok (.iload_n 1, 1) := by decide +kernel
theorem dX11_nextWay_32 : decode cX11_nextWay 32 = .ok (.iaload, 1) := by decide +kernel
theorem dX11_nextWay_33 : decode cX11_nextWay 33 = .ok (.aload_n 0, 1) := by decide +kernel
theorem dX11_nextWay_34 : decode cX11_nextWay 34 = .ok (.getfield 32, 3) := by decide +kernel
theorem dX11_nextWay_37 : decode cX11_nextWay 37 = .ok (.iload_n 1, 1) := by decide +kernel
theorem dX11_nextWay_38 : decode cX11_nextWay 38 = .ok (.iaload, 1) := by decide +kernel
theorem dX11_nextWay_39 : decode cX11_nextWay 39 = .ok (.if_icmp .ge 15, 3) := by decide +kernel
theorem dX11_nextWay_42 : decode cX11_nextWay 42 = .ok (.aload_n 0, 1) := by decide +kernel
theorem dX11_nextWay_43 : decode cX11_nextWay 43 = .ok (.getfield 41, 3) := by decide +kernel
theorem dX11_nextWay_46 : decode cX11_nextWay 46 = .ok (.iload_n 1, 1) := by decide +kernel
theorem dX11_nextWay_47 : decode cX11_nextWay 47 = .ok (.dup2, 1) := by decide +kernel
theorem dX11_nextWay_48 : decode cX11_nextWay 48 = .ok (.iaload, 1) := by decide +kernel
theorem dX11_nextWay_49 : decode cX11_nextWay 49 = .ok (.iconst 1, 1) := by decide +kernel
theorem dX11_nextWay_50 : decode cX11_nextWay 50 = .ok (.iadd, 1) := by decide +kernel
theorem dX11_nextWay_51 : decode cX11_nextWay 51 = .ok (.iastore, 1) := by decide +kernel
theorem dX11_nextWay_52 : decode cX11_nextWay 52 = .ok (.iconst 1, 1) := by decide +kernel
theorem dX11_nextWay_53 : decode cX11_nextWay 53 = .ok (.ireturn, 1) := by decide +kernel
theorem dX11_nextWay_54 : decode cX11_nextWay 54 = .ok (.aload_n 0, 1) := by decide +kernel
theorem dX11_nextWay_55 : decode cX11_nextWay 55 = .ok (.getfield 41, 3) := by decide +kernel
theorem dX11_nextWay_58 : decode cX11_nextWay 58 = .ok (.iload_n 1, 1) := by decide +kernel
theorem dX11_nextWay_59 : decode cX11_nextWay 59 = .ok (.iconst 0, 1) := by decide +kernel
theorem dX11_nextWay_60 : decode cX11_nextWay 60 = .ok (.iastore, 1) := by decide +kernel
theorem dX11_nextWay_61 : decode cX11_nextWay 61 = .ok (.iinc 1 1, 3) := by decide +kernel
theorem dX11_nextWay_64 : decode cX11_nextWay 64 = .ok (.goto (-62), 3) := by decide +kernel
theorem dX11_nextWay_67 : decode cX11_nextWay 67 = .ok (.iconst 0, 1) := by decide +kernel
theorem dX11_nextWay_68 : decode cX11_nextWay 68 = .ok (.ireturn, 1) := by decide +kernel
theorem dX11_same_0 : decode cX11_same 0 = .ok (.aload_n 0, 1) := by decide +kernel
theorem dX11_same_1 : decode cX11_same 1 = .ok (.iconst 0, 1) := by decide +kernel
theorem dX11_same_2 : decode cX11_same 2 = .ok (.putfield 57, 3) := by decide +kernel
theorem dX11_same_5 : decode cX11_same 5 = .ok (.iload_n 1, 1) := by decide +kernel
theorem dX11_same_6 : decode cX11_same 6 = .ok (.invokestatic 197, 3) := by decide +kernel
theorem dX11_same_9 : decode cX11_same 9 = .ok (.ifCond .ne 7, 3) := by decide +kernel
theorem dX11_same_12 : decode cX11_same 12 = .ok (.ldc2_w 78, 3) := by decide +kernel
theorem dX11_same_15 : decode cX11_same 15 = .ok (.lreturn, 1) := by decide +kernel
theorem dX11_same_16 : decode cX11_same 16 = .ok (.aload_n 0, 1) := by decide +kernel
theorem dX11_same_17 : decode cX11_same 17 = .ok (.getfield 25, 3) := by decide +kernel
theorem dX11_same_20 : decode cX11_same 20 = .ok (.iload_n 1, 1) := by decide +kernel
theorem dX11_same_21 : decode cX11_same 21 = .ok (.laload, 1) := by decide +kernel
theorem dX11_same_22 : decode cX11_same 22 = .ok (.lconst 0, 1) := by decide +kernel
theorem dX11_same_23 : decode cX11_same 23 = .ok (.lcmp, 1) := by decide +kernel
theorem dX11_same_24 : decode cX11_same 24 = .ok (.ifCond .ne 7, 3) := by decide +kernel
theorem dX11_same_27 : decode cX11_same 27 = .ok (.ldc2_w 239, 3) := by decide +kernel
theorem dX11_same_30 : decode cX11_same 30 = .ok (.lreturn, 1) := by decide +kernel
theorem dX11_same_31 : decode cX11_same 31 = .ok (.aload_n 0, 1) := by decide +kernel
theorem dX11_same_32 : decode cX11_same 32 = .ok (.aload_n 0, 1) := by decide +kernel
theorem dX11_same_33 : decode cX11_same 33 = .ok (.getfield 25, 3) := by decide +kernel
theorem dX11_same_36 : decode cX11_same 36 = .ok (.iload_n 1, 1) := by decide +kernel
theorem dX11_same_37 : decode cX11_same 37 = .ok (.laload, 1) := by decide +kernel
theorem dX11_same_38 : decode cX11_same 38 = .ok (.invokevirtual 229, 3) := by decide +kernel
theorem dX11_same_41 : decode cX11_same 41 = .ok (.aload_n 0, 1) := by decide +kernel
theorem dX11_same_42 : decode cX11_same 42 = .ok (.getfield 219, 3) := by decide +kernel
theorem dX11_same_45 : decode cX11_same 45 = .ok (.lconst 1, 1) := by decide +kernel
theorem dX11_same_46 : decode cX11_same 46 = .ok (.lcmp, 1) := by decide +kernel
theorem dX11_same_47 : decode cX11_same 47 = .ok (.ifCond .eq 7, 3) := by decide +kernel
theorem dX11_same_50 : decode cX11_same 50 = .ok (.ldc2_w 217, 3) := by decide +kernel
theorem dX11_same_53 : decode cX11_same 53 = .ok (.lreturn, 1) := by decide +kernel
theorem dX11_same_54 : decode cX11_same 54 = .ok (.iconst 0, 1) := by decide +kernel
theorem dX11_same_55 : decode cX11_same 55 = .ok (.istore_n 2, 1) := by decide +kernel
theorem dX11_same_56 : decode cX11_same 56 = .ok (.iload_n 2, 1) := by decide +kernel
theorem dX11_same_57 : decode cX11_same 57 = .ok (.bipush 12, 2) := by decide +kernel
theorem dX11_same_59 : decode cX11_same 59 = .ok (.if_icmp .ge 16, 3) := by decide +kernel
theorem dX11_same_62 : decode cX11_same 62 = .ok (.aload_n 0, 1) := by decide +kernel
theorem dX11_same_63 : decode cX11_same 63 = .ok (.getfield 41, 3) := by decide +kernel
theorem dX11_same_66 : decode cX11_same 66 = .ok (.iload_n 2, 1) := by decide +kernel
theorem dX11_same_67 : decode cX11_same 67 = .ok (.iconst 0, 1) := by decide +kernel
theorem dX11_same_68 : decode cX11_same 68 = .ok (.iastore, 1) := by decide +kernel
theorem dX11_same_69 : decode cX11_same 69 = .ok (.iinc 2 1, 3) := by decide +kernel
theorem dX11_same_72 : decode cX11_same 72 = .ok (.goto (-16), 3) := by decide +kernel
theorem dX11_same_75 : decode cX11_same 75 = .ok (.lconst 0, 1) := by decide +kernel
theorem dX11_same_76 : decode cX11_same 76 = .ok (.lstore_n 2, 1) := by decide +kernel
theorem dX11_same_77 : decode cX11_same 77 = .ok (.iconst 1, 1) := by decide +kernel
theorem dX11_same_78 : decode cX11_same 78 = .ok (.istore 4, 2) := by decide +kernel
theorem dX11_same_80 : decode cX11_same 80 = .ok (.iload 4, 2) := by decide +kernel
theorem dX11_same_82 : decode cX11_same 82 = .ok (.ifCond .eq 29, 3) := by decide +kernel
theorem dX11_same_85 : decode cX11_same 85 = .ok (.lload_n 2, 1) := by decide +kernel
theorem dX11_same_86 : decode cX11_same 86 = .ok (.aload_n 0, 1) := by decide +kernel
theorem dX11_same_87 : decode cX11_same 87 = .ok (.invokevirtual 284, 3) := by decide +kernel
theorem dX11_same_90 : decode cX11_same 90 = .ok (.lconst 0, 1) := by decide +kernel
theorem dX11_same_91 : decode cX11_same 91 = .ok (.lcmp, 1) := by decide +kernel
theorem dX11_same_92 : decode cX11_same 92 = .ok (.ifCond .le 7, 3) := by decide +kernel
theorem dX11_same_95 : decode cX11_same 95 = .ok (.lconst 1, 1) := by decide +kernel
theorem dX11_same_96 : decode cX11_same 96 = .ok (.goto 4, 3) := by decide +kernel
theorem dX11_same_99 : decode cX11_same 99 = .ok (.lconst 0, 1) := by decide +kernel
theorem dX11_same_100 : decode cX11_same 100 = .ok (.ladd, 1) := by decide +kernel
theorem dX11_same_101 : decode cX11_same 101 = .ok (.lstore_n 2, 1) := by decide +kernel
theorem dX11_same_102 : decode cX11_same 102 = .ok (.aload_n 0, 1) := by decide +kernel
theorem dX11_same_103 : decode cX11_same 103 = .ok (.invokevirtual 287, 3) := by decide +kernel
theorem dX11_same_106 : decode cX11_same 106 = .ok (.istore 4, 2) := by decide +kernel
theorem dX11_same_108 : decode cX11_same 108 = .ok (.goto (-28), 3) := by decide +kernel
theorem dX11_same_111 : decode cX11_same 111 = .ok (.lload_n 2, 1) := by decide +kernel
theorem dX11_same_112 : decode cX11_same 112 = .ok (.lreturn, 1) := by decide +kernel
theorem dX11_image_0 : decode cX11_image 0 = .ok (.aload_n 0, 1) := by decide +kernel
theorem dX11_image_1 : decode cX11_image 1 = .ok (.iconst 0, 1) := by decide +kernel
theorem dX11_image_2 : decode cX11_image 2 = .ok (.putfield 57, 3) := by decide +kernel
theorem dX11_image_5 : decode cX11_image 5 = .ok (.iload_n 1, 1) := by decide +kernel
theorem dX11_image_6 : decode cX11_image 6 = .ok (.i2l, 1) := by decide +kernel
theorem dX11_image_7 : decode cX11_image 7 = .ok (.lconst 0, 1) := by decide +kernel
theorem dX11_image_8 : decode cX11_image 8 = .ok (.lconst 1, 1) := by decide +kernel
theorem dX11_image_9 : decode cX11_image 9 = .ok (.invokestatic 68, 3) := by decide +kernel
theorem dX11_image_12 : decode cX11_image 12 = .ok (.ifCond .ne 7, 3) := by decide +kernel
theorem dX11_image_15 : decode cX11_image 15 = .ok (.ldc2_w 78, 3) := by decide +kernel
theorem dX11_image_18 : decode cX11_image 18 = .ok (.lreturn, 1) := by decide +kernel
theorem dX11_image_19 : decode cX11_image 19 = .ok (.aload_n 0, 1) := by decide +kernel
theorem dX11_image_20 : decode cX11_image 20 = .ok (.getfield 191, 3) := by decide +kernel
theorem dX11_image_23 : decode cX11_image 23 = .ok (.ifCond .ne 7, 3) := by decide +kernel
theorem dX11_image_26 : decode cX11_image 26 = .ok (.ldc2_w 239, 3) := by decide +kernel
theorem dX11_image_29 : decode cX11_image 29 = .ok (.lreturn, 1) := by decide +kernel
theorem dX11_image_30 : decode cX11_image 30 = .ok (.iconst 0, 1) := by decide +kernel
theorem dX11_image_31 : decode cX11_image 31 = .ok (.istore_n 2, 1) := by decide +kernel
theorem dX11_image_32 : decode cX11_image 32 = .ok (.iload_n 2, 1) := by decide +kernel
theorem dX11_image_33 : decode cX11_image 33 = .ok (.bipush 65, 2) := by decide +kernel
theorem dX11_image_35 : decode cX11_image 35 = .ok (.if_icmp .ge 26, 3) := by decide +kernel
theorem dX11_image_38 : decode cX11_image 38 = .ok (.aload_n 0, 1) := by decide +kernel
theorem dX11_image_39 : decode cX11_image 39 = .ok (.getfield 48, 3) := by decide +kernel
theorem dX11_image_42 : decode cX11_image 42 = .ok (.bipush 65, 2) := by decide +kernel
theorem dX11_image_44 : decode cX11_image 44 = .ok (.iload_n 1, 1) := by decide +kernel
theorem dX11_image_45 : decode cX11_image 45 = .ok (.imul, 1) := by decide +kernel
theorem dX11_image_46 : decode cX11_image 46 = .ok (.iload_n 2, 1) := by decide +kernel
theorem dX11_image_47 : decode cX11_image 47 = .ok (.iadd, 1) := by decide +kernel
theorem dX11_image_48 : decode cX11_image 48 = .ok (.aload_n 0, 1) := by decide +kernel
theorem dX11_image_49 : decode cX11_image 49 = .ok (.getfield 19, 3) := by decide +kernel
theorem dX11_image_52 : decode cX11_image 52 = .ok (.iload_n 2, 1) := by decide +kernel
theorem dX11_image_53 : decode cX11_image 53 = .ok (.iaload, 1) := by decide +kernel
theorem dX11_image_54 : decode cX11_image 54 = .ok (.iastore, 1) := by decide +kernel
theorem dX11_image_55 : decode cX11_image 55 = .ok (.iinc 2 1, 3) := by decide +kernel
theorem dX11_image_58 : decode cX11_image 58 = .ok (.goto (-26), 3) := by decide +kernel
theorem dX11_image_61 : decode cX11_image 61 = .ok (.iconst 0, 1) := by decide +kernel
theorem dX11_image_62 : decode cX11_image 62 = .ok (.istore_n 2, 1) := by decide +kernel
theorem dX11_image_63 : decode cX11_image 63 = .ok (.iload_n 2, 1) := by decide +kernel
theorem dX11_image_64 : decode cX11_image 64 = .ok (.bipush 8, 2) := by decide +kernel
theorem dX11_image_66 : decode cX11_image 66 = .ok (.if_icmp .ge 26, 3) := by decide +kernel
theorem dX11_image_69 : decode cX11_image 69 = .ok (.aload_n 0, 1) := by decide +kernel
theorem dX11_image_70 : decode cX11_image 70 = .ok (.getfield 51, 3) := by decide +kernel
theorem dX11_image_73 : decode cX11_image 73 = .ok (.bipush 8, 2) := by decide +kernel
theorem dX11_image_75 : decode cX11_image 75 = .ok (.iload_n 1, 1) := by decide +kernel
theorem dX11_image_76 : decode cX11_image 76 = .ok (.imul, 1) := by decide +kernel
theorem dX11_image_77 : decode cX11_image 77 = .ok (.iload_n 2, 1) := by decide +kernel
theorem dX11_image_78 : decode cX11_image 78 = .ok (.iadd, 1) := by decide +kernel
theorem dX11_image_79 : decode cX11_image 79 = .ok (.aload_n 0, 1) := by decide +kernel
theorem dX11_image_80 : decode cX11_image 80 = .ok (.getfield 25, 3) := by decide +kernel
theorem dX11_image_83 : decode cX11_image 83 = .ok (.iload_n 2, 1) := by decide +kernel
theorem dX11_image_84 : decode cX11_image 84 = .ok (.laload, 1) := by decide +kernel
theorem dX11_image_85 : decode cX11_image 85 = .ok (.lastore, 1) := by decide +kernel
theorem dX11_image_86 : decode cX11_image 86 = .ok (.iinc 2 1, 3) := by decide +kernel
theorem dX11_image_89 : decode cX11_image 89 = .ok (.goto (-26), 3) := by decide +kernel
theorem dX11_image_92 : decode cX11_image 92 = .ok (.aload_n 0, 1) := by decide +kernel
theorem dX11_image_93 : decode cX11_image 93 = .ok (.getfield 44, 3) := by decide +kernel
theorem dX11_image_96 : decode cX11_image 96 = .ok (.iload_n 1, 1) := by decide +kernel
theorem dX11_image_97 : decode cX11_image 97 = .ok (.iconst 1, 1) := by decide +kernel
theorem dX11_image_98 : decode cX11_image 98 = .ok (.bastore, 1) := by decide +kernel
theorem dX11_image_99 : decode cX11_image 99 = .ok (.lconst 1, 1) := by decide +kernel
theorem dX11_image_100 : decode cX11_image 100 = .ok (.lreturn, 1) := by decide +kernel
theorem dX11_restore_0 : decode cX11_restore 0 = .ok (.aload_n 0, 1) := by decide +kernel
theorem dX11_restore_1 : decode cX11_restore 1 = .ok (.iconst 0, 1) := by decide +kernel
theorem dX11_restore_2 : decode cX11_restore 2 = .ok (.putfield 57, 3) := by decide +kernel
theorem dX11_restore_5 : decode cX11_restore 5 = .ok (.iload_n 1, 1) := by decide +kernel
theorem dX11_restore_6 : decode cX11_restore 6 = .ok (.i2l, 1) := by decide +kernel
theorem dX11_restore_7 : decode cX11_restore 7 = .ok (.lconst 0, 1) := by decide +kernel
theorem dX11_restore_8 : decode cX11_restore 8 = .ok (.lconst 1, 1) := by decide +kernel
theorem dX11_restore_9 : decode cX11_restore 9 = .ok (.invokestatic 68, 3) := by decide +kernel
theorem dX11_restore_12 : decode cX11_restore 12 = .ok (.ifCond .ne 7, 3) := by decide +kernel
theorem dX11_restore_15 : decode cX11_restore 15 = .ok (.ldc2_w 78, 3) := by decide +kernel
theorem dX11_restore_18 : decode cX11_restore 18 = .ok (.lreturn, 1) := by decide +kernel
theorem dX11_restore_19 : decode cX11_restore 19 = .ok (.aload_n 0, 1) := by decide +kernel
theorem dX11_restore_20 : decode cX11_restore 20 = .ok (.getfield 44, 3) := by decide +kernel
theorem dX11_restore_23 : decode cX11_restore 23 = .ok (.iload_n 1, 1) := by decide +kernel
theorem dX11_restore_24 : decode cX11_restore 24 = .ok (.baload, 1) := by decide +kernel
theorem dX11_restore_25 : decode cX11_restore 25 = .ok (.ifCond .ne 7, 3) := by decide +kernel
theorem dX11_restore_28 : decode cX11_restore 28 = .ok (.ldc2_w 239, 3) := by decide +kernel
theorem dX11_restore_31 : decode cX11_restore 31 = .ok (.lreturn, 1) := by decide +kernel
theorem dX11_restore_32 : decode cX11_restore 32 = .ok (.iconst 0, 1) := by decide +kernel
theorem dX11_restore_33 : decode cX11_restore 33 = .ok (.istore_n 2, 1) := by decide +kernel
theorem dX11_restore_34 : decode cX11_restore 34 = .ok (.iload_n 2, 1) := by decide +kernel
theorem dX11_restore_35 : decode cX11_restore 35 = .ok (.bipush 65, 2) := by decide +kernel
theorem dX11_restore_37 : decode cX11_restore 37 = .ok (.if_icmp .ge 26, 3) := by decide +kernel
theorem dX11_restore_40 : decode cX11_restore 40 = .ok (.aload_n 0, 1) := by decide +kernel
theorem dX11_restore_41 : decode cX11_restore 41 = .ok (.getfield 19, 3) := by decide +kernel
theorem dX11_restore_44 : decode cX11_restore 44 = .ok (.iload_n 2, 1) := by decide +kernel
theorem dX11_restore_45 : decode cX11_restore 45 = .ok (.aload_n 0, 1) := by decide +kernel
theorem dX11_restore_46 : decode cX11_restore 46 = .ok (.getfield 48, 3) := by decide +kernel
theorem dX11_restore_49 : decode cX11_restore 49 = .ok (.bipush 65, 2) := by decide +kernel
theorem dX11_restore_51 : decode cX11_restore 51 = .ok (.iload_n 1, 1) := by decide +kernel
theorem dX11_restore_52 : decode cX11_restore 52 = .ok (.imul, 1) := by decide +kernel
theorem dX11_restore_53 : decode cX11_restore 53 = .ok (.iload_n 2, 1) := by decide +kernel
theorem dX11_restore_54 : decode cX11_restore 54 = .ok (.iadd, 1) := by decide +kernel
theorem dX11_restore_55 : decode cX11_restore 55 = .ok (.iaload, 1) := by decide +kernel
theorem dX11_restore_56 : decode cX11_restore 56 = .ok (.iastore, 1) := by decide +kernel
theorem dX11_restore_57 : decode cX11_restore 57 = .ok (.iinc 2 1, 3) := by decide +kernel
theorem dX11_restore_60 : decode cX11_restore 60 = .ok (.goto (-26), 3) := by decide +kernel
theorem dX11_restore_63 : decode cX11_restore 63 = .ok (.iconst 0, 1) := by decide +kernel
theorem dX11_restore_64 : decode cX11_restore 64 = .ok (.istore_n 2, 1) := by decide +kernel
theorem dX11_restore_65 : decode cX11_restore 65 = .ok (.iload_n 2, 1) := by decide +kernel
theorem dX11_restore_66 : decode cX11_restore 66 = .ok (.bipush 8, 2) := by decide +kernel
theorem dX11_restore_68 : decode cX11_restore 68 = .ok (.if_icmp .ge 26, 3) := by decide +kernel
theorem dX11_restore_71 : decode cX11_restore 71 = .ok (.aload_n 0, 1) := by decide +kernel
theorem dX11_restore_72 : decode cX11_restore 72 = .ok (.getfield 25, 3) := by decide +kernel
theorem dX11_restore_75 : decode cX11_restore 75 = .ok (.iload_n 2, 1) := by decide +kernel
theorem dX11_restore_76 : decode cX11_restore 76 = .ok (.aload_n 0, 1) := by decide +kernel
theorem dX11_restore_77 : decode cX11_restore 77 = .ok (.getfield 51, 3) := by decide +kernel
theorem dX11_restore_80 : decode cX11_restore 80 = .ok (.bipush 8, 2) := by decide +kernel
theorem dX11_restore_82 : decode cX11_restore 82 = .ok (.iload_n 1, 1) := by decide +kernel
theorem dX11_restore_83 : decode cX11_restore 83 = .ok (.imul, 1) := by decide +kernel
theorem dX11_restore_84 : decode cX11_restore 84 = .ok (.iload_n 2, 1) := by decide +kernel
theorem dX11_restore_85 : decode cX11_restore 85 = .ok (.iadd, 1) := by decide +kernel
theorem dX11_restore_86 : decode cX11_restore 86 = .ok (.laload, 1) := by decide +kernel
theorem dX11_restore_87 : decode cX11_restore 87 = .ok (.lastore, 1) := by decide +kernel
theorem dX11_restore_88 : decode cX11_restore 88 = .ok (.iinc 2 1, 3) := by decide +kernel
theorem dX11_restore_91 : decode cX11_restore 91 = .ok (.goto (-26), 3) := by decide +kernel
theorem dX11_restore_94 : decode cX11_restore 94 = .ok (.lconst 1, 1) := by decide +kernel
theorem dX11_restore_95 : decode cX11_restore 95 = .ok (.lreturn, 1) := by decide +kernel
theorem dX11_kindOf_0 : decode cX11_kindOf 0 = .ok (.aload_n 0, 1) := by decide +kernel
theorem dX11_kindOf_1 : decode cX11_kindOf 1 = .ok (.aload_n 0, 1) := by decide +kernel
theorem dX11_kindOf_2 : decode cX11_kindOf 2 = .ok (.getfield 25, 3) := by decide +kernel
theorem dX11_kindOf_5 : decode cX11_kindOf 5 = .ok (.iload_n 1, 1) := by decide +kernel
theorem dX11_kindOf_6 : decode cX11_kindOf 6 = .ok (.laload, 1) := by decide +kernel
theorem dX11_kindOf_7 : decode cX11_kindOf 7 = .ok (.invokevirtual 229, 3) := by decide +kernel
theorem dX11_kindOf_10 : decode cX11_kindOf 10 = .ok (.aload_n 0, 1) := by decide +kernel
theorem dX11_kindOf_11 : decode cX11_kindOf 11 = .ok (.invokevirtual 233, 3) := by decide +kernel
theorem dX11_kindOf_14 : decode cX11_kindOf 14 = .ok (.ifCond .ne 18, 3) := by decide +kernel
theorem dX11_kindOf_17 : decode cX11_kindOf 17 = .ok (.aload_n 0, 1) := by decide +kernel
theorem dX11_kindOf_18 : decode cX11_kindOf 18 = .ok (.getfield 219, 3) := by decide +kernel
theorem dX11_kindOf_21 : decode cX11_kindOf 21 = .ok (.lconst 1, 1) := by decide +kernel
theorem dX11_kindOf_22 : decode cX11_kindOf 22 = .ok (.lcmp, 1) := by decide +kernel
theorem dX11_kindOf_23 : decode cX11_kindOf 23 = .ok (.ifCond .eq 7, 3) := by decide +kernel
theorem dX11_kindOf_26 : decode cX11_kindOf 26 = .ok (.iconst 4, 1) := by decide +kernel
theorem dX11_kindOf_27 : decode cX11_kindOf 27 = .ok (.goto 4, 3) := by decide +kernel
theorem dX11_kindOf_30 : decode cX11_kindOf 30 = .ok (.iconst 3, 1) := by decide +kernel
theorem dX11_kindOf_31 : decode cX11_kindOf 31 = .ok (.ireturn, 1) := by decide +kernel
theorem dX11_kindOf_32 : decode cX11_kindOf 32 = .ok (.iconst 0, 1) := by decide +kernel
theorem dX11_kindOf_33 : decode cX11_kindOf 33 = .ok (.istore_n 2, 1) := by decide +kernel
theorem dX11_kindOf_34 : decode cX11_kindOf 34 = .ok (.iconst 0, 1) := by decide +kernel
theorem dX11_kindOf_35 : decode cX11_kindOf 35 = .ok (.istore_n 3, 1) := by decide +kernel
theorem dX11_kindOf_36 : decode cX11_kindOf 36 = .ok (.iload_n 3, 1) := by decide +kernel
theorem dX11_kindOf_37 : decode cX11_kindOf 37 = .ok (.bipush 12, 2) := by decide +kernel
theorem dX11_kindOf_39 : decode cX11_kindOf 39 = .ok (.if_icmp .ge 29, 3) := by decide +kernel
theorem dX11_kindOf_42 : decode cX11_kindOf 42 = .ok (.iload_n 2, 1) := by decide +kernel
theorem dX11_kindOf_43 : decode cX11_kindOf 43 = .ok (.ifCond .ne 13, 3) := by decide +kernel
theorem dX11_kindOf_46 : decode cX11_kindOf 46 = .ok (.aload_n 0, 1) := by decide +kernel
theorem dX11_kindOf_47 : decode cX11_kindOf 47 = .ok (.getfield 32, 3) := by decide +kernel
theorem dX11_kindOf_50 : decode cX11_kindOf 50 = .ok (.iload_n 3, 1) := by decide +kernel
theorem dX11_kindOf_51 : decode cX11_kindOf 51 = .ok (.iaload, 1) := by decide +kernel
theorem dX11_kindOf_52 : decode cX11_kindOf 52 = .ok (.iconst 2, 1) := by decide +kernel
theorem dX11_kindOf_53 : decode cX11_kindOf 53 = .ok (.if_icmp .le 7, 3) := by decide +kernel
theorem dX11_kindOf_56 : decode cX11_kindOf 56 = .ok (.iconst 1, 1) := by decide +kernel
theorem dX11_kindOf_57 : decode cX11_kindOf 57 = .ok (.goto 4, 3) := by decide +kernel
theorem dX11_kindOf_60 : decode cX11_kindOf 60 = .ok (.iconst 0, 1) := by decide +kernel
theorem dX11_kindOf_61 : decode cX11_kindOf 61 = .ok (.istore_n 2, 1) := by decide +kernel
theorem dX11_kindOf_62 : decode cX11_kindOf 62 = .ok (.iinc 3 1, 3) := by decide +kernel
theorem dX11_kindOf_65 : decode cX11_kindOf 65 = .ok (.goto (-29), 3) := by decide +kernel
theorem dX11_kindOf_68 : decode cX11_kindOf 68 = .ok (.aload_n 0, 1) := by decide +kernel
theorem dX11_kindOf_69 : decode cX11_kindOf 69 = .ok (.invokevirtual 290, 3) := by decide +kernel
theorem dX11_kindOf_72 : decode cX11_kindOf 72 = .ok (.iconst 1, 1) := by decide +kernel
theorem dX11_kindOf_73 : decode cX11_kindOf 73 = .ok (.if_icmp .ne 7, 3) := by decide +kernel
theorem dX11_kindOf_76 : decode cX11_kindOf 76 = .ok (.iconst 2, 1) := by decide +kernel
theorem dX11_kindOf_77 : decode cX11_kindOf 77 = .ok (.goto 12, 3) := by decide +kernel
theorem dX11_kindOf_80 : decode cX11_kindOf 80 = .ok (.iload_n 2, 1) := by decide +kernel
theorem dX11_kindOf_81 : decode cX11_kindOf 81 = .ok (.ifCond .eq 7, 3) := by decide +kernel
theorem dX11_kindOf_84 : decode cX11_kindOf 84 = .ok (.iconst 5, 1) := by decide +kernel
theorem dX11_kindOf_85 : decode cX11_kindOf 85 = .ok (.goto 4, 3) := by decide +kernel
theorem dX11_kindOf_88 : decode cX11_kindOf 88 = .ok (.iconst 1, 1) := by decide +kernel
theorem dX11_kindOf_89 : decode cX11_kindOf 89 = .ok (.ireturn, 1) := by decide +kernel
theorem dX11_isOf_0 : decode cX11_isOf 0 = .ok (.iload_n 1, 1) := by decide +kernel
theorem dX11_isOf_1 : decode cX11_isOf 1 = .ok (.ifCond .eq 33, 3) := by decide +kernel
theorem dX11_isOf_4 : decode cX11_isOf 4 = .ok (.iload_n 0, 1) := by decide +kernel
theorem dX11_isOf_5 : decode cX11_isOf 5 = .ok (.iload_n 1, 1) := by decide +kernel
theorem dX11_isOf_6 : decode cX11_isOf 6 = .ok (.if_icmp .eq 28, 3) := by decide +kernel
theorem dX11_isOf_9 : decode cX11_isOf 9 = .ok (.iload_n 1, 1) := by decide +kernel
theorem dX11_isOf_10 : decode cX11_isOf 10 = .ok (.iconst 1, 1) := by decide +kernel
theorem dX11_isOf_11 : decode cX11_isOf 11 = .ok (.if_icmp .ne 13, 3) := by decide +kernel
theorem dX11_isOf_14 : decode cX11_isOf 14 = .ok (.iload_n 0, 1) := by decide +kernel
theorem dX11_isOf_15 : decode cX11_isOf 15 = .ok (.iconst 2, 1) := by decide +kernel
theorem dX11_isOf_16 : decode cX11_isOf 16 = .ok (.if_icmp .eq 18, 3) := by decide +kernel
theorem dX11_isOf_19 : decode cX11_isOf 19 = .ok (.iload_n 0, 1) := by decide +kernel
theorem dX11_isOf_20 : decode cX11_isOf 20 = .ok (.iconst 5, 1) := by decide +kernel
theorem dX11_isOf_21 : decode cX11_isOf 21 = .ok (.if_icmp .eq 13, 3) := by decide +kernel
theorem dX11_isOf_24 : decode cX11_isOf 24 = .ok (.iload_n 1, 1) := by decide +kernel
theorem dX11_isOf_25 : decode cX11_isOf 25 = .ok (.iconst 3, 1) := by decide +kernel
theorem dX11_isOf_26 : decode cX11_isOf 26 = .ok (.if_icmp .ne 12, 3) := by decide +kernel
theorem dX11_isOf_29 : decode cX11_isOf 29 = .ok (.iload_n 0, 1) := by decide +kernel
theorem dX11_isOf_30 : decode cX11_isOf 30 = .ok (.iconst 4, 1) := by decide +kernel
theorem dX11_isOf_31 : decode cX11_isOf 31 = .ok (.if_icmp .ne 7, 3) := by decide +kernel
theorem dX11_isOf_34 : decode cX11_isOf 34 = .ok (.iconst 1, 1) := by decide +kernel
theorem dX11_isOf_35 : decode cX11_isOf 35 = .ok (.goto 4, 3) := by decide +kernel
theorem dX11_isOf_38 : decode cX11_isOf 38 = .ok (.iconst 0, 1) := by decide +kernel
theorem dX11_isOf_39 : decode cX11_isOf 39 = .ok (.ireturn, 1) := by decide +kernel
theorem dX11_kind_0 : decode cX11_kind 0 = .ok (.aload_n 0, 1) := by decide +kernel
theorem dX11_kind_1 : decode cX11_kind 1 = .ok (.iconst 0, 1) := by decide +kernel
theorem dX11_kind_2 : decode cX11_kind 2 = .ok (.putfield 57, 3) := by decide +kernel
theorem dX11_kind_5 : decode cX11_kind 5 = .ok (.iload_n 1, 1) := by decide +kernel
theorem dX11_kind_6 : decode cX11_kind 6 = .ok (.invokestatic 197, 3) := by decide +kernel
theorem dX11_kind_9 : decode cX11_kind 9 = .ok (.ifCond .ne 9, 3) := by decide +kernel
theorem dX11_kind_12 : decode cX11_kind 12 = .ok (.ldc2_w 78, 3) := by decide +kernel
theorem dX11_kind_15 : decode cX11_kind 15 = .ok (.goto 26, 3) := by decide +kernel
theorem dX11_kind_18 : decode cX11_kind 18 = .ok (.aload_n 0, 1) := by decide +kernel
theorem dX11_kind_19 : decode cX11_kind 19 = .ok (.getfield 25, 3) := by decide +kernel
theorem dX11_kind_22 : decode cX11_kind 22 = .ok (.iload_n 1, 1) := by decide +kernel
theorem dX11_kind_23 : decode cX11_kind 23 = .ok (.laload, 1) := by decide +kernel
theorem dX11_kind_24 : decode cX11_kind 24 = .ok (.lconst 0, 1) := by decide +kernel
theorem dX11_kind_25 : decode cX11_kind 25 = .ok (.lcmp, 1) := by decide +kernel
theorem dX11_kind_26 : decode cX11_kind 26 = .ok (.ifCond .ne 9, 3) := by decide +kernel
theorem dX11_kind_29 : decode cX11_kind 29 = .ok (.ldc2_w 239, 3) := by decide +kernel
theorem dX11_kind_32 : decode cX11_kind 32 = .ok (.goto 9, 3) := by decide +kernel
theorem dX11_kind_35 : decode cX11_kind 35 = .ok (.aload_n 0, 1) := by decide +kernel
theorem dX11_kind_36 : decode cX11_kind 36 = .ok (.iload_n 1, 1) := by decide +kernel
theorem dX11_kind_37 : decode cX11_kind 37 = .ok (.invokevirtual 293, 3) := by decide +kernel
theorem dX11_kind_40 : decode cX11_kind 40 = .ok (.i2l, 1) := by decide +kernel
theorem dX11_kind_41 : decode cX11_kind 41 = .ok (.lreturn, 1) := by decide +kernel
theorem dX11_as_0 : decode cX11_as 0 = .ok (.aload_n 0, 1) := by decide +kernel
theorem dX11_as_1 : decode cX11_as 1 = .ok (.iconst 0, 1) := by decide +kernel
theorem dX11_as_2 : decode cX11_as 2 = .ok (.putfield 57, 3) := by decide +kernel
theorem dX11_as_5 : decode cX11_as 5 = .ok (.iload_n 1, 1) := by decide +kernel
theorem dX11_as_6 : decode cX11_as 6 = .ok (.invokestatic 197, 3) := by decide +kernel
theorem dX11_as_9 : decode cX11_as 9 = .ok (.ifCond .eq 15, 3) := by decide +kernel
theorem dX11_as_12 : decode cX11_as 12 = .ok (.iload_n 2, 1) := by decide +kernel
theorem dX11_as_13 : decode cX11_as 13 = .ok (.i2l, 1) := by decide +kernel
theorem dX11_as_14 : decode cX11_as 14 = .ok (.lconst 0, 1) := by decide +kernel
theorem dX11_as_15 : decode cX11_as 15 = .ok (.ldc2_w 296, 3) := by decide +kernel
theorem dX11_as_18 : decode cX11_as 18 = .ok (.invokestatic 68, 3) := by decide +kernel
theorem dX11_as_21 : decode cX11_as 21 = .ok (.ifCond .ne 7, 3) := by decide +kernel
theorem dX11_as_24 : decode cX11_as 24 = .ok (.ldc2_w 78, 3) := by decide +kernel
theorem dX11_as_27 : decode cX11_as 27 = .ok (.lreturn, 1) := by decide +kernel
theorem dX11_as_28 : decode cX11_as 28 = .ok (.aload_n 0, 1) := by decide +kernel
theorem dX11_as_29 : decode cX11_as 29 = .ok (.getfield 25, 3) := by decide +kernel
theorem dX11_as_32 : decode cX11_as 32 = .ok (.iload_n 1, 1) := by decide +kernel
theorem dX11_as_33 : decode cX11_as 33 = .ok (.laload, 1) := by decide +kernel
theorem dX11_as_34 : decode cX11_as 34 = .ok (.lconst 0, 1) := by decide +kernel
theorem dX11_as_35 : decode cX11_as 35 = .ok (.lcmp, 1) := by decide +kernel
theorem dX11_as_36 : decode cX11_as 36 = .ok (.ifCond .ne 7, 3) := by decide +kernel
theorem dX11_as_39 : decode cX11_as 39 = .ok (.ldc2_w 239, 3) := by decide +kernel
theorem dX11_as_42 : decode cX11_as 42 = .ok (.lreturn, 1) := by decide +kernel
theorem dX11_as_43 : decode cX11_as 43 = .ok (.aload_n 0, 1) := by decide +kernel
theorem dX11_as_44 : decode cX11_as 44 = .ok (.iconst 0, 1) := by decide +kernel
theorem dX11_as_45 : decode cX11_as 45 = .ok (.putfield 61, 3) := by decide +kernel
theorem dX11_as_48 : decode cX11_as 48 = .ok (.aload_n 0, 1) := by decide +kernel
theorem dX11_as_49 : decode cX11_as 49 = .ok (.iload_n 1, 1) := by decide +kernel
theorem dX11_as_50 : decode cX11_as 50 = .ok (.invokevirtual 293, 3) := by decide +kernel
theorem dX11_as_53 : decode cX11_as 53 = .ok (.iload_n 2, 1) := by decide +kernel
theorem dX11_as_54 : decode cX11_as 54 = .ok (.invokestatic 298, 3) := by decide +kernel
theorem dX11_as_57 : decode cX11_as 57 = .ok (.ifCond .eq 8, 3) := by decide +kernel
theorem dX11_as_60 : decode cX11_as 60 = .ok (.iload_n 1, 1) := by decide +kernel
theorem dX11_as_61 : decode cX11_as 61 = .ok (.i2l, 1) := by decide +kernel
theorem dX11_as_62 : decode cX11_as 62 = .ok (.goto 8, 3) := by decide +kernel
theorem dX11_as_65 : decode cX11_as 65 = .ok (.aload_n 0, 1) := by decide +kernel
theorem dX11_as_66 : decode cX11_as 66 = .ok (.iconst 3, 1) := by decide +kernel
theorem dX11_as_67 : decode cX11_as 67 = .ok (.invokevirtual 80, 3) := by decide +kernel
theorem dX11_as_70 : decode cX11_as 70 = .ok (.lreturn, 1) := by decide +kernel
theorem dX11_began_0 : decode cX11_began 0 = .ok (.aload_n 0, 1) := by decide +kernel
theorem dX11_began_1 : decode cX11_began 1 = .ok (.getfield 301, 3) := by decide +kernel
theorem dX11_began_4 : decode cX11_began 4 = .ok (.bipush 16, 2) := by decide +kernel
theorem dX11_began_6 : decode cX11_began 6 = .ok (.if_icmp .ge 23, 3) := by decide +kernel
theorem dX11_began_9 : decode cX11_began 9 = .ok (.aload_n 0, 1) := by decide +kernel
theorem dX11_began_10 : decode cX11_began 10 = .ok (.getfield 54, 3) := by decide +kernel
theorem dX11_began_13 : decode cX11_began 13 = .ok (.aload_n 0, 1) := by decide +kernel
theorem dX11_began_14 : decode cX11_began 14 = .ok (.getfield 301, 3) := by decide +kernel
theorem dX11_began_17 : decode cX11_began 17 = .ok (.iload_n 1, 1) := by decide +kernel
theorem dX11_began_18 : decode cX11_began 18 = .ok (.iastore, 1) := by decide +kernel
theorem dX11_began_19 : decode cX11_began 19 = .ok (.aload_n 0, 1) := by decide +kernel
theorem dX11_began_20 : decode cX11_began 20 = .ok (.dup, 1) := by decide +kernel
theorem dX11_began_21 : decode cX11_began 21 = .ok (.getfield 301, 3) := by decide +kernel
theorem dX11_began_24 : decode cX11_began 24 = .ok (.iconst 1, 1) := by decide +kernel
theorem dX11_began_25 : decode cX11_began 25 = .ok (.iadd, 1) := by decide +kernel
theorem dX11_began_26 : decode cX11_began 26 = .ok (.putfield 301, 3) := by decide +kernel
theorem dX11_began_29 : decode cX11_began 29 = .ok (.return_, 1) := by decide +kernel
theorem dX11_plainSize_0 : decode cX11_plainSize 0 = .ok (.aload_n 0, 1) := by decide +kernel
theorem dX11_plainSize_1 : decode cX11_plainSize 1 = .ok (.bipush 10, 2) := by decide +kernel
theorem dX11_plainSize_3 : decode cX11_plainSize 3 = .ok (.invokevirtual 304, 3) := by decide +kernel
theorem dX11_plainSize_6 : decode cX11_plainSize 6 = .ok (.aload_n 0, 1) := by decide +kernel
theorem dX11_plainSize_7 : decode cX11_plainSize 7 = .ok (.invokevirtual 290, 3) := by decide +kernel
theorem dX11_plainSize_10 : decode cX11_plainSize 10 = .ok (.ireturn, 1) := by decide +kernel
theorem dX11_falseSize_0 : decode cX11_falseSize 0 = .ok (.aload_n 0, 1) := by decide +kernel
theorem dX11_falseSize_1 : decode cX11_falseSize 1 = .ok (.bipush 13, 2) := by decide +kernel
theorem dX11_falseSize_3 : decode cX11_falseSize 3 = .ok (.invokevirtual 304, 3) := by decide +kernel
theorem dX11_falseSize_6 : decode cX11_falseSize 6 = .ok (.aload_n 0, 1) := by decide +kernel
theorem dX11_falseSize_7 : decode cX11_falseSize 7 = .ok (.invokevirtual 307, 3) := by decide +kernel
theorem dX11_falseSize_10 : decode cX11_falseSize 10 = .ok (.ineg, 1) := by decide +kernel
theorem dX11_falseSize_11 : decode cX11_falseSize 11 = .ok (.ireturn, 1) := by decide +kernel
theorem dX11_markOf_0 : decode cX11_markOf 0 = .ok (.iload_n 2, 1) := by decide +kernel
theorem dX11_markOf_1 : decode cX11_markOf 1 = .ok (.iconst 3, 1) := by decide +kernel
theorem dX11_markOf_2 : decode cX11_markOf 2 = .ok (.invokestatic 298, 3) := by decide +kernel
theorem dX11_markOf_5 : decode cX11_markOf 5 = .ok (.ifCond .eq 49, 3) := by decide +kernel
theorem dX11_markOf_8 : decode cX11_markOf 8 = .ok (.iload_n 2, 1) := by decide +kernel
theorem dX11_markOf_9 : decode cX11_markOf 9 = .ok (.iconst 4, 1) := by decide +kernel
theorem dX11_markOf_10 : decode cX11_markOf 10 = .ok (.if_icmp .ne 9, 3) := by decide +kernel
theorem dX11_markOf_13 : decode cX11_markOf 13 = .ok (.aload_n 0, 1) := by decide +kernel
theorem dX11_markOf_14 : decode cX11_markOf 14 = .ok (.bipush 22, 2) := by decide +kernel
theorem dX11_markOf_16 : decode cX11_markOf 16 = .ok (.invokevirtual 304, 3) := by decide +kernel
theorem dX11_markOf_19 : decode cX11_markOf 19 = .ok (.aload_n 0, 1) := by decide +kernel
theorem dX11_markOf_20 : decode cX11_markOf 20 = .ok (.bipush 24, 2) := by decide +kernel
theorem dX11_markOf_22 : decode cX11_markOf 22 = .ok (.invokevirtual 304, 3) := by decide +kernel
theorem dX11_markOf_25 : decode cX11_markOf 25 = .ok (.aload_n 0, 1) := by decide +kernel
theorem dX11_markOf_26 : decode cX11_markOf 26 = .ok (.bipush 20, 2) := by decide +kernel
theorem dX11_markOf_28 : decode cX11_markOf 28 = .ok (.invokevirtual 304, 3) := by decide +kernel
theorem dX11_markOf_31 : decode cX11_markOf 31 = .ok (.iload_n 1, 1) := by decide +kernel
theorem dX11_markOf_32 : decode cX11_markOf 32 = .ok (.bipush 100, 2) := by decide +kernel
theorem dX11_markOf_34 : decode cX11_markOf 34 = .ok (.isub, 1) := by decide +kernel
theorem dX11_markOf_35 : decode cX11_markOf 35 = .ok (.istore_n 3, 1) := by decide +kernel
theorem dX11_markOf_36 : decode cX11_markOf 36 = .ok (.iload_n 2, 1) := by decide +kernel
theorem dX11_markOf_37 : decode cX11_markOf 37 = .ok (.iconst 4, 1) := by decide +kernel
theorem dX11_markOf_38 : decode cX11_markOf 38 = .ok (.if_icmp .ne 13, 3) := by decide +kernel
theorem dX11_markOf_41 : decode cX11_markOf 41 = .ok (.iload_n 3, 1) := by decide +kernel
theorem dX11_markOf_42 : decode cX11_markOf 42 = .ok (.aload_n 0, 1) := by decide +kernel
theorem dX11_markOf_43 : decode cX11_markOf 43 = .ok (.invokevirtual 310, 3) := by decide +kernel
theorem dX11_markOf_46 : decode cX11_markOf 46 = .ok (.isub, 1) := by decide +kernel
theorem dX11_markOf_47 : decode cX11_markOf 47 = .ok (.i2l, 1) := by decide +kernel
theorem dX11_markOf_48 : decode cX11_markOf 48 = .ok (.goto 5, 3) := by decide +kernel
theorem dX11_markOf_51 : decode cX11_markOf 51 = .ok (.iload_n 3, 1) := by decide +kernel
theorem dX11_markOf_52 : decode cX11_markOf 52 = .ok (.i2l, 1) := by decide +kernel
theorem dX11_markOf_53 : decode cX11_markOf 53 = .ok (.lreturn, 1) := by decide +kernel
theorem dX11_markOf_54 : decode cX11_markOf 54 = .ok (.iload_n 2, 1) := by decide +kernel
theorem dX11_markOf_55 : decode cX11_markOf 55 = .ok (.iconst 2, 1) := by decide +kernel
theorem dX11_markOf_56 : decode cX11_markOf 56 = .ok (.if_icmp .ne 9, 3) := by decide +kernel
theorem dX11_markOf_59 : decode cX11_markOf 59 = .ok (.aload_n 0, 1) := by decide +kernel
theorem dX11_markOf_60 : decode cX11_markOf 60 = .ok (.bipush 23, 2) := by decide +kernel
theorem dX11_markOf_62 : decode cX11_markOf 62 = .ok (.invokevirtual 304, 3) := by decide +kernel
theorem dX11_markOf_65 : decode cX11_markOf 65 = .ok (.aload_n 0, 1) := by decide +kernel
theorem dX11_markOf_66 : decode cX11_markOf 66 = .ok (.bipush 21, 2) := by decide +kernel
theorem dX11_markOf_68 : decode cX11_markOf 68 = .ok (.invokevirtual 304, 3) := by decide +kernel
theorem dX11_markOf_71 : decode cX11_markOf 71 = .ok (.aload_n 0, 1) := by decide +kernel
theorem dX11_markOf_72 : decode cX11_markOf 72 = .ok (.bipush 20, 2) := by decide +kernel
theorem dX11_markOf_74 : decode cX11_markOf 74 = .ok (.invokevirtual 304, 3) := by decide +kernel
theorem dX11_markOf_77 : decode cX11_markOf 77 = .ok (.iload_n 1, 1) := by decide +kernel
theorem dX11_markOf_78 : decode cX11_markOf 78 = .ok (.i2l, 1) := by decide +kernel
theorem dX11_markOf_79 : decode cX11_markOf 79 = .ok (.ldc2_w 244, 3) := by decide +kernel
theorem dX11_markOf_82 : decode cX11_markOf 82 = .ok (.aload_n 0, 1) := by decide +kernel
theorem dX11_markOf_83 : decode cX11_markOf 83 = .ok (.getfield 25, 3) := by decide +kernel
theorem dX11_markOf_86 : decode cX11_markOf 86 = .ok (.iload_n 1, 1) := by decide +kernel
theorem dX11_markOf_87 : decode cX11_markOf 87 = .ok (.laload, 1) := by decide +kernel
theorem dX11_markOf_88 : decode cX11_markOf 88 = .ok (.ldc2_w 66, 3) := by decide +kernel
theorem dX11_markOf_91 : decode cX11_markOf 91 = .ok (.lrem, 1) := by decide +kernel
theorem dX11_markOf_92 : decode cX11_markOf 92 = .ok (.lmul, 1) := by decide +kernel
theorem dX11_markOf_93 : decode cX11_markOf 93 = .ok (.ladd, 1) := by decide +kernel
theorem dX11_markOf_94 : decode cX11_markOf 94 = .ok (.lstore_n 3, 1) := by decide +kernel
theorem dX11_markOf_95 : decode cX11_markOf 95 = .ok (.iload_n 2, 1) := by decide +kernel
theorem dX11_markOf_96 : decode cX11_markOf 96 = .ok (.iconst 2, 1) := by decide +kernel
theorem dX11_markOf_97 : decode cX11_markOf 97 = .ok (.if_icmp .ne 11, 3) := by decide +kernel
theorem dX11_markOf_100 : decode cX11_markOf 100 = .ok (.lload_n 3, 1) := by decide +kernel
theorem dX11_markOf_101 : decode cX11_markOf 101 = .ok (.ldc2_w 313, 3) := by decide +kernel
theorem dX11_markOf_104 : decode cX11_markOf 104 = .ok (.ladd, 1) := by decide +kernel
theorem dX11_markOf_105 : decode cX11_markOf 105 = .ok (.goto 4, 3) := by decide +kernel
theorem dX11_markOf_108 : decode cX11_markOf 108 = .ok (.lload_n 3, 1) := by decide +kernel
theorem dX11_markOf_109 : decode cX11_markOf 109 = .ok (.lreturn, 1) := by decide +kernel
theorem dX11_sizeOf_0 : decode cX11_sizeOf 0 = .ok (.iload_n 2, 1) := by decide +kernel
theorem dX11_sizeOf_1 : decode cX11_sizeOf 1 = .ok (.iconst 3, 1) := by decide +kernel
theorem dX11_sizeOf_2 : decode cX11_sizeOf 2 = .ok (.invokestatic 298, 3) := by decide +kernel
theorem dX11_sizeOf_5 : decode cX11_sizeOf 5 = .ok (.ifCond .eq 9, 3) := by decide +kernel
theorem dX11_sizeOf_8 : decode cX11_sizeOf 8 = .ok (.aload_n 0, 1) := by decide +kernel
theorem dX11_sizeOf_9 : decode cX11_sizeOf 9 = .ok (.invokevirtual 310, 3) := by decide +kernel
theorem dX11_sizeOf_12 : decode cX11_sizeOf 12 = .ok (.i2l, 1) := by decide +kernel
theorem dX11_sizeOf_13 : decode cX11_sizeOf 13 = .ok (.lreturn, 1) := by decide +kernel
theorem dX11_sizeOf_14 : decode cX11_sizeOf 14 = .ok (.iload_n 2, 1) := by decide +kernel
theorem dX11_sizeOf_15 : decode cX11_sizeOf 15 = .ok (.iconst 1, 1) := by decide +kernel
theorem dX11_sizeOf_16 : decode cX11_sizeOf 16 = .ok (.if_icmp .eq 19, 3) := by decide +kernel
theorem dX11_sizeOf_19 : decode cX11_sizeOf 19 = .ok (.aload_n 0, 1) := by decide +kernel
theorem dX11_sizeOf_20 : decode cX11_sizeOf 20 = .ok (.iload_n 2, 1) := by decide +kernel
theorem dX11_sizeOf_21 : decode cX11_sizeOf 21 = .ok (.iconst 2, 1) := by decide +kernel
theorem dX11_sizeOf_22 : decode cX11_sizeOf 22 = .ok (.if_icmp .ne 8, 3) := by decide +kernel
theorem dX11_sizeOf_25 : decode cX11_sizeOf 25 = .ok (.bipush 12, 2) := by decide +kernel
theorem dX11_sizeOf_27 : decode cX11_sizeOf 27 = .ok (.goto 5, 3) := by decide +kernel
theorem dX11_sizeOf_30 : decode cX11_sizeOf 30 = .ok (.bipush 14, 2) := by decide +kernel
theorem dX11_sizeOf_32 : decode cX11_sizeOf 32 = .ok (.invokevirtual 304, 3) := by decide +kernel
theorem dX11_sizeOf_35 : decode cX11_sizeOf 35 = .ok (.aload_n 0, 1) := by decide +kernel
theorem dX11_sizeOf_36 : decode cX11_sizeOf 36 = .ok (.bipush 11, 2) := by decide +kernel
theorem dX11_sizeOf_38 : decode cX11_sizeOf 38 = .ok (.invokevirtual 304, 3) := by decide +kernel
theorem dX11_sizeOf_41 : decode cX11_sizeOf 41 = .ok (.aload_n 0, 1) := by decide +kernel
theorem dX11_sizeOf_42 : decode cX11_sizeOf 42 = .ok (.invokevirtual 307, 3) := by decide +kernel
theorem dX11_sizeOf_45 : decode cX11_sizeOf 45 = .ok (.i2l, 1) := by decide +kernel
theorem dX11_sizeOf_46 : decode cX11_sizeOf 46 = .ok (.lstore_n 3, 1) := by decide +kernel
theorem dX11_sizeOf_47 : decode cX11_sizeOf 47 = .ok (.lload_n 3, 1) := by decide +kernel
theorem dX11_sizeOf_48 : decode cX11_sizeOf 48 = .ok (.aload_n 0, 1) := by decide +kernel
theorem dX11_sizeOf_49 : decode cX11_sizeOf 49 = .ok (.iload_n 1, 1) := by decide +kernel
theorem dX11_sizeOf_50 : decode cX11_sizeOf 50 = .ok (.iload_n 2, 1) := by decide +kernel
theorem dX11_sizeOf_51 : decode cX11_sizeOf 51 = .ok (.invokevirtual 315, 3) := by decide +kernel
theorem dX11_sizeOf_54 : decode cX11_sizeOf 54 = .ok (.ladd, 1) := by decide +kernel
theorem dX11_sizeOf_55 : decode cX11_sizeOf 55 = .ok (.lstore_n 3, 1) := by decide +kernel
theorem dX11_sizeOf_56 : decode cX11_sizeOf 56 = .ok (.iload_n 2, 1) := by decide +kernel
theorem dX11_sizeOf_57 : decode cX11_sizeOf 57 = .ok (.iconst 1, 1) := by decide +kernel
theorem dX11_sizeOf_58 : decode cX11_sizeOf 58 = .ok (.if_icmp .ne 7, 3) := by decide +kernel
theorem dX11_sizeOf_61 : decode cX11_sizeOf 61 = .ok (.lload_n 3, 1) := by decide +kernel
theorem dX11_sizeOf_62 : decode cX11_sizeOf 62 = .ok (.goto 18, 3) := by decide +kernel
theorem dX11_sizeOf_65 : decode cX11_sizeOf 65 = .ok (.iload_n 2, 1) := by decide +kernel
theorem dX11_sizeOf_66 : decode cX11_sizeOf 66 = .ok (.iconst 2, 1) := by decide +kernel
theorem dX11_sizeOf_67 : decode cX11_sizeOf 67 = .ok (.if_icmp .ne 11, 3) := by decide +kernel
theorem dX11_sizeOf_70 : decode cX11_sizeOf 70 = .ok (.ldc2_w 76, 3) := by decide +kernel
theorem dX11_sizeOf_73 : decode cX11_sizeOf 73 = .ok (.lload_n 3, 1) := by decide +kernel
theorem dX11_sizeOf_74 : decode cX11_sizeOf 74 = .ok (.lmul, 1) := by decide +kernel
theorem dX11_sizeOf_75 : decode cX11_sizeOf 75 = .ok (.goto 5, 3) := by decide +kernel
theorem dX11_sizeOf_78 : decode cX11_sizeOf 78 = .ok (.lload_n 3, 1) := by decide +kernel
theorem dX11_sizeOf_79 : decode cX11_sizeOf 79 = .ok (.lneg, 1) := by decide +kernel
theorem dX11_sizeOf_80 : decode cX11_sizeOf 80 = .ok (.lreturn, 1) := by decide +kernel
theorem dX11_ask_0 : decode cX11_ask 0 = .ok (.aload_n 0, 1) := by decide +kernel
theorem dX11_ask_1 : decode cX11_ask 1 = .ok (.iconst 0, 1) := by decide +kernel
theorem dX11_ask_2 : decode cX11_ask 2 = .ok (.putfield 57, 3) := by decide +kernel
theorem dX11_ask_5 : decode cX11_ask 5 = .ok (.iload_n 1, 1) := by decide +kernel
theorem dX11_ask_6 : decode cX11_ask 6 = .ok (.invokestatic 197, 3) := by decide +kernel
theorem dX11_ask_9 : decode cX11_ask 9 = .ok (.ifCond .eq 13, 3) := by decide +kernel
theorem dX11_ask_12 : decode cX11_ask 12 = .ok (.iload_n 2, 1) := by decide +kernel
theorem dX11_ask_13 : decode cX11_ask 13 = .ok (.i2l, 1) := by decide +kernel
theorem dX11_ask_14 : decode cX11_ask 14 = .ok (.lconst 0, 1) := by decide +kernel
theorem dX11_ask_15 : decode cX11_ask 15 = .ok (.lconst 1, 1) := by decide +kernel
theorem dX11_ask_16 : decode cX11_ask 16 = .ok (.invokestatic 68, 3) := by decide +kernel
theorem dX11_ask_19 : decode cX11_ask 19 = .ok (.ifCond .ne 7, 3) := by decide +kernel
theorem dX11_ask_22 : decode cX11_ask 22 = .ok (.ldc2_w 78, 3) := by decide +kernel
theorem dX11_ask_25 : decode cX11_ask 25 = .ok (.lreturn, 1) := by decide +kernel
theorem dX11_ask_26 : decode cX11_ask 26 = .ok (.aload_n 0, 1) := by decide +kernel
theorem dX11_ask_27 : decode cX11_ask 27 = .ok (.getfield 25, 3) := by decide +kernel
theorem dX11_ask_30 : decode cX11_ask 30 = .ok (.iload_n 1, 1) := by decide +kernel
theorem dX11_ask_31 : decode cX11_ask 31 = .ok (.laload, 1) := by decide +kernel
theorem dX11_ask_32 : decode cX11_ask 32 = .ok (.lconst 0, 1) := by decide +kernel
theorem dX11_ask_33 : decode cX11_ask 33 = .ok (.lcmp, 1) := by decide +kernel
theorem dX11_ask_34 : decode cX11_ask 34 = .ok (.ifCond .ne 7, 3) := by decide +kernel
theorem dX11_ask_37 : decode cX11_ask 37 = .ok (.ldc2_w 239, 3) := by decide +kernel
theorem dX11_ask_40 : decode cX11_ask 40 = .ok (.lreturn, 1) := by decide +kernel
theorem dX11_ask_41 : decode cX11_ask 41 = .ok (.aload_n 0, 1) := by decide +kernel
theorem dX11_ask_42 : decode cX11_ask 42 = .ok (.iconst 0, 1) := by decide +kernel
theorem dX11_ask_43 : decode cX11_ask 43 = .ok (.putfield 301, 3) := by decide +kernel
theorem dX11_ask_46 : decode cX11_ask 46 = .ok (.aload_n 0, 1) := by decide +kernel
theorem dX11_ask_47 : decode cX11_ask 47 = .ok (.iload_n 1, 1) := by decide +kernel
theorem dX11_ask_48 : decode cX11_ask 48 = .ok (.invokevirtual 293, 3) := by decide +kernel
theorem dX11_ask_51 : decode cX11_ask 51 = .ok (.istore_n 3, 1) := by decide +kernel
theorem dX11_ask_52 : decode cX11_ask 52 = .ok (.iload_n 2, 1) := by decide +kernel
theorem dX11_ask_53 : decode cX11_ask 53 = .ok (.ifCond .ne 12, 3) := by decide +kernel
theorem dX11_ask_56 : decode cX11_ask 56 = .ok (.aload_n 0, 1) := by decide +kernel
theorem dX11_ask_57 : decode cX11_ask 57 = .ok (.iload_n 1, 1) := by decide +kernel
theorem dX11_ask_58 : decode cX11_ask 58 = .ok (.iload_n 3, 1) := by decide +kernel
theorem dX11_ask_59 : decode cX11_ask 59 = .ok (.invokevirtual 319, 3) := by decide +kernel
theorem dX11_ask_62 : decode cX11_ask 62 = .ok (.goto 9, 3) := by decide +kernel
theorem dX11_ask_65 : decode cX11_ask 65 = .ok (.aload_n 0, 1) := by decide +kernel
theorem dX11_ask_66 : decode cX11_ask 66 = .ok (.iload_n 1, 1) := by decide +kernel
theorem dX11_ask_67 : decode cX11_ask 67 = .ok (.iload_n 3, 1) := by decide +kernel
theorem dX11_ask_68 : decode cX11_ask 68 = .ok (.invokevirtual 315, 3) := by decide +kernel
theorem dX11_ask_71 : decode cX11_ask 71 = .ok (.lreturn, 1) := by decide +kernel
theorem dX11_trace_0 : decode cX11_trace 0 = .ok (.aload_n 0, 1) := by decide +kernel
theorem dX11_trace_1 : decode cX11_trace 1 = .ok (.iconst 0, 1) := by decide +kernel
theorem dX11_trace_2 : decode cX11_trace 2 = .ok (.putfield 57, 3) := by decide +kernel
theorem dX11_trace_5 : decode cX11_trace 5 = .ok (.iload_n 1, 1) := by decide +kernel
theorem dX11_trace_6 : decode cX11_trace 6 = .ok (.i2l, 1) := by decide +kernel
theorem dX11_trace_7 : decode cX11_trace 7 = .ok (.lconst 0, 1) := by decide +kernel
theorem dX11_trace_8 : decode cX11_trace 8 = .ok (.aload_n 0, 1) := by decide +kernel
theorem dX11_trace_9 : decode cX11_trace 9 = .ok (.getfield 301, 3) := by decide +kernel
theorem dX11_trace_12 : decode cX11_trace 12 = .ok (.iconst 1, 1) := by decide +kernel
theorem dX11_trace_13 : decode cX11_trace 13 = .ok (.isub, 1) := by decide +kernel
theorem dX11_trace_14 : decode cX11_trace 14 = .ok (.i2l, 1) := by decide +kernel
theorem dX11_trace_15 : decode cX11_trace 15 = .ok (.invokestatic 68, 3) := by decide +kernel
theorem dX11_trace_18 : decode cX11_trace 18 = .ok (.ifCond .eq 12, 3) := by decide +kernel
theorem dX11_trace_21 : decode cX11_trace 21 = .ok (.aload_n 0, 1) := by decide +kernel
theorem dX11_trace_22 : decode cX11_trace 22 = .ok (.getfield 54, 3) := by decide +kernel
theorem dX11_trace_25 : decode cX11_trace 25 = .ok (.iload_n 1, 1) := by decide +kernel
theorem dX11_trace_26 : decode cX11_trace 26 = .ok (.iaload, 1) := by decide +kernel
theorem dX11_trace_27 : decode cX11_trace 27 = .ok (.goto 5, 3) := by decide +kernel
theorem dX11_trace_30 : decode cX11_trace 30 = .ok (.ldc 96, 2) := by decide +kernel
theorem dX11_trace_32 : decode cX11_trace 32 = .ok (.ireturn, 1) := by decide +kernel
theorem dX11_count_0 : decode cX11_count 0 = .ok (.aload_n 0, 1) := by decide +kernel
theorem dX11_count_1 : decode cX11_count 1 = .ok (.iconst 0, 1) := by decide +kernel
theorem dX11_count_2 : decode cX11_count 2 = .ok (.putfield 57, 3) := by decide +kernel
theorem dX11_count_5 : decode cX11_count 5 = .ok (.iconst 0, 1) := by decide +kernel
theorem dX11_count_6 : decode cX11_count 6 = .ok (.istore_n 2, 1) := by decide +kernel
theorem dX11_count_7 : decode cX11_count 7 = .ok (.iload_n 1, 1) := by decide +kernel
theorem dX11_count_8 : decode cX11_count 8 = .ok (.tableswitch 126 0 5 #[40, 74, 74, 74, 84, 120], 40) := by decide +kernel
theorem dX11_count_48 : decode cX11_count 48 = .ok (.iconst 0, 1) := by decide +kernel
theorem dX11_count_49 : decode cX11_count 49 = .ok (.istore_n 3, 1) := by decide +kernel
theorem dX11_count_50 : decode cX11_count 50 = .ok (.iload_n 3, 1) := by decide +kernel
theorem dX11_count_51 : decode cX11_count 51 = .ok (.bipush 8, 2) := by decide +kernel
theorem dX11_count_53 : decode cX11_count 53 = .ok (.if_icmp .ge 26, 3) := by decide +kernel
theorem dX11_count_56 : decode cX11_count 56 = .ok (.iload_n 2, 1) := by decide +kernel
theorem dX11_count_57 : decode cX11_count 57 = .ok (.aload_n 0, 1) := by decide +kernel
theorem dX11_count_58 : decode cX11_count 58 = .ok (.getfield 9, 3) := by decide +kernel
theorem dX11_count_61 : decode cX11_count 61 = .ok (.iload_n 3, 1) := by decide +kernel
theorem dX11_count_62 : decode cX11_count 62 = .ok (.iaload, 1) := by decide +kernel
theorem dX11_count_63 : decode cX11_count 63 = .ok (.ifCond .lt 7, 3) := by decide +kernel
theorem dX11_count_66 : decode cX11_count 66 = .ok (.iconst 1, 1) := by decide +kernel
theorem dX11_count_67 : decode cX11_count 67 = .ok (.goto 4, 3) := by decide +kernel
theorem dX11_count_70 : decode cX11_count 70 = .ok (.iconst 0, 1) := by decide +kernel
theorem dX11_count_71 : decode cX11_count 71 = .ok (.iadd, 1) := by decide +kernel
theorem dX11_count_72 : decode cX11_count 72 = .ok (.istore_n 2, 1) := by decide +kernel
theorem dX11_count_73 : decode cX11_count 73 = .ok (.iinc 3 1, 3) := by decide +kernel
theorem dX11_count_76 : decode cX11_count 76 = .ok (.goto (-26), 3) := by decide +kernel
theorem dX11_count_79 : decode cX11_count 79 = .ok (.iload_n 2, 1) := by decide +kernel
theorem dX11_count_80 : decode cX11_count 80 = .ok (.i2l, 1) := by decide +kernel
theorem dX11_count_81 : decode cX11_count 81 = .ok (.lreturn, 1) := by decide +kernel
theorem dX11_count_82 : decode cX11_count 82 = .ok (.aload_n 0, 1) := by decide +kernel
theorem dX11_count_83 : decode cX11_count 83 = .ok (.getfield 19, 3) := by decide +kernel
theorem dX11_count_86 : decode cX11_count 86 = .ok (.iload_n 1, 1) := by decide +kernel
theorem dX11_count_87 : decode cX11_count 87 = .ok (.iconst 1, 1) := by decide +kernel
theorem dX11_count_88 : decode cX11_count 88 = .ok (.isub, 1) := by decide +kernel
theorem dX11_count_89 : decode cX11_count 89 = .ok (.iaload, 1) := by decide +kernel
theorem dX11_count_90 : decode cX11_count 90 = .ok (.i2l, 1) := by decide +kernel
theorem dX11_count_91 : decode cX11_count 91 = .ok (.lreturn, 1) := by decide +kernel
theorem dX11_count_92 : decode cX11_count 92 = .ok (.iconst 0, 1) := by decide +kernel
theorem dX11_count_93 : decode cX11_count 93 = .ok (.istore_n 3, 1) := by decide +kernel
theorem dX11_count_94 : decode cX11_count 94 = .ok (.iload_n 3, 1) := by decide +kernel
theorem dX11_count_95 : decode cX11_count 95 = .ok (.bipush 8, 2) := by decide +kernel
theorem dX11_count_97 : decode cX11_count 97 = .ok (.if_icmp .ge 28, 3) := by decide +kernel
theorem dX11_count_100 : decode cX11_count 100 = .ok (.iload_n 2, 1) := by decide +kernel
theorem dX11_count_101 : decode cX11_count 101 = .ok (.aload_n 0, 1) := by decide +kernel
theorem dX11_count_102 : decode cX11_count 102 = .ok (.getfield 25, 3) := by decide +kernel
theorem dX11_count_105 : decode cX11_count 105 = .ok (.iload_n 3, 1) := by decide +kernel
theorem dX11_count_106 : decode cX11_count 106 = .ok (.laload, 1) := by decide +kernel
theorem dX11_count_107 : decode cX11_count 107 = .ok (.lconst 0, 1) := by decide +kernel
theorem dX11_count_108 : decode cX11_count 108 = .ok (.lcmp, 1) := by decide +kernel
theorem dX11_count_109 : decode cX11_count 109 = .ok (.ifCond .le 7, 3) := by decide +kernel
theorem dX11_count_112 : decode cX11_count 112 = .ok (.iconst 1, 1) := by decide +kernel
theorem dX11_count_113 : decode cX11_count 113 = .ok (.goto 4, 3) := by decide +kernel
theorem dX11_count_116 : decode cX11_count 116 = .ok (.iconst 0, 1) := by decide +kernel
theorem dX11_count_117 : decode cX11_count 117 = .ok (.iadd, 1) := by decide +kernel
theorem dX11_count_118 : decode cX11_count 118 = .ok (.istore_n 2, 1) := by decide +kernel
theorem dX11_count_119 : decode cX11_count 119 = .ok (.iinc 3 1, 3) := by decide +kernel
theorem dX11_count_122 : decode cX11_count 122 = .ok (.goto (-28), 3) := by decide +kernel
theorem dX11_count_125 : decode cX11_count 125 = .ok (.iload_n 2, 1) := by decide +kernel
theorem dX11_count_126 : decode cX11_count 126 = .ok (.i2l, 1) := by decide +kernel
theorem dX11_count_127 : decode cX11_count 127 = .ok (.lreturn, 1) := by decide +kernel
theorem dX11_count_128 : decode cX11_count 128 = .ok (.aload_n 0, 1) := by decide +kernel
theorem dX11_count_129 : decode cX11_count 129 = .ok (.getfield 86, 3) := by decide +kernel
theorem dX11_count_132 : decode cX11_count 132 = .ok (.i2l, 1) := by decide +kernel
theorem dX11_count_133 : decode cX11_count 133 = .ok (.lreturn, 1) := by decide +kernel
theorem dX11_count_134 : decode cX11_count 134 = .ok (.ldc2_w 78, 3) := by decide +kernel
theorem dX11_count_137 : decode cX11_count 137 = .ok (.lreturn, 1) := by decide +kernel
theorem dX11_status_0 : decode cX11_status 0 = .ok (.aload_n 0, 1) := by decide +kernel
theorem dX11_status_1 : decode cX11_status 1 = .ok (.iconst 0, 1) := by decide +kernel
theorem dX11_status_2 : decode cX11_status 2 = .ok (.putfield 57, 3) := by decide +kernel
theorem dX11_status_5 : decode cX11_status 5 = .ok (.aload_n 0, 1) := by decide +kernel
theorem dX11_status_6 : decode cX11_status 6 = .ok (.getfield 61, 3) := by decide +kernel
theorem dX11_status_9 : decode cX11_status 9 = .ok (.ireturn, 1) := by decide +kernel
theorem dJ6_bitCount_0f7a4_0 : decode cJ6_bitCount_0f7a4 0 = .ok (.iload_n 0, 1) := by decide +kernel
theorem dJ6_bitCount_0f7a4_1 : decode cJ6_bitCount_0f7a4 1 = .ok (.iload_n 0, 1) := by decide +kernel
theorem dJ6_bitCount_0f7a4_2 : decode cJ6_bitCount_0f7a4 2 = .ok (.iconst 1, 1) := by decide +kernel
theorem dJ6_bitCount_0f7a4_3 : decode cJ6_bitCount_0f7a4 3 = .ok (.iushr, 1) := by decide +kernel
theorem dJ6_bitCount_0f7a4_4 : decode cJ6_bitCount_0f7a4 4 = .ok (.ldc_w 265, 3) := by decide +kernel
theorem dJ6_bitCount_0f7a4_7 : decode cJ6_bitCount_0f7a4 7 = .ok (.iand, 1) := by decide +kernel
theorem dJ6_bitCount_0f7a4_8 : decode cJ6_bitCount_0f7a4 8 = .ok (.isub, 1) := by decide +kernel
theorem dJ6_bitCount_0f7a4_9 : decode cJ6_bitCount_0f7a4 9 = .ok (.istore_n 0, 1) := by decide +kernel
theorem dJ6_bitCount_0f7a4_10 : decode cJ6_bitCount_0f7a4 10 = .ok (.iload_n 0, 1) := by decide +kernel
theorem dJ6_bitCount_0f7a4_11 : decode cJ6_bitCount_0f7a4 11 = .ok (.ldc_w 266, 3) := by decide +kernel
theorem dJ6_bitCount_0f7a4_14 : decode cJ6_bitCount_0f7a4 14 = .ok (.iand, 1) := by decide +kernel
theorem dJ6_bitCount_0f7a4_15 : decode cJ6_bitCount_0f7a4 15 = .ok (.iload_n 0, 1) := by decide +kernel
theorem dJ6_bitCount_0f7a4_16 : decode cJ6_bitCount_0f7a4 16 = .ok (.iconst 2, 1) := by decide +kernel
theorem dJ6_bitCount_0f7a4_17 : decode cJ6_bitCount_0f7a4 17 = .ok (.iushr, 1) := by decide +kernel
theorem dJ6_bitCount_0f7a4_18 : decode cJ6_bitCount_0f7a4 18 = .ok (.ldc_w 266, 3) := by decide +kernel
theorem dJ6_bitCount_0f7a4_21 : decode cJ6_bitCount_0f7a4 21 = .ok (.iand, 1) := by decide +kernel
theorem dJ6_bitCount_0f7a4_22 : decode cJ6_bitCount_0f7a4 22 = .ok (.iadd, 1) := by decide +kernel
theorem dJ6_bitCount_0f7a4_23 : decode cJ6_bitCount_0f7a4 23 = .ok (.istore_n 0, 1) := by decide +kernel
theorem dJ6_bitCount_0f7a4_24 : decode cJ6_bitCount_0f7a4 24 = .ok (.iload_n 0, 1) := by decide +kernel
theorem dJ6_bitCount_0f7a4_25 : decode cJ6_bitCount_0f7a4 25 = .ok (.iload_n 0, 1) := by decide +kernel
theorem dJ6_bitCount_0f7a4_26 : decode cJ6_bitCount_0f7a4 26 = .ok (.iconst 4, 1) := by decide +kernel
theorem dJ6_bitCount_0f7a4_27 : decode cJ6_bitCount_0f7a4 27 = .ok (.iushr, 1) := by decide +kernel
theorem dJ6_bitCount_0f7a4_28 : decode cJ6_bitCount_0f7a4 28 = .ok (.iadd, 1) := by decide +kernel
theorem dJ6_bitCount_0f7a4_29 : decode cJ6_bitCount_0f7a4 29 = .ok (.ldc_w 267, 3) := by decide +kernel
theorem dJ6_bitCount_0f7a4_32 : decode cJ6_bitCount_0f7a4 32 = .ok (.iand, 1) := by decide +kernel
theorem dJ6_bitCount_0f7a4_33 : decode cJ6_bitCount_0f7a4 33 = .ok (.istore_n 0, 1) := by decide +kernel
theorem dJ6_bitCount_0f7a4_34 : decode cJ6_bitCount_0f7a4 34 = .ok (.iload_n 0, 1) := by decide +kernel
theorem dJ6_bitCount_0f7a4_35 : decode cJ6_bitCount_0f7a4 35 = .ok (.iload_n 0, 1) := by decide +kernel
theorem dJ6_bitCount_0f7a4_36 : decode cJ6_bitCount_0f7a4 36 = .ok (.bipush 8, 2) := by decide +kernel
theorem dJ6_bitCount_0f7a4_38 : decode cJ6_bitCount_0f7a4 38 = .ok (.iushr, 1) := by decide +kernel
theorem dJ6_bitCount_0f7a4_39 : decode cJ6_bitCount_0f7a4 39 = .ok (.iadd, 1) := by decide +kernel
theorem dJ6_bitCount_0f7a4_40 : decode cJ6_bitCount_0f7a4 40 = .ok (.istore_n 0, 1) := by decide +kernel
theorem dJ6_bitCount_0f7a4_41 : decode cJ6_bitCount_0f7a4 41 = .ok (.iload_n 0, 1) := by decide +kernel
theorem dJ6_bitCount_0f7a4_42 : decode cJ6_bitCount_0f7a4 42 = .ok (.iload_n 0, 1) := by decide +kernel
theorem dJ6_bitCount_0f7a4_43 : decode cJ6_bitCount_0f7a4 43 = .ok (.bipush 16, 2) := by decide +kernel
theorem dJ6_bitCount_0f7a4_45 : decode cJ6_bitCount_0f7a4 45 = .ok (.iushr, 1) := by decide +kernel
theorem dJ6_bitCount_0f7a4_46 : decode cJ6_bitCount_0f7a4 46 = .ok (.iadd, 1) := by decide +kernel
theorem dJ6_bitCount_0f7a4_47 : decode cJ6_bitCount_0f7a4 47 = .ok (.istore_n 0, 1) := by decide +kernel
theorem dJ6_bitCount_0f7a4_48 : decode cJ6_bitCount_0f7a4 48 = .ok (.iload_n 0, 1) := by decide +kernel
theorem dJ6_bitCount_0f7a4_49 : decode cJ6_bitCount_0f7a4 49 = .ok (.bipush 63, 2) := by decide +kernel
theorem dJ6_bitCount_0f7a4_51 : decode cJ6_bitCount_0f7a4 51 = .ok (.iand, 1) := by decide +kernel
theorem dJ6_bitCount_0f7a4_52 : decode cJ6_bitCount_0f7a4 52 = .ok (.ireturn, 1) := by decide +kernel
theorem dJ9_max_7cf53_0 : decode cJ9_max_7cf53 0 = .ok (.iload_n 0, 1) := by decide +kernel
theorem dJ9_max_7cf53_1 : decode cJ9_max_7cf53 1 = .ok (.iload_n 1, 1) := by decide +kernel
theorem dJ9_max_7cf53_2 : decode cJ9_max_7cf53 2 = .ok (.if_icmp .lt 7, 3) := by decide +kernel
theorem dJ9_max_7cf53_5 : decode cJ9_max_7cf53 5 = .ok (.iload_n 0, 1) := by decide +kernel
theorem dJ9_max_7cf53_6 : decode cJ9_max_7cf53 6 = .ok (.goto 4, 3) := by decide +kernel
theorem dJ9_max_7cf53_9 : decode cJ9_max_7cf53 9 = .ok (.iload_n 1, 1) := by decide +kernel
theorem dJ9_max_7cf53_10 : decode cJ9_max_7cf53 10 = .ok (.ireturn, 1) := by decide +kernel
theorem dJ9_min_7cf53_0 : decode cJ9_min_7cf53 0 = .ok (.iload_n 0, 1) := by decide +kernel
theorem dJ9_min_7cf53_1 : decode cJ9_min_7cf53 1 = .ok (.iload_n 1, 1) := by decide +kernel
theorem dJ9_min_7cf53_2 : decode cJ9_min_7cf53 2 = .ok (.if_icmp .gt 7, 3) := by decide +kernel
theorem dJ9_min_7cf53_5 : decode cJ9_min_7cf53 5 = .ok (.iload_n 0, 1) := by decide +kernel
theorem dJ9_min_7cf53_6 : decode cJ9_min_7cf53 6 = .ok (.goto 4, 3) := by decide +kernel
theorem dJ9_min_7cf53_9 : decode cJ9_min_7cf53 9 = .ok (.iload_n 1, 1) := by decide +kernel
theorem dJ9_min_7cf53_10 : decode cJ9_min_7cf53 10 = .ok (.ireturn, 1) := by decide +kernel
theorem dJ0_length_8abf5_0 : decode cJ0_length_8abf5 0 = .ok (.aload_n 0, 1) := by decide +kernel
theorem dJ0_length_8abf5_1 : decode cJ0_length_8abf5 1 = .ok (.getfield 9, 3) := by decide +kernel
theorem dJ0_length_8abf5_4 : decode cJ0_length_8abf5 4 = .ok (.arraylength, 1) := by decide +kernel
theorem dJ0_length_8abf5_5 : decode cJ0_length_8abf5 5 = .ok (.aload_n 0, 1) := by decide +kernel
theorem dJ0_length_8abf5_6 : decode cJ0_length_8abf5 6 = .ok (.invokevirtual 335, 3) := by decide +kernel
theorem dJ0_length_8abf5_9 : decode cJ0_length_8abf5 9 = .ok (.ishr, 1) := by decide +kernel
theorem dJ0_length_8abf5_10 : decode cJ0_length_8abf5 10 = .ok (.ireturn, 1) := by decide +kernel
theorem dJ0_charAt_5068e_0 : decode cJ0_charAt_5068e 0 = .ok (.aload_n 0, 1) := by decide +kernel
theorem dJ0_charAt_5068e_1 : decode cJ0_charAt_5068e 1 = .ok (.invokevirtual 492, 3) := by decide +kernel
theorem dJ0_charAt_5068e_4 : decode cJ0_charAt_5068e 4 = .ok (.ifCond .eq 12, 3) := by decide +kernel
theorem dJ0_charAt_5068e_7 : decode cJ0_charAt_5068e 7 = .ok (.aload_n 0, 1) := by decide +kernel
theorem dJ0_charAt_5068e_8 : decode cJ0_charAt_5068e 8 = .ok (.getfield 9, 3) := by decide +kernel
theorem dJ0_charAt_5068e_11 : decode cJ0_charAt_5068e 11 = .ok (.iload_n 1, 1) := by decide +kernel
theorem dJ0_charAt_5068e_12 : decode cJ0_charAt_5068e 12 = .ok (.invokestatic 495, 3) := by decide +kernel
theorem dJ0_charAt_5068e_15 : decode cJ0_charAt_5068e 15 = .ok (.ireturn, 1) := by decide +kernel
theorem dJ0_charAt_5068e_16 : decode cJ0_charAt_5068e 16 = .ok (.aload_n 0, 1) := by decide +kernel
theorem dJ0_charAt_5068e_17 : decode cJ0_charAt_5068e 17 = .ok (.getfield 9, 3) := by decide +kernel
theorem dJ0_charAt_5068e_20 : decode cJ0_charAt_5068e 20 = .ok (.iload_n 1, 1) := by decide +kernel
theorem dJ0_charAt_5068e_21 : decode cJ0_charAt_5068e 21 = .ok (.invokestatic 498, 3) := by decide +kernel
theorem dJ0_charAt_5068e_24 : decode cJ0_charAt_5068e 24 = .ok (.ireturn, 1) := by decide +kernel
theorem dJ0_coder_7d493_0 : decode cJ0_coder_7d493 0 = .ok (.getstatic 38, 3) := by decide +kernel
theorem dJ0_coder_7d493_3 : decode cJ0_coder_7d493 3 = .ok (.ifCond .eq 10, 3) := by decide +kernel
theorem dJ0_coder_7d493_6 : decode cJ0_coder_7d493 6 = .ok (.aload_n 0, 1) := by decide +kernel
theorem dJ0_coder_7d493_7 : decode cJ0_coder_7d493 7 = .ok (.getfield 15, 3) := by decide +kernel
theorem dJ0_coder_7d493_10 : decode cJ0_coder_7d493 10 = .ok (.goto 4, 3) := by decide +kernel
theorem dJ0_coder_7d493_13 : decode cJ0_coder_7d493 13 = .ok (.iconst 1, 1) := by decide +kernel
theorem dJ0_coder_7d493_14 : decode cJ0_coder_7d493 14 = .ok (.ireturn, 1) := by decide +kernel
theorem dJ0_isLatin1_aae02_0 : decode cJ0_isLatin1_aae02 0 = .ok (.getstatic 38, 3) := by decide +kernel
theorem dJ0_isLatin1_aae02_3 : decode cJ0_isLatin1_aae02 3 = .ok (.ifCond .eq 14, 3) := by decide +kernel
theorem dJ0_isLatin1_aae02_6 : decode cJ0_isLatin1_aae02 6 = .ok (.aload_n 0, 1) := by decide +kernel
theorem dJ0_isLatin1_aae02_7 : decode cJ0_isLatin1_aae02 7 = .ok (.getfield 15, 3) := by decide +kernel
theorem dJ0_isLatin1_aae02_10 : decode cJ0_isLatin1_aae02 10 = .ok (.ifCond .ne 7, 3) := by decide +kernel
theorem dJ0_isLatin1_aae02_13 : decode cJ0_isLatin1_aae02 13 = .ok (.iconst 1, 1) := by decide +kernel
theorem dJ0_isLatin1_aae02_14 : decode cJ0_isLatin1_aae02 14 = .ok (.goto 4, 3) := by decide +kernel
theorem dJ0_isLatin1_aae02_17 : decode cJ0_isLatin1_aae02 17 = .ok (.iconst 0, 1) := by decide +kernel
theorem dJ0_isLatin1_aae02_18 : decode cJ0_isLatin1_aae02 18 = .ok (.ireturn, 1) := by decide +kernel
theorem dJ0_checkIndex_df160_0 : decode cJ0_checkIndex_df160 0 = .ok (.iload_n 0, 1) := by decide +kernel
theorem dJ0_checkIndex_df160_1 : decode cJ0_checkIndex_df160 1 = .ok (.iload_n 1, 1) := by decide +kernel
theorem dJ0_checkIndex_df160_2 : decode cJ0_checkIndex_df160 2 = .ok (.getstatic 1053, 3) := by decide +kernel
theorem dJ0_checkIndex_df160_5 : decode cJ0_checkIndex_df160 5 = .ok (.invokestatic 1059, 3) := by decide +kernel
theorem dJ0_checkIndex_df160_8 : decode cJ0_checkIndex_df160 8 = .ok (.pop, 1) := by decide +kernel
theorem dJ0_checkIndex_df160_9 : decode cJ0_checkIndex_df160 9 = .ok (.return_, 1) := by decide +kernel
theorem dJ1_charAt_3b067_0 : decode cJ1_charAt_3b067 0 = .ok (.iload_n 1, 1) := by decide +kernel
theorem dJ1_charAt_3b067_1 : decode cJ1_charAt_3b067 1 = .ok (.aload_n 0, 1) := by decide +kernel
theorem dJ1_charAt_3b067_2 : decode cJ1_charAt_3b067 2 = .ok (.arraylength, 1) := by decide +kernel
theorem dJ1_charAt_3b067_3 : decode cJ1_charAt_3b067 3 = .ok (.invokestatic 9, 3) := by decide +kernel
theorem dJ1_charAt_3b067_6 : decode cJ1_charAt_3b067 6 = .ok (.aload_n 0, 1) := by decide +kernel
theorem dJ1_charAt_3b067_7 : decode cJ1_charAt_3b067 7 = .ok (.iload_n 1, 1) := by decide +kernel
theorem dJ1_charAt_3b067_8 : decode cJ1_charAt_3b067 8 = .ok (.baload, 1) := by decide +kernel
theorem dJ1_charAt_3b067_9 : decode cJ1_charAt_3b067 9 = .ok (.sipush 255, 3) := by decide +kernel
theorem dJ1_charAt_3b067_12 : decode cJ1_charAt_3b067 12 = .ok (.iand, 1) := by decide +kernel
theorem dJ1_charAt_3b067_13 : decode cJ1_charAt_3b067 13 = .ok (.i2c, 1) := by decide +kernel
theorem dJ1_charAt_3b067_14 : decode cJ1_charAt_3b067 14 = .ok (.ireturn, 1) := by decide +kernel
theorem dJ2_getChar_3b067_0 : decode cJ2_getChar_3b067 0 = .ok (.getstatic 44, 3) := by decide +kernel
theorem dJ2_getChar_3b067_3 : decode cJ2_getChar_3b067 3 = .ok (.ifCond .ne 25, 3) := by decide +kernel
theorem dJ2_getChar_3b067_6 : decode cJ2_getChar_3b067 6 = .ok (.iload_n 1, 1) := by decide +kernel
theorem dJ2_getChar_3b067_7 : decode cJ2_getChar_3b067 7 = .ok (.ifCond .lt 11, 3) := by decide +kernel
theorem dJ2_getChar_3b067_10 : decode cJ2_getChar_3b067 10 = .ok (.iload_n 1, 1) := by decide +kernel
theorem dJ2_getChar_3b067_11 : decode cJ2_getChar_3b067 11 = .ok (.aload_n 0, 1) := by decide +kernel
theorem dJ2_getChar_3b067_12 : decode cJ2_getChar_3b067 12 = .ok (.invokestatic 48, 3) := by decide +kernel
theorem dJ2_getChar_3b067_15 : decode cJ2_getChar_3b067 15 = .ok (.if_icmp .lt 13, 3) := by decide +kernel
theorem dJ2_getChar_3b067_18 : decode cJ2_getChar_3b067 18 = .ok (.new 52, 3) := by decide +kernel
theorem dJ2_getChar_3b067_21 : decode cJ2_getChar_3b067 21 = .ok (.dup, 1) := by decide +kernel
theorem dJ2_getChar_3b067_22 : decode cJ2_getChar_3b067 22 = .ok (.ldc 54, 2) := by decide +kernel
theorem dJ2_getChar_3b067_24 : decode cJ2_getChar_3b067 24 = .ok (.invokespecial 56, 3) := by decide +kernel
theorem dJ2_getChar_3b067_27 : decode cJ2_getChar_3b067 27 = .ok (.athrow, 1) := by decide +kernel
theorem dJ2_getChar_3b067_28 : decode cJ2_getChar_3b067 28 = .ok (.iload_n 1, 1) := by decide +kernel
theorem dJ2_getChar_3b067_29 : decode cJ2_getChar_3b067 29 = .ok (.iconst 1, 1) := by decide +kernel
theorem dJ2_getChar_3b067_30 : decode cJ2_getChar_3b067 30 = .ok (.ishl, 1) := by decide +kernel
theorem dJ2_getChar_3b067_31 : decode cJ2_getChar_3b067 31 = .ok (.istore_n 1, 1) := by decide +kernel
theorem dJ2_getChar_3b067_32 : decode cJ2_getChar_3b067 32 = .ok (.aload_n 0, 1) := by decide +kernel
theorem dJ2_getChar_3b067_33 : decode cJ2_getChar_3b067 33 = .ok (.iload_n 1, 1) := by decide +kernel
theorem dJ2_getChar_3b067_34 : decode cJ2_getChar_3b067 34 = .ok (.iinc 1 1, 3) := by decide +kernel
theorem dJ2_getChar_3b067_37 : decode cJ2_getChar_3b067 37 = .ok (.baload, 1) := by decide +kernel
theorem dJ2_getChar_3b067_38 : decode cJ2_getChar_3b067 38 = .ok (.sipush 255, 3) := by decide +kernel
theorem dJ2_getChar_3b067_41 : decode cJ2_getChar_3b067 41 = .ok (.iand, 1) := by decide +kernel
theorem dJ2_getChar_3b067_42 : decode cJ2_getChar_3b067 42 = .ok (.getstatic 59, 3) := by decide +kernel
theorem dJ2_getChar_3b067_45 : decode cJ2_getChar_3b067 45 = .ok (.ishl, 1) := by decide +kernel
theorem dJ2_getChar_3b067_46 : decode cJ2_getChar_3b067 46 = .ok (.aload_n 0, 1) := by decide +kernel
theorem dJ2_getChar_3b067_47 : decode cJ2_getChar_3b067 47 = .ok (.iload_n 1, 1) := by decide +kernel
theorem dJ2_getChar_3b067_48 : decode cJ2_getChar_3b067 48 = .ok (.baload, 1) := by decide +kernel
theorem dJ2_getChar_3b067_49 : decode cJ2_getChar_3b067 49 = .ok (.sipush 255, 3) := by decide +kernel
theorem dJ2_getChar_3b067_52 : decode cJ2_getChar_3b067 52 = .ok (.iand, 1) := by decide +kernel
theorem dJ2_getChar_3b067_53 : decode cJ2_getChar_3b067 53 = .ok (.getstatic 63, 3) := by decide +kernel
theorem dJ2_getChar_3b067_56 : decode cJ2_getChar_3b067 56 = .ok (.ishl, 1) := by decide +kernel
theorem dJ2_getChar_3b067_57 : decode cJ2_getChar_3b067 57 = .ok (.ior, 1) := by decide +kernel
theorem dJ2_getChar_3b067_58 : decode cJ2_getChar_3b067 58 = .ok (.i2c, 1) := by decide +kernel
theorem dJ2_getChar_3b067_59 : decode cJ2_getChar_3b067 59 = .ok (.ireturn, 1) := by decide +kernel
theorem dJ2_length_9d52b_0 : decode cJ2_length_9d52b 0 = .ok (.aload_n 0, 1) := by decide +kernel
theorem dJ2_length_9d52b_1 : decode cJ2_length_9d52b 1 = .ok (.arraylength, 1) := by decide +kernel
theorem dJ2_length_9d52b_2 : decode cJ2_length_9d52b 2 = .ok (.iconst 1, 1) := by decide +kernel
theorem dJ2_length_9d52b_3 : decode cJ2_length_9d52b 3 = .ok (.ishr, 1) := by decide +kernel
theorem dJ2_length_9d52b_4 : decode cJ2_length_9d52b 4 = .ok (.ireturn, 1) := by decide +kernel
theorem dJ2_charAt_3b067_0 : decode cJ2_charAt_3b067 0 = .ok (.iload_n 1, 1) := by decide +kernel
theorem dJ2_charAt_3b067_1 : decode cJ2_charAt_3b067 1 = .ok (.aload_n 0, 1) := by decide +kernel
theorem dJ2_charAt_3b067_2 : decode cJ2_charAt_3b067 2 = .ok (.invokestatic 67, 3) := by decide +kernel
theorem dJ2_charAt_3b067_5 : decode cJ2_charAt_3b067 5 = .ok (.aload_n 0, 1) := by decide +kernel
theorem dJ2_charAt_3b067_6 : decode cJ2_charAt_3b067 6 = .ok (.iload_n 1, 1) := by decide +kernel
theorem dJ2_charAt_3b067_7 : decode cJ2_charAt_3b067 7 = .ok (.invokestatic 71, 3) := by decide +kernel
theorem dJ2_charAt_3b067_10 : decode cJ2_charAt_3b067 10 = .ok (.ireturn, 1) := by decide +kernel
theorem dJ2_checkIndex_2214a_0 : decode cJ2_checkIndex_2214a 0 = .ok (.iload_n 0, 1) := by decide +kernel
theorem dJ2_checkIndex_2214a_1 : decode cJ2_checkIndex_2214a 1 = .ok (.aload_n 1, 1) := by decide +kernel
theorem dJ2_checkIndex_2214a_2 : decode cJ2_checkIndex_2214a 2 = .ok (.invokestatic 48, 3) := by decide +kernel
theorem dJ2_checkIndex_2214a_5 : decode cJ2_checkIndex_2214a 5 = .ok (.invokestatic 414, 3) := by decide +kernel
theorem dJ2_checkIndex_2214a_8 : decode cJ2_checkIndex_2214a 8 = .ok (.return_, 1) := by decide +kernel
theorem dJ3_checkIndex_8e157_0 : decode cJ3_checkIndex_8e157 0 = .ok (.iload_n 0, 1) := by decide +kernel
theorem dJ3_checkIndex_8e157_1 : decode cJ3_checkIndex_8e157 1 = .ok (.ifCond .lt 8, 3) := by decide +kernel
theorem dJ3_checkIndex_8e157_4 : decode cJ3_checkIndex_8e157 4 = .ok (.iload_n 0, 1) := by decide +kernel
theorem dJ3_checkIndex_8e157_5 : decode cJ3_checkIndex_8e157 5 = .ok (.iload_n 1, 1) := by decide +kernel
theorem dJ3_checkIndex_8e157_6 : decode cJ3_checkIndex_8e157 6 = .ok (.if_icmp .lt 10, 3) := by decide +kernel
theorem dJ3_checkIndex_8e157_9 : decode cJ3_checkIndex_8e157 9 = .ok (.aload_n 2, 1) := by decide +kernel
theorem dJ3_checkIndex_8e157_10 : decode cJ3_checkIndex_8e157 10 = .ok (.iload_n 0, 1) := by decide +kernel
theorem dJ3_checkIndex_8e157_11 : decode cJ3_checkIndex_8e157 11 = .ok (.iload_n 1, 1) := by decide +kernel
theorem dJ3_checkIndex_8e157_12 : decode cJ3_checkIndex_8e157 12 = .ok (.invokestatic 95, 3) := by decide +kernel
theorem dJ3_checkIndex_8e157_15 : decode cJ3_checkIndex_8e157 15 = .ok (.athrow, 1) := by decide +kernel
theorem dJ3_checkIndex_8e157_16 : decode cJ3_checkIndex_8e157 16 = .ok (.iload_n 0, 1) := by decide +kernel
theorem dJ3_checkIndex_8e157_17 : decode cJ3_checkIndex_8e157 17 = .ok (.ireturn, 1) := by decide +kernel
theorem dL_law_0 : decode cL_law 0 = .ok (.new 7, 3) := by decide +kernel
theorem dL_law_3 : decode cL_law 3 = .ok (.dup, 1) := by decide +kernel
theorem dL_law_4 : decode cL_law 4 = .ok (.invokespecial 9, 3) := by decide +kernel
theorem dL_law_7 : decode cL_law 7 = .ok (.astore_n 1, 1) := by decide +kernel
theorem dL_law_8 : decode cL_law 8 = .ok (.new 10, 3) := by decide +kernel
theorem dL_law_11 : decode cL_law 11 = .ok (.dup, 1) := by decide +kernel
theorem dL_law_12 : decode cL_law 12 = .ok (.invokespecial 12, 3) := by decide +kernel
theorem dL_law_15 : decode cL_law 15 = .ok (.astore_n 2, 1) := by decide +kernel
theorem dL_law_16 : decode cL_law 16 = .ok (.iconst 0, 1) := by decide +kernel
theorem dL_law_17 : decode cL_law 17 = .ok (.istore_n 3, 1) := by decide +kernel
theorem dL_law_18 : decode cL_law 18 = .ok (.iload_n 3, 1) := by decide +kernel
theorem dL_law_19 : decode cL_law 19 = .ok (.aload_n 0, 1) := by decide +kernel
theorem dL_law_20 : decode cL_law 20 = .ok (.arraylength, 1) := by decide +kernel
theorem dL_law_21 : decode cL_law 21 = .ok (.bipush 6, 2) := by decide +kernel
theorem dL_law_23 : decode cL_law 23 = .ok (.isub, 1) := by decide +kernel
theorem dL_law_24 : decode cL_law 24 = .ok (.if_icmp .gt 1035, 3) := by decide +kernel
theorem dL_law_27 : decode cL_law 27 = .ok (.aload_n 0, 1) := by decide +kernel
theorem dL_law_28 : decode cL_law 28 = .ok (.iload_n 3, 1) := by decide +kernel
theorem dL_law_29 : decode cL_law 29 = .ok (.iaload, 1) := by decide +kernel
theorem dL_law_30 : decode cL_law 30 = .ok (.bipush 31, 2) := by decide +kernel
theorem dL_law_32 : decode cL_law 32 = .ok (.iand, 1) := by decide +kernel
theorem dL_law_33 : decode cL_law 33 = .ok (.tableswitch 1020 0 25 #[119, 163, 207, 271, 295, 359, 373, 386, 450, 504, 528, 562, 606, 640, 694, 728, 762, 796, 820, 844, 868, 892, 926, 960, 983, 1007], 119) := by decide +kernel
theorem dL_law_152 : decode cL_law 152 = .ok (.aload_n 1, 1) := by decide +kernel
theorem dL_law_153 : decode cL_law 153 = .ok (.aload_n 0, 1) := by decide +kernel
theorem dL_law_154 : decode cL_law 154 = .ok (.iload_n 3, 1) := by decide +kernel
theorem dL_law_155 : decode cL_law 155 = .ok (.iconst 1, 1) := by decide +kernel
theorem dL_law_156 : decode cL_law 156 = .ok (.iadd, 1) := by decide +kernel
theorem dL_law_157 : decode cL_law 157 = .ok (.iaload, 1) := by decide +kernel
theorem dL_law_158 : decode cL_law 158 = .ok (.aload_n 0, 1) := by decide +kernel
theorem dL_law_159 : decode cL_law 159 = .ok (.iload_n 3, 1) := by decide +kernel
theorem dL_law_160 : decode cL_law 160 = .ok (.iconst 2, 1) := by decide +kernel
theorem dL_law_161 : decode cL_law 161 = .ok (.iadd, 1) := by decide +kernel
theorem dL_law_162 : decode cL_law 162 = .ok (.iaload, 1) := by decide +kernel
theorem dL_law_163 : decode cL_law 163 = .ok (.aload_n 0, 1) := by decide +kernel
theorem dL_law_164 : decode cL_law 164 = .ok (.iload_n 3, 1) := by decide +kernel
theorem dL_law_165 : decode cL_law 165 = .ok (.iconst 3, 1) := by decide +kernel
theorem dL_law_166 : decode cL_law 166 = .ok (.iadd, 1) := by decide +kernel
theorem dL_law_167 : decode cL_law 167 = .ok (.iaload, 1) := by decide +kernel
theorem dL_law_168 : decode cL_law 168 = .ok (.invokevirtual 13, 3) := by decide +kernel
theorem dL_law_171 : decode cL_law 171 = .ok (.aload_n 2, 1) := by decide +kernel
theorem dL_law_172 : decode cL_law 172 = .ok (.aload_n 0, 1) := by decide +kernel
theorem dL_law_173 : decode cL_law 173 = .ok (.iload_n 3, 1) := by decide +kernel
theorem dL_law_174 : decode cL_law 174 = .ok (.iconst 1, 1) := by decide +kernel
theorem dL_law_175 : decode cL_law 175 = .ok (.iadd, 1) := by decide +kernel
theorem dL_law_176 : decode cL_law 176 = .ok (.iaload, 1) := by decide +kernel
theorem dL_law_177 : decode cL_law 177 = .ok (.aload_n 0, 1) := by decide +kernel
theorem dL_law_178 : decode cL_law 178 = .ok (.iload_n 3, 1) := by decide +kernel
theorem dL_law_179 : decode cL_law 179 = .ok (.iconst 2, 1) := by decide +kernel
theorem dL_law_180 : decode cL_law 180 = .ok (.iadd, 1) := by decide +kernel
theorem dL_law_181 : decode cL_law 181 = .ok (.iaload, 1) := by decide +kernel
theorem dL_law_182 : decode cL_law 182 = .ok (.aload_n 0, 1) := by decide +kernel
theorem dL_law_183 : decode cL_law 183 = .ok (.iload_n 3, 1) := by decide +kernel
theorem dL_law_184 : decode cL_law 184 = .ok (.iconst 3, 1) := by decide +kernel
theorem dL_law_185 : decode cL_law 185 = .ok (.iadd, 1) := by decide +kernel
theorem dL_law_186 : decode cL_law 186 = .ok (.iaload, 1) := by decide +kernel
theorem dL_law_187 : decode cL_law 187 = .ok (.invokevirtual 17, 3) := by decide +kernel
theorem dL_law_190 : decode cL_law 190 = .ok (.lcmp, 1) := by decide +kernel
theorem dL_law_191 : decode cL_law 191 = .ok (.ifCond .eq 862, 3) := by decide +kernel
theorem dL_law_194 : decode cL_law 194 = .ok (.iconst 0, 1) := by decide +kernel
theorem dL_law_195 : decode cL_law 195 = .ok (.ireturn, 1) := by decide +kernel
theorem dL_law_196 : decode cL_law 196 = .ok (.aload_n 1, 1) := by decide +kernel
theorem dL_law_197 : decode cL_law 197 = .ok (.aload_n 0, 1) := by decide +kernel
theorem dL_law_198 : decode cL_law 198 = .ok (.iload_n 3, 1) := by decide +kernel
theorem dL_law_199 : decode cL_law 199 = .ok (.iconst 1, 1) := by decide +kernel
theorem dL_law_200 : decode cL_law 200 = .ok (.iadd, 1) := by decide +kernel
theorem dL_law_201 : decode cL_law 201 = .ok (.iaload, 1) := by decide +kernel
theorem dL_law_202 : decode cL_law 202 = .ok (.aload_n 0, 1) := by decide +kernel
theorem dL_law_203 : decode cL_law 203 = .ok (.iload_n 3, 1) := by decide +kernel
theorem dL_law_204 : decode cL_law 204 = .ok (.iconst 2, 1) := by decide +kernel
theorem dL_law_205 : decode cL_law 205 = .ok (.iadd, 1) := by decide +kernel
theorem dL_law_206 : decode cL_law 206 = .ok (.iaload, 1) := by decide +kernel
theorem dL_law_207 : decode cL_law 207 = .ok (.aload_n 0, 1) := by decide +kernel
theorem dL_law_208 : decode cL_law 208 = .ok (.iload_n 3, 1) := by decide +kernel
theorem dL_law_209 : decode cL_law 209 = .ok (.iconst 3, 1) := by decide +kernel
theorem dL_law_210 : decode cL_law 210 = .ok (.iadd, 1) := by decide +kernel
theorem dL_law_211 : decode cL_law 211 = .ok (.iaload, 1) := by decide +kernel
theorem dL_law_212 : decode cL_law 212 = .ok (.invokevirtual 18, 3) := by decide +kernel
theorem dL_law_215 : decode cL_law 215 = .ok (.aload_n 2, 1) := by decide +kernel
theorem dL_law_216 : decode cL_law 216 = .ok (.aload_n 0, 1) := by decide +kernel
theorem dL_law_217 : decode cL_law 217 = .ok (.iload_n 3, 1) := by decide +kernel
theorem dL_law_218 : decode cL_law 218 = .ok (.iconst 1, 1) := by decide +kernel
theorem dL_law_219 : decode cL_law 219 = .ok (.iadd, 1) := by decide +kernel
theorem dL_law_220 : decode cL_law 220 = .ok (.iaload, 1) := by decide +kernel
theorem dL_law_221 : decode cL_law 221 = .ok (.aload_n 0, 1) := by decide +kernel
theorem dL_law_222 : decode cL_law 222 = .ok (.iload_n 3, 1) := by decide +kernel
theorem dL_law_223 : decode cL_law 223 = .ok (.iconst 2, 1) := by decide +kernel
theorem dL_law_224 : decode cL_law 224 = .ok (.iadd, 1) := by decide +kernel
theorem dL_law_225 : decode cL_law 225 = .ok (.iaload, 1) := by decide +kernel
theorem dL_law_226 : decode cL_law 226 = .ok (.aload_n 0, 1) := by decide +kernel
theorem dL_law_227 : decode cL_law 227 = .ok (.iload_n 3, 1) := by decide +kernel
theorem dL_law_228 : decode cL_law 228 = .ok (.iconst 3, 1) := by decide +kernel
theorem dL_law_229 : decode cL_law 229 = .ok (.iadd, 1) := by decide +kernel
theorem dL_law_230 : decode cL_law 230 = .ok (.iaload, 1) := by decide +kernel
theorem dL_law_231 : decode cL_law 231 = .ok (.invokevirtual 21, 3) := by decide +kernel
theorem dL_law_234 : decode cL_law 234 = .ok (.lcmp, 1) := by decide +kernel
theorem dL_law_235 : decode cL_law 235 = .ok (.ifCond .eq 818, 3) := by decide +kernel
theorem dL_law_238 : decode cL_law 238 = .ok (.iconst 0, 1) := by decide +kernel
theorem dL_law_239 : decode cL_law 239 = .ok (.ireturn, 1) := by decide +kernel
theorem dL_law_240 : decode cL_law 240 = .ok (.aload_n 1, 1) := by decide +kernel
theorem dL_law_241 : decode cL_law 241 = .ok (.aload_n 0, 1) := by decide +kernel
theorem dL_law_242 : decode cL_law 242 = .ok (.iload_n 3, 1) := by decide +kernel
theorem dL_law_243 : decode cL_law 243 = .ok (.iconst 1, 1) := by decide +kernel
theorem dL_law_244 : decode cL_law 244 = .ok (.iadd, 1) := by decide +kernel
theorem dL_law_245 : decode cL_law 245 = .ok (.iaload, 1) := by decide +kernel
theorem dL_law_246 : decode cL_law 246 = .ok (.aload_n 0, 1) := by decide +kernel
theorem dL_law_247 : decode cL_law 247 = .ok (.iload_n 3, 1) := by decide +kernel
theorem dL_law_248 : decode cL_law 248 = .ok (.iconst 2, 1) := by decide +kernel
theorem dL_law_249 : decode cL_law 249 = .ok (.iadd, 1) := by decide +kernel
theorem dL_law_250 : decode cL_law 250 = .ok (.iaload, 1) := by decide +kernel
theorem dL_law_251 : decode cL_law 251 = .ok (.aload_n 0, 1) := by decide +kernel
theorem dL_law_252 : decode cL_law 252 = .ok (.iload_n 3, 1) := by decide +kernel
theorem dL_law_253 : decode cL_law 253 = .ok (.iconst 3, 1) := by decide +kernel
theorem dL_law_254 : decode cL_law 254 = .ok (.iadd, 1) := by decide +kernel
theorem dL_law_255 : decode cL_law 255 = .ok (.iaload, 1) := by decide +kernel
theorem dL_law_256 : decode cL_law 256 = .ok (.aload_n 0, 1) := by decide +kernel
theorem dL_law_257 : decode cL_law 257 = .ok (.iload_n 3, 1) := by decide +kernel
theorem dL_law_258 : decode cL_law 258 = .ok (.iconst 4, 1) := by decide +kernel
theorem dL_law_259 : decode cL_law 259 = .ok (.iadd, 1) := by decide +kernel
theorem dL_law_260 : decode cL_law 260 = .ok (.iaload, 1) := by decide +kernel
theorem dL_law_261 : decode cL_law 261 = .ok (.aload_n 0, 1) := by decide +kernel
theorem dL_law_262 : decode cL_law 262 = .ok (.iload_n 3, 1) := by decide +kernel
theorem dL_law_263 : decode cL_law 263 = .ok (.iconst 5, 1) := by decide +kernel
theorem dL_law_264 : decode cL_law 264 = .ok (.iadd, 1) := by decide +kernel
theorem dL_law_265 : decode cL_law 265 = .ok (.iaload, 1) := by decide +kernel
theorem dL_law_266 : decode cL_law 266 = .ok (.invokevirtual 22, 3) := by decide +kernel
theorem dL_law_269 : decode cL_law 269 = .ok (.aload_n 2, 1) := by decide +kernel
theorem dL_law_270 : decode cL_law 270 = .ok (.aload_n 0, 1) := by decide +kernel
theorem dL_law_271 : decode cL_law 271 = .ok (.iload_n 3, 1) := by decide +kernel
theorem dL_law_272 : decode cL_law 272 = .ok (.iconst 1, 1) := by decide +kernel
theorem dL_law_273 : decode cL_law 273 = .ok (.iadd, 1) := by decide +kernel
theorem dL_law_274 : decode cL_law 274 = .ok (.iaload, 1) := by decide +kernel
theorem dL_law_275 : decode cL_law 275 = .ok (.aload_n 0, 1) := by decide +kernel
theorem dL_law_276 : decode cL_law 276 = .ok (.iload_n 3, 1) := by decide +kernel
theorem dL_law_277 : decode cL_law 277 = .ok (.iconst 2, 1) := by decide +kernel
theorem dL_law_278 : decode cL_law 278 = .ok (.iadd, 1) := by decide +kernel
theorem dL_law_279 : decode cL_law 279 = .ok (.iaload, 1) := by decide +kernel
theorem dL_law_280 : decode cL_law 280 = .ok (.aload_n 0, 1) := by decide +kernel
theorem dL_law_281 : decode cL_law 281 = .ok (.iload_n 3, 1) := by decide +kernel
theorem dL_law_282 : decode cL_law 282 = .ok (.iconst 3, 1) := by decide +kernel
theorem dL_law_283 : decode cL_law 283 = .ok (.iadd, 1) := by decide +kernel
theorem dL_law_284 : decode cL_law 284 = .ok (.iaload, 1) := by decide +kernel
theorem dL_law_285 : decode cL_law 285 = .ok (.aload_n 0, 1) := by decide +kernel
theorem dL_law_286 : decode cL_law 286 = .ok (.iload_n 3, 1) := by decide +kernel
theorem dL_law_287 : decode cL_law 287 = .ok (.iconst 4, 1) := by decide +kernel
theorem dL_law_288 : decode cL_law 288 = .ok (.iadd, 1) := by decide +kernel
theorem dL_law_289 : decode cL_law 289 = .ok (.iaload, 1) := by decide +kernel
theorem dL_law_290 : decode cL_law 290 = .ok (.aload_n 0, 1) := by decide +kernel
theorem dL_law_291 : decode cL_law 291 = .ok (.iload_n 3, 1) := by decide +kernel
theorem dL_law_292 : decode cL_law 292 = .ok (.iconst 5, 1) := by decide +kernel
theorem dL_law_293 : decode cL_law 293 = .ok (.iadd, 1) := by decide +kernel
theorem dL_law_294 : decode cL_law 294 = .ok (.iaload, 1) := by decide +kernel
theorem dL_law_295 : decode cL_law 295 = .ok (.invokevirtual 26, 3) := by decide +kernel
theorem dL_law_298 : decode cL_law 298 = .ok (.lcmp, 1) := by decide +kernel
theorem dL_law_299 : decode cL_law 299 = .ok (.ifCond .eq 754, 3) := by decide +kernel
theorem dL_law_302 : decode cL_law 302 = .ok (.iconst 0, 1) := by decide +kernel
theorem dL_law_303 : decode cL_law 303 = .ok (.ireturn, 1) := by decide +kernel
theorem dL_law_304 : decode cL_law 304 = .ok (.aload_n 1, 1) := by decide +kernel
theorem dL_law_305 : decode cL_law 305 = .ok (.aload_n 0, 1) := by decide +kernel
theorem dL_law_306 : decode cL_law 306 = .ok (.iload_n 3, 1) := by decide +kernel
theorem dL_law_307 : decode cL_law 307 = .ok (.iconst 1, 1) := by decide +kernel
theorem dL_law_308 : decode cL_law 308 = .ok (.iadd, 1) := by decide +kernel
theorem dL_law_309 : decode cL_law 309 = .ok (.iaload, 1) := by decide +kernel
theorem dL_law_310 : decode cL_law 310 = .ok (.invokevirtual 27, 3) := by decide +kernel
theorem dL_law_313 : decode cL_law 313 = .ok (.aload_n 2, 1) := by decide +kernel
theorem dL_law_314 : decode cL_law 314 = .ok (.aload_n 0, 1) := by decide +kernel
theorem dL_law_315 : decode cL_law 315 = .ok (.iload_n 3, 1) := by decide +kernel
theorem dL_law_316 : decode cL_law 316 = .ok (.iconst 1, 1) := by decide +kernel
theorem dL_law_317 : decode cL_law 317 = .ok (.iadd, 1) := by decide +kernel
theorem dL_law_318 : decode cL_law 318 = .ok (.iaload, 1) := by decide +kernel
theorem dL_law_319 : decode cL_law 319 = .ok (.invokevirtual 31, 3) := by decide +kernel
theorem dL_law_322 : decode cL_law 322 = .ok (.lcmp, 1) := by decide +kernel
theorem dL_law_323 : decode cL_law 323 = .ok (.ifCond .eq 730, 3) := by decide +kernel
theorem dL_law_326 : decode cL_law 326 = .ok (.iconst 0, 1) := by decide +kernel
theorem dL_law_327 : decode cL_law 327 = .ok (.ireturn, 1) := by decide +kernel
theorem dL_law_328 : decode cL_law 328 = .ok (.aload_n 1, 1) := by decide +kernel
theorem dL_law_329 : decode cL_law 329 = .ok (.aload_n 0, 1) := by decide +kernel
theorem dL_law_330 : decode cL_law 330 = .ok (.iload_n 3, 1) := by decide +kernel
theorem dL_law_331 : decode cL_law 331 = .ok (.iconst 1, 1) := by decide +kernel
theorem dL_law_332 : decode cL_law 332 = .ok (.iadd, 1) := by decide +kernel
theorem dL_law_333 : decode cL_law 333 = .ok (.iaload, 1) := by decide +kernel
theorem dL_law_334 : decode cL_law 334 = .ok (.i2l, 1) := by decide +kernel
theorem dL_law_335 : decode cL_law 335 = .ok (.bipush 32, 2) := by decide +kernel
theorem dL_law_337 : decode cL_law 337 = .ok (.lshl, 1) := by decide +kernel
theorem dL_law_338 : decode cL_law 338 = .ok (.aload_n 0, 1) := by decide +kernel
theorem dL_law_339 : decode cL_law 339 = .ok (.iload_n 3, 1) := by decide +kernel
theorem dL_law_340 : decode cL_law 340 = .ok (.iconst 2, 1) := by decide +kernel
theorem dL_law_341 : decode cL_law 341 = .ok (.iadd, 1) := by decide +kernel
theorem dL_law_342 : decode cL_law 342 = .ok (.iaload, 1) := by decide +kernel
theorem dL_law_343 : decode cL_law 343 = .ok (.i2l, 1) := by decide +kernel
theorem dL_law_344 : decode cL_law 344 = .ok (.ldc2_w 32, 3) := by decide +kernel
theorem dL_law_347 : decode cL_law 347 = .ok (.land, 1) := by decide +kernel
theorem dL_law_348 : decode cL_law 348 = .ok (.lor, 1) := by decide +kernel
theorem dL_law_349 : decode cL_law 349 = .ok (.aload_n 0, 1) := by decide +kernel
theorem dL_law_350 : decode cL_law 350 = .ok (.iload_n 3, 1) := by decide +kernel
theorem dL_law_351 : decode cL_law 351 = .ok (.iconst 3, 1) := by decide +kernel
theorem dL_law_352 : decode cL_law 352 = .ok (.iadd, 1) := by decide +kernel
theorem dL_law_353 : decode cL_law 353 = .ok (.iaload, 1) := by decide +kernel
theorem dL_law_354 : decode cL_law 354 = .ok (.invokevirtual 34, 3) := by decide +kernel
theorem dL_law_357 : decode cL_law 357 = .ok (.aload_n 2, 1) := by decide +kernel
theorem dL_law_358 : decode cL_law 358 = .ok (.aload_n 0, 1) := by decide +kernel
theorem dL_law_359 : decode cL_law 359 = .ok (.iload_n 3, 1) := by decide +kernel
theorem dL_law_360 : decode cL_law 360 = .ok (.iconst 1, 1) := by decide +kernel
theorem dL_law_361 : decode cL_law 361 = .ok (.iadd, 1) := by decide +kernel
theorem dL_law_362 : decode cL_law 362 = .ok (.iaload, 1) := by decide +kernel
theorem dL_law_363 : decode cL_law 363 = .ok (.i2l, 1) := by decide +kernel
theorem dL_law_364 : decode cL_law 364 = .ok (.bipush 32, 2) := by decide +kernel
theorem dL_law_366 : decode cL_law 366 = .ok (.lshl, 1) := by decide +kernel
theorem dL_law_367 : decode cL_law 367 = .ok (.aload_n 0, 1) := by decide +kernel
theorem dL_law_368 : decode cL_law 368 = .ok (.iload_n 3, 1) := by decide +kernel
theorem dL_law_369 : decode cL_law 369 = .ok (.iconst 2, 1) := by decide +kernel
theorem dL_law_370 : decode cL_law 370 = .ok (.iadd, 1) := by decide +kernel
theorem dL_law_371 : decode cL_law 371 = .ok (.iaload, 1) := by decide +kernel
theorem dL_law_372 : decode cL_law 372 = .ok (.i2l, 1) := by decide +kernel
theorem dL_law_373 : decode cL_law 373 = .ok (.ldc2_w 32, 3) := by decide +kernel
theorem dL_law_376 : decode cL_law 376 = .ok (.land, 1) := by decide +kernel
theorem dL_law_377 : decode cL_law 377 = .ok (.lor, 1) := by decide +kernel
theorem dL_law_378 : decode cL_law 378 = .ok (.aload_n 0, 1) := by decide +kernel
theorem dL_law_379 : decode cL_law 379 = .ok (.iload_n 3, 1) := by decide +kernel
theorem dL_law_380 : decode cL_law 380 = .ok (.iconst 3, 1) := by decide +kernel
theorem dL_law_381 : decode cL_law 381 = .ok (.iadd, 1) := by decide +kernel
theorem dL_law_382 : decode cL_law 382 = .ok (.iaload, 1) := by decide +kernel
theorem dL_law_383 : decode cL_law 383 = .ok (.invokevirtual 38, 3) := by decide +kernel
theorem dL_law_386 : decode cL_law 386 = .ok (.lcmp, 1) := by decide +kernel
theorem dL_law_387 : decode cL_law 387 = .ok (.ifCond .eq 666, 3) := by decide +kernel
theorem dL_law_390 : decode cL_law 390 = .ok (.iconst 0, 1) := by decide +kernel
theorem dL_law_391 : decode cL_law 391 = .ok (.ireturn, 1) := by decide +kernel
theorem dL_law_392 : decode cL_law 392 = .ok (.aload_n 1, 1) := by decide +kernel
theorem dL_law_393 : decode cL_law 393 = .ok (.invokevirtual 39, 3) := by decide +kernel
theorem dL_law_396 : decode cL_law 396 = .ok (.aload_n 2, 1) := by decide +kernel
theorem dL_law_397 : decode cL_law 397 = .ok (.invokevirtual 43, 3) := by decide +kernel
theorem dL_law_400 : decode cL_law 400 = .ok (.lcmp, 1) := by decide +kernel
theorem dL_law_401 : decode cL_law 401 = .ok (.ifCond .eq 652, 3) := by decide +kernel
theorem dL_law_404 : decode cL_law 404 = .ok (.iconst 0, 1) := by decide +kernel
theorem dL_law_405 : decode cL_law 405 = .ok (.ireturn, 1) := by decide +kernel
theorem dL_law_406 : decode cL_law 406 = .ok (.aload_n 1, 1) := by decide +kernel
theorem dL_law_407 : decode cL_law 407 = .ok (.invokevirtual 44, 3) := by decide +kernel
theorem dL_law_410 : decode cL_law 410 = .ok (.aload_n 2, 1) := by decide +kernel
theorem dL_law_411 : decode cL_law 411 = .ok (.invokevirtual 48, 3) := by decide +kernel
theorem dL_law_414 : decode cL_law 414 = .ok (.if_icmp .eq 639, 3) := by decide +kernel
theorem dL_law_417 : decode cL_law 417 = .ok (.iconst 0, 1) := by decide +kernel
theorem dL_law_418 : decode cL_law 418 = .ok (.ireturn, 1) := by decide +kernel
theorem dL_law_419 : decode cL_law 419 = .ok (.aload_n 1, 1) := by decide +kernel
theorem dL_law_420 : decode cL_law 420 = .ok (.aload_n 0, 1) := by decide +kernel
theorem dL_law_421 : decode cL_law 421 = .ok (.iload_n 3, 1) := by decide +kernel
theorem dL_law_422 : decode cL_law 422 = .ok (.iconst 1, 1) := by decide +kernel
theorem dL_law_423 : decode cL_law 423 = .ok (.iadd, 1) := by decide +kernel
theorem dL_law_424 : decode cL_law 424 = .ok (.iaload, 1) := by decide +kernel
theorem dL_law_425 : decode cL_law 425 = .ok (.aload_n 0, 1) := by decide +kernel
theorem dL_law_426 : decode cL_law 426 = .ok (.iload_n 3, 1) := by decide +kernel
theorem dL_law_427 : decode cL_law 427 = .ok (.iconst 2, 1) := by decide +kernel
theorem dL_law_428 : decode cL_law 428 = .ok (.iadd, 1) := by decide +kernel
theorem dL_law_429 : decode cL_law 429 = .ok (.iaload, 1) := by decide +kernel
theorem dL_law_430 : decode cL_law 430 = .ok (.i2l, 1) := by decide +kernel
theorem dL_law_431 : decode cL_law 431 = .ok (.bipush 32, 2) := by decide +kernel
theorem dL_law_433 : decode cL_law 433 = .ok (.lshl, 1) := by decide +kernel
theorem dL_law_434 : decode cL_law 434 = .ok (.aload_n 0, 1) := by decide +kernel
theorem dL_law_435 : decode cL_law 435 = .ok (.iload_n 3, 1) := by decide +kernel
theorem dL_law_436 : decode cL_law 436 = .ok (.iconst 3, 1) := by decide +kernel
theorem dL_law_437 : decode cL_law 437 = .ok (.iadd, 1) := by decide +kernel
theorem dL_law_438 : decode cL_law 438 = .ok (.iaload, 1) := by decide +kernel
theorem dL_law_439 : decode cL_law 439 = .ok (.i2l, 1) := by decide +kernel
theorem dL_law_440 : decode cL_law 440 = .ok (.ldc2_w 32, 3) := by decide +kernel
theorem dL_law_443 : decode cL_law 443 = .ok (.land, 1) := by decide +kernel
theorem dL_law_444 : decode cL_law 444 = .ok (.lor, 1) := by decide +kernel
theorem dL_law_445 : decode cL_law 445 = .ok (.invokevirtual 49, 3) := by decide +kernel
theorem dL_law_448 : decode cL_law 448 = .ok (.aload_n 2, 1) := by decide +kernel
theorem dL_law_449 : decode cL_law 449 = .ok (.aload_n 0, 1) := by decide +kernel
theorem dL_law_450 : decode cL_law 450 = .ok (.iload_n 3, 1) := by decide +kernel
theorem dL_law_451 : decode cL_law 451 = .ok (.iconst 1, 1) := by decide +kernel
theorem dL_law_452 : decode cL_law 452 = .ok (.iadd, 1) := by decide +kernel
theorem dL_law_453 : decode cL_law 453 = .ok (.iaload, 1) := by decide +kernel
theorem dL_law_454 : decode cL_law 454 = .ok (.aload_n 0, 1) := by decide +kernel
theorem dL_law_455 : decode cL_law 455 = .ok (.iload_n 3, 1) := by decide +kernel
theorem dL_law_456 : decode cL_law 456 = .ok (.iconst 2, 1) := by decide +kernel
theorem dL_law_457 : decode cL_law 457 = .ok (.iadd, 1) := by decide +kernel
theorem dL_law_458 : decode cL_law 458 = .ok (.iaload, 1) := by decide +kernel
theorem dL_law_459 : decode cL_law 459 = .ok (.i2l, 1) := by decide +kernel
theorem dL_law_460 : decode cL_law 460 = .ok (.bipush 32, 2) := by decide +kernel
theorem dL_law_462 : decode cL_law 462 = .ok (.lshl, 1) := by decide +kernel
theorem dL_law_463 : decode cL_law 463 = .ok (.aload_n 0, 1) := by decide +kernel
theorem dL_law_464 : decode cL_law 464 = .ok (.iload_n 3, 1) := by decide +kernel
theorem dL_law_465 : decode cL_law 465 = .ok (.iconst 3, 1) := by decide +kernel
theorem dL_law_466 : decode cL_law 466 = .ok (.iadd, 1) := by decide +kernel
theorem dL_law_467 : decode cL_law 467 = .ok (.iaload, 1) := by decide +kernel
theorem dL_law_468 : decode cL_law 468 = .ok (.i2l, 1) := by decide +kernel
theorem dL_law_469 : decode cL_law 469 = .ok (.ldc2_w 32, 3) := by decide +kernel
theorem dL_law_472 : decode cL_law 472 = .ok (.land, 1) := by decide +kernel
theorem dL_law_473 : decode cL_law 473 = .ok (.lor, 1) := by decide +kernel
theorem dL_law_474 : decode cL_law 474 = .ok (.invokevirtual 53, 3) := by decide +kernel
theorem dL_law_477 : decode cL_law 477 = .ok (.lcmp, 1) := by decide +kernel
theorem dL_law_478 : decode cL_law 478 = .ok (.ifCond .eq 575, 3) := by decide +kernel
theorem dL_law_481 : decode cL_law 481 = .ok (.iconst 0, 1) := by decide +kernel
theorem dL_law_482 : decode cL_law 482 = .ok (.ireturn, 1) := by decide +kernel
theorem dL_law_483 : decode cL_law 483 = .ok (.aload_n 1, 1) := by decide +kernel
theorem dL_law_484 : decode cL_law 484 = .ok (.aload_n 0, 1) := by decide +kernel
theorem dL_law_485 : decode cL_law 485 = .ok (.iload_n 3, 1) := by decide +kernel
theorem dL_law_486 : decode cL_law 486 = .ok (.iconst 1, 1) := by decide +kernel
theorem dL_law_487 : decode cL_law 487 = .ok (.iadd, 1) := by decide +kernel
theorem dL_law_488 : decode cL_law 488 = .ok (.iaload, 1) := by decide +kernel
theorem dL_law_489 : decode cL_law 489 = .ok (.aload_n 0, 1) := by decide +kernel
theorem dL_law_490 : decode cL_law 490 = .ok (.iload_n 3, 1) := by decide +kernel
theorem dL_law_491 : decode cL_law 491 = .ok (.iconst 2, 1) := by decide +kernel
theorem dL_law_492 : decode cL_law 492 = .ok (.iadd, 1) := by decide +kernel
theorem dL_law_493 : decode cL_law 493 = .ok (.iaload, 1) := by decide +kernel
theorem dL_law_494 : decode cL_law 494 = .ok (.aload_n 0, 1) := by decide +kernel
theorem dL_law_495 : decode cL_law 495 = .ok (.iload_n 3, 1) := by decide +kernel
theorem dL_law_496 : decode cL_law 496 = .ok (.iconst 3, 1) := by decide +kernel
theorem dL_law_497 : decode cL_law 497 = .ok (.iadd, 1) := by decide +kernel
theorem dL_law_498 : decode cL_law 498 = .ok (.iaload, 1) := by decide +kernel
theorem dL_law_499 : decode cL_law 499 = .ok (.aload_n 0, 1) := by decide +kernel
theorem dL_law_500 : decode cL_law 500 = .ok (.iload_n 3, 1) := by decide +kernel
theorem dL_law_501 : decode cL_law 501 = .ok (.iconst 4, 1) := by decide +kernel
theorem dL_law_502 : decode cL_law 502 = .ok (.iadd, 1) := by decide +kernel
theorem dL_law_503 : decode cL_law 503 = .ok (.iaload, 1) := by decide +kernel
theorem dL_law_504 : decode cL_law 504 = .ok (.invokevirtual 54, 3) := by decide +kernel
theorem dL_law_507 : decode cL_law 507 = .ok (.aload_n 2, 1) := by decide +kernel
theorem dL_law_508 : decode cL_law 508 = .ok (.aload_n 0, 1) := by decide +kernel
theorem dL_law_509 : decode cL_law 509 = .ok (.iload_n 3, 1) := by decide +kernel
theorem dL_law_510 : decode cL_law 510 = .ok (.iconst 1, 1) := by decide +kernel
theorem dL_law_511 : decode cL_law 511 = .ok (.iadd, 1) := by decide +kernel
theorem dL_law_512 : decode cL_law 512 = .ok (.iaload, 1) := by decide +kernel
theorem dL_law_513 : decode cL_law 513 = .ok (.aload_n 0, 1) := by decide +kernel
theorem dL_law_514 : decode cL_law 514 = .ok (.iload_n 3, 1) := by decide +kernel
theorem dL_law_515 : decode cL_law 515 = .ok (.iconst 2, 1) := by decide +kernel
theorem dL_law_516 : decode cL_law 516 = .ok (.iadd, 1) := by decide +kernel
theorem dL_law_517 : decode cL_law 517 = .ok (.iaload, 1) := by decide +kernel
theorem dL_law_518 : decode cL_law 518 = .ok (.aload_n 0, 1) := by decide +kernel
theorem dL_law_519 : decode cL_law 519 = .ok (.iload_n 3, 1) := by decide +kernel
theorem dL_law_520 : decode cL_law 520 = .ok (.iconst 3, 1) := by decide +kernel
theorem dL_law_521 : decode cL_law 521 = .ok (.iadd, 1) := by decide +kernel
theorem dL_law_522 : decode cL_law 522 = .ok (.iaload, 1) := by decide +kernel
theorem dL_law_523 : decode cL_law 523 = .ok (.aload_n 0, 1) := by decide +kernel
theorem dL_law_524 : decode cL_law 524 = .ok (.iload_n 3, 1) := by decide +kernel
theorem dL_law_525 : decode cL_law 525 = .ok (.iconst 4, 1) := by decide +kernel
theorem dL_law_526 : decode cL_law 526 = .ok (.iadd, 1) := by decide +kernel
theorem dL_law_527 : decode cL_law 527 = .ok (.iaload, 1) := by decide +kernel
theorem dL_law_528 : decode cL_law 528 = .ok (.invokevirtual 58, 3) := by decide +kernel
theorem dL_law_531 : decode cL_law 531 = .ok (.lcmp, 1) := by decide +kernel
theorem dL_law_532 : decode cL_law 532 = .ok (.ifCond .eq 521, 3) := by decide +kernel
theorem dL_law_535 : decode cL_law 535 = .ok (.iconst 0, 1) := by decide +kernel
theorem dL_law_536 : decode cL_law 536 = .ok (.ireturn, 1) := by decide +kernel
theorem dL_law_537 : decode cL_law 537 = .ok (.aload_n 1, 1) := by decide +kernel
theorem dL_law_538 : decode cL_law 538 = .ok (.aload_n 0, 1) := by decide +kernel
theorem dL_law_539 : decode cL_law 539 = .ok (.iload_n 3, 1) := by decide +kernel
theorem dL_law_540 : decode cL_law 540 = .ok (.iconst 1, 1) := by decide +kernel
theorem dL_law_541 : decode cL_law 541 = .ok (.iadd, 1) := by decide +kernel
theorem dL_law_542 : decode cL_law 542 = .ok (.iaload, 1) := by decide +kernel
theorem dL_law_543 : decode cL_law 543 = .ok (.invokevirtual 59, 3) := by decide +kernel
theorem dL_law_546 : decode cL_law 546 = .ok (.aload_n 2, 1) := by decide +kernel
theorem dL_law_547 : decode cL_law 547 = .ok (.aload_n 0, 1) := by decide +kernel
theorem dL_law_548 : decode cL_law 548 = .ok (.iload_n 3, 1) := by decide +kernel
theorem dL_law_549 : decode cL_law 549 = .ok (.iconst 1, 1) := by decide +kernel
theorem dL_law_550 : decode cL_law 550 = .ok (.iadd, 1) := by decide +kernel
theorem dL_law_551 : decode cL_law 551 = .ok (.iaload, 1) := by decide +kernel
theorem dL_law_552 : decode cL_law 552 = .ok (.invokevirtual 62, 3) := by decide +kernel
theorem dL_law_555 : decode cL_law 555 = .ok (.lcmp, 1) := by decide +kernel
theorem dL_law_556 : decode cL_law 556 = .ok (.ifCond .eq 497, 3) := by decide +kernel
theorem dL_law_559 : decode cL_law 559 = .ok (.iconst 0, 1) := by decide +kernel
theorem dL_law_560 : decode cL_law 560 = .ok (.ireturn, 1) := by decide +kernel
theorem dL_law_561 : decode cL_law 561 = .ok (.aload_n 1, 1) := by decide +kernel
theorem dL_law_562 : decode cL_law 562 = .ok (.aload_n 0, 1) := by decide +kernel
theorem dL_law_563 : decode cL_law 563 = .ok (.iload_n 3, 1) := by decide +kernel
theorem dL_law_564 : decode cL_law 564 = .ok (.iconst 1, 1) := by decide +kernel
theorem dL_law_565 : decode cL_law 565 = .ok (.iadd, 1) := by decide +kernel
theorem dL_law_566 : decode cL_law 566 = .ok (.iaload, 1) := by decide +kernel
theorem dL_law_567 : decode cL_law 567 = .ok (.aload_n 0, 1) := by decide +kernel
theorem dL_law_568 : decode cL_law 568 = .ok (.iload_n 3, 1) := by decide +kernel
theorem dL_law_569 : decode cL_law 569 = .ok (.iconst 2, 1) := by decide +kernel
theorem dL_law_570 : decode cL_law 570 = .ok (.iadd, 1) := by decide +kernel
theorem dL_law_571 : decode cL_law 571 = .ok (.iaload, 1) := by decide +kernel
theorem dL_law_572 : decode cL_law 572 = .ok (.invokevirtual 63, 3) := by decide +kernel
theorem dL_law_575 : decode cL_law 575 = .ok (.aload_n 2, 1) := by decide +kernel
theorem dL_law_576 : decode cL_law 576 = .ok (.aload_n 0, 1) := by decide +kernel
theorem dL_law_577 : decode cL_law 577 = .ok (.iload_n 3, 1) := by decide +kernel
theorem dL_law_578 : decode cL_law 578 = .ok (.iconst 1, 1) := by decide +kernel
theorem dL_law_579 : decode cL_law 579 = .ok (.iadd, 1) := by decide +kernel
theorem dL_law_580 : decode cL_law 580 = .ok (.iaload, 1) := by decide +kernel
theorem dL_law_581 : decode cL_law 581 = .ok (.aload_n 0, 1) := by decide +kernel
theorem dL_law_582 : decode cL_law 582 = .ok (.iload_n 3, 1) := by decide +kernel
theorem dL_law_583 : decode cL_law 583 = .ok (.iconst 2, 1) := by decide +kernel
theorem dL_law_584 : decode cL_law 584 = .ok (.iadd, 1) := by decide +kernel
theorem dL_law_585 : decode cL_law 585 = .ok (.iaload, 1) := by decide +kernel
theorem dL_law_586 : decode cL_law 586 = .ok (.invokevirtual 67, 3) := by decide +kernel
theorem dL_law_589 : decode cL_law 589 = .ok (.lcmp, 1) := by decide +kernel
theorem dL_law_590 : decode cL_law 590 = .ok (.ifCond .eq 463, 3) := by decide +kernel
theorem dL_law_593 : decode cL_law 593 = .ok (.iconst 0, 1) := by decide +kernel
theorem dL_law_594 : decode cL_law 594 = .ok (.ireturn, 1) := by decide +kernel
theorem dL_law_595 : decode cL_law 595 = .ok (.aload_n 1, 1) := by decide +kernel
theorem dL_law_596 : decode cL_law 596 = .ok (.aload_n 0, 1) := by decide +kernel
theorem dL_law_597 : decode cL_law 597 = .ok (.iload_n 3, 1) := by decide +kernel
theorem dL_law_598 : decode cL_law 598 = .ok (.iconst 1, 1) := by decide +kernel
theorem dL_law_599 : decode cL_law 599 = .ok (.iadd, 1) := by decide +kernel
theorem dL_law_600 : decode cL_law 600 = .ok (.iaload, 1) := by decide +kernel
theorem dL_law_601 : decode cL_law 601 = .ok (.aload_n 0, 1) := by decide +kernel
theorem dL_law_602 : decode cL_law 602 = .ok (.iload_n 3, 1) := by decide +kernel
theorem dL_law_603 : decode cL_law 603 = .ok (.iconst 2, 1) := by decide +kernel
theorem dL_law_604 : decode cL_law 604 = .ok (.iadd, 1) := by decide +kernel
theorem dL_law_605 : decode cL_law 605 = .ok (.iaload, 1) := by decide +kernel
theorem dL_law_606 : decode cL_law 606 = .ok (.aload_n 0, 1) := by decide +kernel
theorem dL_law_607 : decode cL_law 607 = .ok (.iload_n 3, 1) := by decide +kernel
theorem dL_law_608 : decode cL_law 608 = .ok (.iconst 3, 1) := by decide +kernel
theorem dL_law_609 : decode cL_law 609 = .ok (.iadd, 1) := by decide +kernel
theorem dL_law_610 : decode cL_law 610 = .ok (.iaload, 1) := by decide +kernel
theorem dL_law_611 : decode cL_law 611 = .ok (.invokevirtual 68, 3) := by decide +kernel
theorem dL_law_614 : decode cL_law 614 = .ok (.aload_n 2, 1) := by decide +kernel
theorem dL_law_615 : decode cL_law 615 = .ok (.aload_n 0, 1) := by decide +kernel
theorem dL_law_616 : decode cL_law 616 = .ok (.iload_n 3, 1) := by decide +kernel
theorem dL_law_617 : decode cL_law 617 = .ok (.iconst 1, 1) := by decide +kernel
theorem dL_law_618 : decode cL_law 618 = .ok (.iadd, 1) := by decide +kernel
theorem dL_law_619 : decode cL_law 619 = .ok (.iaload, 1) := by decide +kernel
theorem dL_law_620 : decode cL_law 620 = .ok (.aload_n 0, 1) := by decide +kernel
theorem dL_law_621 : decode cL_law 621 = .ok (.iload_n 3, 1) := by decide +kernel
theorem dL_law_622 : decode cL_law 622 = .ok (.iconst 2, 1) := by decide +kernel
theorem dL_law_623 : decode cL_law 623 = .ok (.iadd, 1) := by decide +kernel
theorem dL_law_624 : decode cL_law 624 = .ok (.iaload, 1) := by decide +kernel
theorem dL_law_625 : decode cL_law 625 = .ok (.aload_n 0, 1) := by decide +kernel
theorem dL_law_626 : decode cL_law 626 = .ok (.iload_n 3, 1) := by decide +kernel
theorem dL_law_627 : decode cL_law 627 = .ok (.iconst 3, 1) := by decide +kernel
theorem dL_law_628 : decode cL_law 628 = .ok (.iadd, 1) := by decide +kernel
theorem dL_law_629 : decode cL_law 629 = .ok (.iaload, 1) := by decide +kernel
theorem dL_law_630 : decode cL_law 630 = .ok (.invokevirtual 71, 3) := by decide +kernel
theorem dL_law_633 : decode cL_law 633 = .ok (.lcmp, 1) := by decide +kernel
theorem dL_law_634 : decode cL_law 634 = .ok (.ifCond .eq 419, 3) := by decide +kernel
theorem dL_law_637 : decode cL_law 637 = .ok (.iconst 0, 1) := by decide +kernel
theorem dL_law_638 : decode cL_law 638 = .ok (.ireturn, 1) := by decide +kernel
theorem dL_law_639 : decode cL_law 639 = .ok (.aload_n 1, 1) := by decide +kernel
theorem dL_law_640 : decode cL_law 640 = .ok (.aload_n 0, 1) := by decide +kernel
theorem dL_law_641 : decode cL_law 641 = .ok (.iload_n 3, 1) := by decide +kernel
theorem dL_law_642 : decode cL_law 642 = .ok (.iconst 1, 1) := by decide +kernel
theorem dL_law_643 : decode cL_law 643 = .ok (.iadd, 1) := by decide +kernel
theorem dL_law_644 : decode cL_law 644 = .ok (.iaload, 1) := by decide +kernel
theorem dL_law_645 : decode cL_law 645 = .ok (.aload_n 0, 1) := by decide +kernel
theorem dL_law_646 : decode cL_law 646 = .ok (.iload_n 3, 1) := by decide +kernel
theorem dL_law_647 : decode cL_law 647 = .ok (.iconst 2, 1) := by decide +kernel
theorem dL_law_648 : decode cL_law 648 = .ok (.iadd, 1) := by decide +kernel
theorem dL_law_649 : decode cL_law 649 = .ok (.iaload, 1) := by decide +kernel
theorem dL_law_650 : decode cL_law 650 = .ok (.invokevirtual 72, 3) := by decide +kernel
theorem dL_law_653 : decode cL_law 653 = .ok (.aload_n 2, 1) := by decide +kernel
theorem dL_law_654 : decode cL_law 654 = .ok (.aload_n 0, 1) := by decide +kernel
theorem dL_law_655 : decode cL_law 655 = .ok (.iload_n 3, 1) := by decide +kernel
theorem dL_law_656 : decode cL_law 656 = .ok (.iconst 1, 1) := by decide +kernel
theorem dL_law_657 : decode cL_law 657 = .ok (.iadd, 1) := by decide +kernel
theorem dL_law_658 : decode cL_law 658 = .ok (.iaload, 1) := by decide +kernel
theorem dL_law_659 : decode cL_law 659 = .ok (.aload_n 0, 1) := by decide +kernel
theorem dL_law_660 : decode cL_law 660 = .ok (.iload_n 3, 1) := by decide +kernel
theorem dL_law_661 : decode cL_law 661 = .ok (.iconst 2, 1) := by decide +kernel
theorem dL_law_662 : decode cL_law 662 = .ok (.iadd, 1) := by decide +kernel
theorem dL_law_663 : decode cL_law 663 = .ok (.iaload, 1) := by decide +kernel
theorem dL_law_664 : decode cL_law 664 = .ok (.invokevirtual 75, 3) := by decide +kernel
theorem dL_law_667 : decode cL_law 667 = .ok (.lcmp, 1) := by decide +kernel
theorem dL_law_668 : decode cL_law 668 = .ok (.ifCond .eq 385, 3) := by decide +kernel
theorem dL_law_671 : decode cL_law 671 = .ok (.iconst 0, 1) := by decide +kernel
theorem dL_law_672 : decode cL_law 672 = .ok (.ireturn, 1) := by decide +kernel
theorem dL_law_673 : decode cL_law 673 = .ok (.aload_n 1, 1) := by decide +kernel
theorem dL_law_674 : decode cL_law 674 = .ok (.aload_n 0, 1) := by decide +kernel
theorem dL_law_675 : decode cL_law 675 = .ok (.iload_n 3, 1) := by decide +kernel
theorem dL_law_676 : decode cL_law 676 = .ok (.iconst 1, 1) := by decide +kernel
theorem dL_law_677 : decode cL_law 677 = .ok (.iadd, 1) := by decide +kernel
theorem dL_law_678 : decode cL_law 678 = .ok (.iaload, 1) := by decide +kernel
theorem dL_law_679 : decode cL_law 679 = .ok (.aload_n 0, 1) := by decide +kernel
theorem dL_law_680 : decode cL_law 680 = .ok (.iload_n 3, 1) := by decide +kernel
theorem dL_law_681 : decode cL_law 681 = .ok (.iconst 2, 1) := by decide +kernel
theorem dL_law_682 : decode cL_law 682 = .ok (.iadd, 1) := by decide +kernel
theorem dL_law_683 : decode cL_law 683 = .ok (.iaload, 1) := by decide +kernel
theorem dL_law_684 : decode cL_law 684 = .ok (.aload_n 0, 1) := by decide +kernel
theorem dL_law_685 : decode cL_law 685 = .ok (.iload_n 3, 1) := by decide +kernel
theorem dL_law_686 : decode cL_law 686 = .ok (.iconst 3, 1) := by decide +kernel
theorem dL_law_687 : decode cL_law 687 = .ok (.iadd, 1) := by decide +kernel
theorem dL_law_688 : decode cL_law 688 = .ok (.iaload, 1) := by decide +kernel
theorem dL_law_689 : decode cL_law 689 = .ok (.aload_n 0, 1) := by decide +kernel
theorem dL_law_690 : decode cL_law 690 = .ok (.iload_n 3, 1) := by decide +kernel
theorem dL_law_691 : decode cL_law 691 = .ok (.iconst 4, 1) := by decide +kernel
theorem dL_law_692 : decode cL_law 692 = .ok (.iadd, 1) := by decide +kernel
theorem dL_law_693 : decode cL_law 693 = .ok (.iaload, 1) := by decide +kernel
theorem dL_law_694 : decode cL_law 694 = .ok (.invokevirtual 76, 3) := by decide +kernel
theorem dL_law_697 : decode cL_law 697 = .ok (.aload_n 2, 1) := by decide +kernel
theorem dL_law_698 : decode cL_law 698 = .ok (.aload_n 0, 1) := by decide +kernel
theorem dL_law_699 : decode cL_law 699 = .ok (.iload_n 3, 1) := by decide +kernel
theorem dL_law_700 : decode cL_law 700 = .ok (.iconst 1, 1) := by decide +kernel
theorem dL_law_701 : decode cL_law 701 = .ok (.iadd, 1) := by decide +kernel
theorem dL_law_702 : decode cL_law 702 = .ok (.iaload, 1) := by decide +kernel
theorem dL_law_703 : decode cL_law 703 = .ok (.aload_n 0, 1) := by decide +kernel
theorem dL_law_704 : decode cL_law 704 = .ok (.iload_n 3, 1) := by decide +kernel
theorem dL_law_705 : decode cL_law 705 = .ok (.iconst 2, 1) := by decide +kernel
theorem dL_law_706 : decode cL_law 706 = .ok (.iadd, 1) := by decide +kernel
theorem dL_law_707 : decode cL_law 707 = .ok (.iaload, 1) := by decide +kernel
theorem dL_law_708 : decode cL_law 708 = .ok (.aload_n 0, 1) := by decide +kernel
theorem dL_law_709 : decode cL_law 709 = .ok (.iload_n 3, 1) := by decide +kernel
theorem dL_law_710 : decode cL_law 710 = .ok (.iconst 3, 1) := by decide +kernel
theorem dL_law_711 : decode cL_law 711 = .ok (.iadd, 1) := by decide +kernel
theorem dL_law_712 : decode cL_law 712 = .ok (.iaload, 1) := by decide +kernel
theorem dL_law_713 : decode cL_law 713 = .ok (.aload_n 0, 1) := by decide +kernel
theorem dL_law_714 : decode cL_law 714 = .ok (.iload_n 3, 1) := by decide +kernel
theorem dL_law_715 : decode cL_law 715 = .ok (.iconst 4, 1) := by decide +kernel
theorem dL_law_716 : decode cL_law 716 = .ok (.iadd, 1) := by decide +kernel
theorem dL_law_717 : decode cL_law 717 = .ok (.iaload, 1) := by decide +kernel
theorem dL_law_718 : decode cL_law 718 = .ok (.invokevirtual 79, 3) := by decide +kernel
theorem dL_law_721 : decode cL_law 721 = .ok (.lcmp, 1) := by decide +kernel
theorem dL_law_722 : decode cL_law 722 = .ok (.ifCond .eq 331, 3) := by decide +kernel
theorem dL_law_725 : decode cL_law 725 = .ok (.iconst 0, 1) := by decide +kernel
theorem dL_law_726 : decode cL_law 726 = .ok (.ireturn, 1) := by decide +kernel
theorem dL_law_727 : decode cL_law 727 = .ok (.aload_n 1, 1) := by decide +kernel
theorem dL_law_728 : decode cL_law 728 = .ok (.aload_n 0, 1) := by decide +kernel
theorem dL_law_729 : decode cL_law 729 = .ok (.iload_n 3, 1) := by decide +kernel
theorem dL_law_730 : decode cL_law 730 = .ok (.iconst 1, 1) := by decide +kernel
theorem dL_law_731 : decode cL_law 731 = .ok (.iadd, 1) := by decide +kernel
theorem dL_law_732 : decode cL_law 732 = .ok (.iaload, 1) := by decide +kernel
theorem dL_law_733 : decode cL_law 733 = .ok (.aload_n 0, 1) := by decide +kernel
theorem dL_law_734 : decode cL_law 734 = .ok (.iload_n 3, 1) := by decide +kernel
theorem dL_law_735 : decode cL_law 735 = .ok (.iconst 2, 1) := by decide +kernel
theorem dL_law_736 : decode cL_law 736 = .ok (.iadd, 1) := by decide +kernel
theorem dL_law_737 : decode cL_law 737 = .ok (.iaload, 1) := by decide +kernel
theorem dL_law_738 : decode cL_law 738 = .ok (.invokevirtual 80, 3) := by decide +kernel
theorem dL_law_741 : decode cL_law 741 = .ok (.aload_n 2, 1) := by decide +kernel
theorem dL_law_742 : decode cL_law 742 = .ok (.aload_n 0, 1) := by decide +kernel
theorem dL_law_743 : decode cL_law 743 = .ok (.iload_n 3, 1) := by decide +kernel
theorem dL_law_744 : decode cL_law 744 = .ok (.iconst 1, 1) := by decide +kernel
theorem dL_law_745 : decode cL_law 745 = .ok (.iadd, 1) := by decide +kernel
theorem dL_law_746 : decode cL_law 746 = .ok (.iaload, 1) := by decide +kernel
theorem dL_law_747 : decode cL_law 747 = .ok (.aload_n 0, 1) := by decide +kernel
theorem dL_law_748 : decode cL_law 748 = .ok (.iload_n 3, 1) := by decide +kernel
theorem dL_law_749 : decode cL_law 749 = .ok (.iconst 2, 1) := by decide +kernel
theorem dL_law_750 : decode cL_law 750 = .ok (.iadd, 1) := by decide +kernel
theorem dL_law_751 : decode cL_law 751 = .ok (.iaload, 1) := by decide +kernel
theorem dL_law_752 : decode cL_law 752 = .ok (.invokevirtual 83, 3) := by decide +kernel
theorem dL_law_755 : decode cL_law 755 = .ok (.lcmp, 1) := by decide +kernel
theorem dL_law_756 : decode cL_law 756 = .ok (.ifCond .eq 297, 3) := by decide +kernel
theorem dL_law_759 : decode cL_law 759 = .ok (.iconst 0, 1) := by decide +kernel
theorem dL_law_760 : decode cL_law 760 = .ok (.ireturn, 1) := by decide +kernel
theorem dL_law_761 : decode cL_law 761 = .ok (.aload_n 1, 1) := by decide +kernel
theorem dL_law_762 : decode cL_law 762 = .ok (.aload_n 0, 1) := by decide +kernel
theorem dL_law_763 : decode cL_law 763 = .ok (.iload_n 3, 1) := by decide +kernel
theorem dL_law_764 : decode cL_law 764 = .ok (.iconst 1, 1) := by decide +kernel
theorem dL_law_765 : decode cL_law 765 = .ok (.iadd, 1) := by decide +kernel
theorem dL_law_766 : decode cL_law 766 = .ok (.iaload, 1) := by decide +kernel
theorem dL_law_767 : decode cL_law 767 = .ok (.aload_n 0, 1) := by decide +kernel
theorem dL_law_768 : decode cL_law 768 = .ok (.iload_n 3, 1) := by decide +kernel
theorem dL_law_769 : decode cL_law 769 = .ok (.iconst 2, 1) := by decide +kernel
theorem dL_law_770 : decode cL_law 770 = .ok (.iadd, 1) := by decide +kernel
theorem dL_law_771 : decode cL_law 771 = .ok (.iaload, 1) := by decide +kernel
theorem dL_law_772 : decode cL_law 772 = .ok (.invokevirtual 84, 3) := by decide +kernel
theorem dL_law_775 : decode cL_law 775 = .ok (.aload_n 2, 1) := by decide +kernel
theorem dL_law_776 : decode cL_law 776 = .ok (.aload_n 0, 1) := by decide +kernel
theorem dL_law_777 : decode cL_law 777 = .ok (.iload_n 3, 1) := by decide +kernel
theorem dL_law_778 : decode cL_law 778 = .ok (.iconst 1, 1) := by decide +kernel
theorem dL_law_779 : decode cL_law 779 = .ok (.iadd, 1) := by decide +kernel
theorem dL_law_780 : decode cL_law 780 = .ok (.iaload, 1) := by decide +kernel
theorem dL_law_781 : decode cL_law 781 = .ok (.aload_n 0, 1) := by decide +kernel
theorem dL_law_782 : decode cL_law 782 = .ok (.iload_n 3, 1) := by decide +kernel
theorem dL_law_783 : decode cL_law 783 = .ok (.iconst 2, 1) := by decide +kernel
theorem dL_law_784 : decode cL_law 784 = .ok (.iadd, 1) := by decide +kernel
theorem dL_law_785 : decode cL_law 785 = .ok (.iaload, 1) := by decide +kernel
theorem dL_law_786 : decode cL_law 786 = .ok (.invokevirtual 87, 3) := by decide +kernel
theorem dL_law_789 : decode cL_law 789 = .ok (.lcmp, 1) := by decide +kernel
theorem dL_law_790 : decode cL_law 790 = .ok (.ifCond .eq 263, 3) := by decide +kernel
theorem dL_law_793 : decode cL_law 793 = .ok (.iconst 0, 1) := by decide +kernel
theorem dL_law_794 : decode cL_law 794 = .ok (.ireturn, 1) := by decide +kernel
theorem dL_law_795 : decode cL_law 795 = .ok (.aload_n 1, 1) := by decide +kernel
theorem dL_law_796 : decode cL_law 796 = .ok (.aload_n 0, 1) := by decide +kernel
theorem dL_law_797 : decode cL_law 797 = .ok (.iload_n 3, 1) := by decide +kernel
theorem dL_law_798 : decode cL_law 798 = .ok (.iconst 1, 1) := by decide +kernel
theorem dL_law_799 : decode cL_law 799 = .ok (.iadd, 1) := by decide +kernel
theorem dL_law_800 : decode cL_law 800 = .ok (.iaload, 1) := by decide +kernel
theorem dL_law_801 : decode cL_law 801 = .ok (.aload_n 0, 1) := by decide +kernel
theorem dL_law_802 : decode cL_law 802 = .ok (.iload_n 3, 1) := by decide +kernel
theorem dL_law_803 : decode cL_law 803 = .ok (.iconst 2, 1) := by decide +kernel
theorem dL_law_804 : decode cL_law 804 = .ok (.iadd, 1) := by decide +kernel
theorem dL_law_805 : decode cL_law 805 = .ok (.iaload, 1) := by decide +kernel
theorem dL_law_806 : decode cL_law 806 = .ok (.invokevirtual 88, 3) := by decide +kernel
theorem dL_law_809 : decode cL_law 809 = .ok (.aload_n 2, 1) := by decide +kernel
theorem dL_law_810 : decode cL_law 810 = .ok (.aload_n 0, 1) := by decide +kernel
theorem dL_law_811 : decode cL_law 811 = .ok (.iload_n 3, 1) := by decide +kernel
theorem dL_law_812 : decode cL_law 812 = .ok (.iconst 1, 1) := by decide +kernel
theorem dL_law_813 : decode cL_law 813 = .ok (.iadd, 1) := by decide +kernel
theorem dL_law_814 : decode cL_law 814 = .ok (.iaload, 1) := by decide +kernel
theorem dL_law_815 : decode cL_law 815 = .ok (.aload_n 0, 1) := by decide +kernel
theorem dL_law_816 : decode cL_law 816 = .ok (.iload_n 3, 1) := by decide +kernel
theorem dL_law_817 : decode cL_law 817 = .ok (.iconst 2, 1) := by decide +kernel
theorem dL_law_818 : decode cL_law 818 = .ok (.iadd, 1) := by decide +kernel
theorem dL_law_819 : decode cL_law 819 = .ok (.iaload, 1) := by decide +kernel
theorem dL_law_820 : decode cL_law 820 = .ok (.invokevirtual 91, 3) := by decide +kernel
theorem dL_law_823 : decode cL_law 823 = .ok (.lcmp, 1) := by decide +kernel
theorem dL_law_824 : decode cL_law 824 = .ok (.ifCond .eq 229, 3) := by decide +kernel
theorem dL_law_827 : decode cL_law 827 = .ok (.iconst 0, 1) := by decide +kernel
theorem dL_law_828 : decode cL_law 828 = .ok (.ireturn, 1) := by decide +kernel
theorem dL_law_829 : decode cL_law 829 = .ok (.aload_n 1, 1) := by decide +kernel
theorem dL_law_830 : decode cL_law 830 = .ok (.aload_n 0, 1) := by decide +kernel
theorem dL_law_831 : decode cL_law 831 = .ok (.iload_n 3, 1) := by decide +kernel
theorem dL_law_832 : decode cL_law 832 = .ok (.iconst 1, 1) := by decide +kernel
theorem dL_law_833 : decode cL_law 833 = .ok (.iadd, 1) := by decide +kernel
theorem dL_law_834 : decode cL_law 834 = .ok (.iaload, 1) := by decide +kernel
theorem dL_law_835 : decode cL_law 835 = .ok (.invokevirtual 92, 3) := by decide +kernel
theorem dL_law_838 : decode cL_law 838 = .ok (.aload_n 2, 1) := by decide +kernel
theorem dL_law_839 : decode cL_law 839 = .ok (.aload_n 0, 1) := by decide +kernel
theorem dL_law_840 : decode cL_law 840 = .ok (.iload_n 3, 1) := by decide +kernel
theorem dL_law_841 : decode cL_law 841 = .ok (.iconst 1, 1) := by decide +kernel
theorem dL_law_842 : decode cL_law 842 = .ok (.iadd, 1) := by decide +kernel
theorem dL_law_843 : decode cL_law 843 = .ok (.iaload, 1) := by decide +kernel
theorem dL_law_844 : decode cL_law 844 = .ok (.invokevirtual 95, 3) := by decide +kernel
theorem dL_law_847 : decode cL_law 847 = .ok (.lcmp, 1) := by decide +kernel
theorem dL_law_848 : decode cL_law 848 = .ok (.ifCond .eq 205, 3) := by decide +kernel
theorem dL_law_851 : decode cL_law 851 = .ok (.iconst 0, 1) := by decide +kernel
theorem dL_law_852 : decode cL_law 852 = .ok (.ireturn, 1) := by decide +kernel
theorem dL_law_853 : decode cL_law 853 = .ok (.aload_n 1, 1) := by decide +kernel
theorem dL_law_854 : decode cL_law 854 = .ok (.aload_n 0, 1) := by decide +kernel
theorem dL_law_855 : decode cL_law 855 = .ok (.iload_n 3, 1) := by decide +kernel
theorem dL_law_856 : decode cL_law 856 = .ok (.iconst 1, 1) := by decide +kernel
theorem dL_law_857 : decode cL_law 857 = .ok (.iadd, 1) := by decide +kernel
theorem dL_law_858 : decode cL_law 858 = .ok (.iaload, 1) := by decide +kernel
theorem dL_law_859 : decode cL_law 859 = .ok (.invokevirtual 96, 3) := by decide +kernel
theorem dL_law_862 : decode cL_law 862 = .ok (.aload_n 2, 1) := by decide +kernel
theorem dL_law_863 : decode cL_law 863 = .ok (.aload_n 0, 1) := by decide +kernel
theorem dL_law_864 : decode cL_law 864 = .ok (.iload_n 3, 1) := by decide +kernel
theorem dL_law_865 : decode cL_law 865 = .ok (.iconst 1, 1) := by decide +kernel
theorem dL_law_866 : decode cL_law 866 = .ok (.iadd, 1) := by decide +kernel
theorem dL_law_867 : decode cL_law 867 = .ok (.iaload, 1) := by decide +kernel
theorem dL_law_868 : decode cL_law 868 = .ok (.invokevirtual 99, 3) := by decide +kernel
theorem dL_law_871 : decode cL_law 871 = .ok (.lcmp, 1) := by decide +kernel
theorem dL_law_872 : decode cL_law 872 = .ok (.ifCond .eq 181, 3) := by decide +kernel
theorem dL_law_875 : decode cL_law 875 = .ok (.iconst 0, 1) := by decide +kernel
theorem dL_law_876 : decode cL_law 876 = .ok (.ireturn, 1) := by decide +kernel
theorem dL_law_877 : decode cL_law 877 = .ok (.aload_n 1, 1) := by decide +kernel
theorem dL_law_878 : decode cL_law 878 = .ok (.aload_n 0, 1) := by decide +kernel
theorem dL_law_879 : decode cL_law 879 = .ok (.iload_n 3, 1) := by decide +kernel
theorem dL_law_880 : decode cL_law 880 = .ok (.iconst 1, 1) := by decide +kernel
theorem dL_law_881 : decode cL_law 881 = .ok (.iadd, 1) := by decide +kernel
theorem dL_law_882 : decode cL_law 882 = .ok (.iaload, 1) := by decide +kernel
theorem dL_law_883 : decode cL_law 883 = .ok (.invokevirtual 100, 3) := by decide +kernel
theorem dL_law_886 : decode cL_law 886 = .ok (.aload_n 2, 1) := by decide +kernel
theorem dL_law_887 : decode cL_law 887 = .ok (.aload_n 0, 1) := by decide +kernel
theorem dL_law_888 : decode cL_law 888 = .ok (.iload_n 3, 1) := by decide +kernel
theorem dL_law_889 : decode cL_law 889 = .ok (.iconst 1, 1) := by decide +kernel
theorem dL_law_890 : decode cL_law 890 = .ok (.iadd, 1) := by decide +kernel
theorem dL_law_891 : decode cL_law 891 = .ok (.iaload, 1) := by decide +kernel
theorem dL_law_892 : decode cL_law 892 = .ok (.invokevirtual 103, 3) := by decide +kernel
theorem dL_law_895 : decode cL_law 895 = .ok (.lcmp, 1) := by decide +kernel
theorem dL_law_896 : decode cL_law 896 = .ok (.ifCond .eq 157, 3) := by decide +kernel
theorem dL_law_899 : decode cL_law 899 = .ok (.iconst 0, 1) := by decide +kernel
theorem dL_law_900 : decode cL_law 900 = .ok (.ireturn, 1) := by decide +kernel
theorem dL_law_901 : decode cL_law 901 = .ok (.aload_n 1, 1) := by decide +kernel
theorem dL_law_902 : decode cL_law 902 = .ok (.aload_n 0, 1) := by decide +kernel
theorem dL_law_903 : decode cL_law 903 = .ok (.iload_n 3, 1) := by decide +kernel
theorem dL_law_904 : decode cL_law 904 = .ok (.iconst 1, 1) := by decide +kernel
theorem dL_law_905 : decode cL_law 905 = .ok (.iadd, 1) := by decide +kernel
theorem dL_law_906 : decode cL_law 906 = .ok (.iaload, 1) := by decide +kernel
theorem dL_law_907 : decode cL_law 907 = .ok (.invokevirtual 104, 3) := by decide +kernel
theorem dL_law_910 : decode cL_law 910 = .ok (.aload_n 2, 1) := by decide +kernel
theorem dL_law_911 : decode cL_law 911 = .ok (.aload_n 0, 1) := by decide +kernel
theorem dL_law_912 : decode cL_law 912 = .ok (.iload_n 3, 1) := by decide +kernel
theorem dL_law_913 : decode cL_law 913 = .ok (.iconst 1, 1) := by decide +kernel
theorem dL_law_914 : decode cL_law 914 = .ok (.iadd, 1) := by decide +kernel
theorem dL_law_915 : decode cL_law 915 = .ok (.iaload, 1) := by decide +kernel
theorem dL_law_916 : decode cL_law 916 = .ok (.invokevirtual 107, 3) := by decide +kernel
theorem dL_law_919 : decode cL_law 919 = .ok (.lcmp, 1) := by decide +kernel
theorem dL_law_920 : decode cL_law 920 = .ok (.ifCond .eq 133, 3) := by decide +kernel
theorem dL_law_923 : decode cL_law 923 = .ok (.iconst 0, 1) := by decide +kernel
theorem dL_law_924 : decode cL_law 924 = .ok (.ireturn, 1) := by decide +kernel
theorem dL_law_925 : decode cL_law 925 = .ok (.aload_n 1, 1) := by decide +kernel
theorem dL_law_926 : decode cL_law 926 = .ok (.aload_n 0, 1) := by decide +kernel
theorem dL_law_927 : decode cL_law 927 = .ok (.iload_n 3, 1) := by decide +kernel
theorem dL_law_928 : decode cL_law 928 = .ok (.iconst 1, 1) := by decide +kernel
theorem dL_law_929 : decode cL_law 929 = .ok (.iadd, 1) := by decide +kernel
theorem dL_law_930 : decode cL_law 930 = .ok (.iaload, 1) := by decide +kernel
theorem dL_law_931 : decode cL_law 931 = .ok (.aload_n 0, 1) := by decide +kernel
theorem dL_law_932 : decode cL_law 932 = .ok (.iload_n 3, 1) := by decide +kernel
theorem dL_law_933 : decode cL_law 933 = .ok (.iconst 2, 1) := by decide +kernel
theorem dL_law_934 : decode cL_law 934 = .ok (.iadd, 1) := by decide +kernel
theorem dL_law_935 : decode cL_law 935 = .ok (.iaload, 1) := by decide +kernel
theorem dL_law_936 : decode cL_law 936 = .ok (.invokevirtual 108, 3) := by decide +kernel
theorem dL_law_939 : decode cL_law 939 = .ok (.aload_n 2, 1) := by decide +kernel
theorem dL_law_940 : decode cL_law 940 = .ok (.aload_n 0, 1) := by decide +kernel
theorem dL_law_941 : decode cL_law 941 = .ok (.iload_n 3, 1) := by decide +kernel
theorem dL_law_942 : decode cL_law 942 = .ok (.iconst 1, 1) := by decide +kernel
theorem dL_law_943 : decode cL_law 943 = .ok (.iadd, 1) := by decide +kernel
theorem dL_law_944 : decode cL_law 944 = .ok (.iaload, 1) := by decide +kernel
theorem dL_law_945 : decode cL_law 945 = .ok (.aload_n 0, 1) := by decide +kernel
theorem dL_law_946 : decode cL_law 946 = .ok (.iload_n 3, 1) := by decide +kernel
theorem dL_law_947 : decode cL_law 947 = .ok (.iconst 2, 1) := by decide +kernel
theorem dL_law_948 : decode cL_law 948 = .ok (.iadd, 1) := by decide +kernel
theorem dL_law_949 : decode cL_law 949 = .ok (.iaload, 1) := by decide +kernel
theorem dL_law_950 : decode cL_law 950 = .ok (.invokevirtual 111, 3) := by decide +kernel
theorem dL_law_953 : decode cL_law 953 = .ok (.lcmp, 1) := by decide +kernel
theorem dL_law_954 : decode cL_law 954 = .ok (.ifCond .eq 99, 3) := by decide +kernel
theorem dL_law_957 : decode cL_law 957 = .ok (.iconst 0, 1) := by decide +kernel
theorem dL_law_958 : decode cL_law 958 = .ok (.ireturn, 1) := by decide +kernel
theorem dL_law_959 : decode cL_law 959 = .ok (.aload_n 1, 1) := by decide +kernel
theorem dL_law_960 : decode cL_law 960 = .ok (.aload_n 0, 1) := by decide +kernel
theorem dL_law_961 : decode cL_law 961 = .ok (.iload_n 3, 1) := by decide +kernel
theorem dL_law_962 : decode cL_law 962 = .ok (.iconst 1, 1) := by decide +kernel
theorem dL_law_963 : decode cL_law 963 = .ok (.iadd, 1) := by decide +kernel
theorem dL_law_964 : decode cL_law 964 = .ok (.iaload, 1) := by decide +kernel
theorem dL_law_965 : decode cL_law 965 = .ok (.aload_n 0, 1) := by decide +kernel
theorem dL_law_966 : decode cL_law 966 = .ok (.iload_n 3, 1) := by decide +kernel
theorem dL_law_967 : decode cL_law 967 = .ok (.iconst 2, 1) := by decide +kernel
theorem dL_law_968 : decode cL_law 968 = .ok (.iadd, 1) := by decide +kernel
theorem dL_law_969 : decode cL_law 969 = .ok (.iaload, 1) := by decide +kernel
theorem dL_law_970 : decode cL_law 970 = .ok (.invokevirtual 112, 3) := by decide +kernel
theorem dL_law_973 : decode cL_law 973 = .ok (.aload_n 2, 1) := by decide +kernel
theorem dL_law_974 : decode cL_law 974 = .ok (.aload_n 0, 1) := by decide +kernel
theorem dL_law_975 : decode cL_law 975 = .ok (.iload_n 3, 1) := by decide +kernel
theorem dL_law_976 : decode cL_law 976 = .ok (.iconst 1, 1) := by decide +kernel
theorem dL_law_977 : decode cL_law 977 = .ok (.iadd, 1) := by decide +kernel
theorem dL_law_978 : decode cL_law 978 = .ok (.iaload, 1) := by decide +kernel
theorem dL_law_979 : decode cL_law 979 = .ok (.aload_n 0, 1) := by decide +kernel
theorem dL_law_980 : decode cL_law 980 = .ok (.iload_n 3, 1) := by decide +kernel
theorem dL_law_981 : decode cL_law 981 = .ok (.iconst 2, 1) := by decide +kernel
theorem dL_law_982 : decode cL_law 982 = .ok (.iadd, 1) := by decide +kernel
theorem dL_law_983 : decode cL_law 983 = .ok (.iaload, 1) := by decide +kernel
theorem dL_law_984 : decode cL_law 984 = .ok (.invokevirtual 115, 3) := by decide +kernel
theorem dL_law_987 : decode cL_law 987 = .ok (.lcmp, 1) := by decide +kernel
theorem dL_law_988 : decode cL_law 988 = .ok (.ifCond .eq 65, 3) := by decide +kernel
theorem dL_law_991 : decode cL_law 991 = .ok (.iconst 0, 1) := by decide +kernel
theorem dL_law_992 : decode cL_law 992 = .ok (.ireturn, 1) := by decide +kernel
theorem dL_law_993 : decode cL_law 993 = .ok (.aload_n 1, 1) := by decide +kernel
theorem dL_law_994 : decode cL_law 994 = .ok (.aload_n 0, 1) := by decide +kernel
theorem dL_law_995 : decode cL_law 995 = .ok (.iload_n 3, 1) := by decide +kernel
theorem dL_law_996 : decode cL_law 996 = .ok (.iconst 1, 1) := by decide +kernel
theorem dL_law_997 : decode cL_law 997 = .ok (.iadd, 1) := by decide +kernel
theorem dL_law_998 : decode cL_law 998 = .ok (.iaload, 1) := by decide +kernel
theorem dL_law_999 : decode cL_law 999 = .ok (.invokevirtual 116, 3) := by decide +kernel
theorem dL_law_1002 : decode cL_law 1002 = .ok (.aload_n 2, 1) := by decide +kernel
theorem dL_law_1003 : decode cL_law 1003 = .ok (.aload_n 0, 1) := by decide +kernel
theorem dL_law_1004 : decode cL_law 1004 = .ok (.iload_n 3, 1) := by decide +kernel
theorem dL_law_1005 : decode cL_law 1005 = .ok (.iconst 1, 1) := by decide +kernel
theorem dL_law_1006 : decode cL_law 1006 = .ok (.iadd, 1) := by decide +kernel
theorem dL_law_1007 : decode cL_law 1007 = .ok (.iaload, 1) := by decide +kernel
theorem dL_law_1008 : decode cL_law 1008 = .ok (.invokevirtual 120, 3) := by decide +kernel
theorem dL_law_1011 : decode cL_law 1011 = .ok (.if_icmp .eq 42, 3) := by decide +kernel
theorem dL_law_1014 : decode cL_law 1014 = .ok (.iconst 0, 1) := by decide +kernel
theorem dL_law_1015 : decode cL_law 1015 = .ok (.ireturn, 1) := by decide +kernel
theorem dL_law_1016 : decode cL_law 1016 = .ok (.aload_n 1, 1) := by decide +kernel
theorem dL_law_1017 : decode cL_law 1017 = .ok (.aload_n 0, 1) := by decide +kernel
theorem dL_law_1018 : decode cL_law 1018 = .ok (.iload_n 3, 1) := by decide +kernel
theorem dL_law_1019 : decode cL_law 1019 = .ok (.iconst 1, 1) := by decide +kernel
theorem dL_law_1020 : decode cL_law 1020 = .ok (.iadd, 1) := by decide +kernel
theorem dL_law_1021 : decode cL_law 1021 = .ok (.iaload, 1) := by decide +kernel
theorem dL_law_1022 : decode cL_law 1022 = .ok (.invokevirtual 121, 3) := by decide +kernel
theorem dL_law_1025 : decode cL_law 1025 = .ok (.aload_n 2, 1) := by decide +kernel
theorem dL_law_1026 : decode cL_law 1026 = .ok (.aload_n 0, 1) := by decide +kernel
theorem dL_law_1027 : decode cL_law 1027 = .ok (.iload_n 3, 1) := by decide +kernel
theorem dL_law_1028 : decode cL_law 1028 = .ok (.iconst 1, 1) := by decide +kernel
theorem dL_law_1029 : decode cL_law 1029 = .ok (.iadd, 1) := by decide +kernel
theorem dL_law_1030 : decode cL_law 1030 = .ok (.iaload, 1) := by decide +kernel
theorem dL_law_1031 : decode cL_law 1031 = .ok (.invokevirtual 124, 3) := by decide +kernel
theorem dL_law_1034 : decode cL_law 1034 = .ok (.lcmp, 1) := by decide +kernel
theorem dL_law_1035 : decode cL_law 1035 = .ok (.ifCond .eq 18, 3) := by decide +kernel
theorem dL_law_1038 : decode cL_law 1038 = .ok (.iconst 0, 1) := by decide +kernel
theorem dL_law_1039 : decode cL_law 1039 = .ok (.ireturn, 1) := by decide +kernel
theorem dL_law_1040 : decode cL_law 1040 = .ok (.aload_n 1, 1) := by decide +kernel
theorem dL_law_1041 : decode cL_law 1041 = .ok (.invokevirtual 125, 3) := by decide +kernel
theorem dL_law_1044 : decode cL_law 1044 = .ok (.aload_n 2, 1) := by decide +kernel
theorem dL_law_1045 : decode cL_law 1045 = .ok (.invokevirtual 128, 3) := by decide +kernel
theorem dL_law_1048 : decode cL_law 1048 = .ok (.if_icmp .eq 5, 3) := by decide +kernel
theorem dL_law_1051 : decode cL_law 1051 = .ok (.iconst 0, 1) := by decide +kernel
theorem dL_law_1052 : decode cL_law 1052 = .ok (.ireturn, 1) := by decide +kernel
theorem dL_law_1053 : decode cL_law 1053 = .ok (.iinc 3 6, 3) := by decide +kernel
theorem dL_law_1056 : decode cL_law 1056 = .ok (.goto (-1038), 3) := by decide +kernel
theorem dL_law_1059 : decode cL_law 1059 = .ok (.iconst 1, 1) := by decide +kernel
theorem dL_law_1060 : decode cL_law 1060 = .ok (.ireturn, 1) := by decide +kernel
