theorem dX10_init_177 : decode cX10_init 177 = .ok (.dup, 1) := by decide +kernel
theorem dX10_init_178 : decode cX10_init 178 = .ok (.invokespecial 40, 3) := by decide +kernel
theorem dX10_init_181 : decode cX10_init 181 = .ok (.aastore, 1) := by decide +kernel
theorem dX10_init_182 : decode cX10_init 182 = .ok (.iinc 1 1, 3) := by decide +kernel
theorem dX10_init_185 : decode cX10_init 185 = .ok (.goto (-25), 3) := by decide +kernel
theorem dX10_init_188 : decode cX10_init 188 = .ok (.return_, 1) := by decide +kernel
theorem dX10_row_0 : decode cX10_row 0 = .ok (.aload_n 0, 1) := by decide +kernel
theorem dX10_row_1 : decode cX10_row 1 = .ok (.iload_n 1, 1) := by decide +kernel
theorem dX10_row_2 : decode cX10_row 2 = .ok (.invokevirtual 85, 3) := by decide +kernel
theorem dX10_row_5 : decode cX10_row 5 = .ok (.astore 4, 2) := by decide +kernel
theorem dX10_row_7 : decode cX10_row 7 = .ok (.aload 4, 2) := by decide +kernel
theorem dX10_row_9 : decode cX10_row 9 = .ok (.ifnull 18, 3) := by decide +kernel
theorem dX10_row_12 : decode cX10_row 12 = .ok (.iload_n 2, 1) := by decide +kernel
theorem dX10_row_13 : decode cX10_row 13 = .ok (.ifCond .lt 14, 3) := by decide +kernel
theorem dX10_row_16 : decode cX10_row 16 = .ok (.iload_n 2, 1) := by decide +kernel
theorem dX10_row_17 : decode cX10_row 17 = .ok (.iconst 3, 1) := by decide +kernel
theorem dX10_row_18 : decode cX10_row 18 = .ok (.if_icmp .ge 9, 3) := by decide +kernel
theorem dX10_row_21 : decode cX10_row 21 = .ok (.iload_n 3, 1) := by decide +kernel
theorem dX10_row_22 : decode cX10_row 22 = .ok (.bipush 40, 2) := by decide +kernel
theorem dX10_row_24 : decode cX10_row 24 = .ok (.if_icmp .le 7, 3) := by decide +kernel
theorem dX10_row_27 : decode cX10_row 27 = .ok (.ldc2_w 89, 3) := by decide +kernel
theorem dX10_row_30 : decode cX10_row 30 = .ok (.lreturn, 1) := by decide +kernel
theorem dX10_row_31 : decode cX10_row 31 = .ok (.iload_n 3, 1) := by decide +kernel
theorem dX10_row_32 : decode cX10_row 32 = .ok (.ifCond .ge 9, 3) := by decide +kernel
theorem dX10_row_35 : decode cX10_row 35 = .ok (.aload_n 0, 1) := by decide +kernel
theorem dX10_row_36 : decode cX10_row 36 = .ok (.iconst 4, 1) := by decide +kernel
theorem dX10_row_37 : decode cX10_row 37 = .ok (.invokevirtual 91, 3) := by decide +kernel
theorem dX10_row_40 : decode cX10_row 40 = .ok (.lreturn, 1) := by decide +kernel
theorem dX10_row_41 : decode cX10_row 41 = .ok (.aload 4, 2) := by decide +kernel
theorem dX10_row_43 : decode cX10_row 43 = .ok (.iload_n 2, 1) := by decide +kernel
theorem dX10_row_44 : decode cX10_row 44 = .ok (.iload_n 3, 1) := by decide +kernel
theorem dX10_row_45 : decode cX10_row 45 = .ok (.invokevirtual 95, 3) := by decide +kernel
theorem dX10_row_48 : decode cX10_row 48 = .ok (.aload_n 0, 1) := by decide +kernel
theorem dX10_row_49 : decode cX10_row 49 = .ok (.iload_n 3, 1) := by decide +kernel
theorem dX10_row_50 : decode cX10_row 50 = .ok (.i2l, 1) := by decide +kernel
theorem dX10_row_51 : decode cX10_row 51 = .ok (.invokevirtual 99, 3) := by decide +kernel
theorem dX10_row_54 : decode cX10_row 54 = .ok (.lreturn, 1) := by decide +kernel
theorem dX10_set_0 : decode cX10_set 0 = .ok (.aload_n 0, 1) := by decide +kernel
theorem dX10_set_1 : decode cX10_set 1 = .ok (.iload_n 1, 1) := by decide +kernel
theorem dX10_set_2 : decode cX10_set 2 = .ok (.invokevirtual 85, 3) := by decide +kernel
theorem dX10_set_5 : decode cX10_set 5 = .ok (.astore 4, 2) := by decide +kernel
theorem dX10_set_7 : decode cX10_set 7 = .ok (.aload 4, 2) := by decide +kernel
theorem dX10_set_9 : decode cX10_set 9 = .ok (.ifnonnull 7, 3) := by decide +kernel
theorem dX10_set_12 : decode cX10_set 12 = .ok (.ldc2_w 89, 3) := by decide +kernel
theorem dX10_set_15 : decode cX10_set 15 = .ok (.lreturn, 1) := by decide +kernel
theorem dX10_set_16 : decode cX10_set 16 = .ok (.aload 4, 2) := by decide +kernel
theorem dX10_set_18 : decode cX10_set 18 = .ok (.getfield 103, 3) := by decide +kernel
theorem dX10_set_21 : decode cX10_set 21 = .ok (.ifCond .ne 9, 3) := by decide +kernel
theorem dX10_set_24 : decode cX10_set 24 = .ok (.aload_n 0, 1) := by decide +kernel
theorem dX10_set_25 : decode cX10_set 25 = .ok (.iconst 1, 1) := by decide +kernel
theorem dX10_set_26 : decode cX10_set 26 = .ok (.invokevirtual 91, 3) := by decide +kernel
theorem dX10_set_29 : decode cX10_set 29 = .ok (.lreturn, 1) := by decide +kernel
theorem dX10_set_30 : decode cX10_set 30 = .ok (.aload 4, 2) := by decide +kernel
theorem dX10_set_32 : decode cX10_set 32 = .ok (.iload_n 2, 1) := by decide +kernel
theorem dX10_set_33 : decode cX10_set 33 = .ok (.iconst 1, 1) := by decide +kernel
theorem dX10_set_34 : decode cX10_set 34 = .ok (.invokevirtual 107, 3) := by decide +kernel
theorem dX10_set_37 : decode cX10_set 37 = .ok (.ifCond .ne 9, 3) := by decide +kernel
theorem dX10_set_40 : decode cX10_set 40 = .ok (.aload_n 0, 1) := by decide +kernel
theorem dX10_set_41 : decode cX10_set 41 = .ok (.iconst 2, 1) := by decide +kernel
theorem dX10_set_42 : decode cX10_set 42 = .ok (.invokevirtual 91, 3) := by decide +kernel
theorem dX10_set_45 : decode cX10_set 45 = .ok (.lreturn, 1) := by decide +kernel
theorem dX10_set_46 : decode cX10_set 46 = .ok (.aload 4, 2) := by decide +kernel
theorem dX10_set_48 : decode cX10_set 48 = .ok (.iload_n 2, 1) := by decide +kernel
theorem dX10_set_49 : decode cX10_set 49 = .ok (.iload_n 3, 1) := by decide +kernel
theorem dX10_set_50 : decode cX10_set 50 = .ok (.invokevirtual 111, 3) := by decide +kernel
theorem dX10_set_53 : decode cX10_set 53 = .ok (.aload_n 0, 1) := by decide +kernel
theorem dX10_set_54 : decode cX10_set 54 = .ok (.aload 4, 2) := by decide +kernel
theorem dX10_set_56 : decode cX10_set 56 = .ok (.iload_n 2, 1) := by decide +kernel
theorem dX10_set_57 : decode cX10_set 57 = .ok (.invokevirtual 114, 3) := by decide +kernel
theorem dX10_set_60 : decode cX10_set 60 = .ok (.i2l, 1) := by decide +kernel
theorem dX10_set_61 : decode cX10_set 61 = .ok (.invokevirtual 99, 3) := by decide +kernel
theorem dX10_set_64 : decode cX10_set 64 = .ok (.lreturn, 1) := by decide +kernel
theorem dX10_copy_0 : decode cX10_copy 0 = .ok (.aload_n 0, 1) := by decide +kernel
theorem dX10_copy_1 : decode cX10_copy 1 = .ok (.iload_n 1, 1) := by decide +kernel
theorem dX10_copy_2 : decode cX10_copy 2 = .ok (.invokevirtual 85, 3) := by decide +kernel
theorem dX10_copy_5 : decode cX10_copy 5 = .ok (.astore 6, 2) := by decide +kernel
theorem dX10_copy_7 : decode cX10_copy 7 = .ok (.aload_n 0, 1) := by decide +kernel
theorem dX10_copy_8 : decode cX10_copy 8 = .ok (.iload_n 3, 1) := by decide +kernel
theorem dX10_copy_9 : decode cX10_copy 9 = .ok (.invokevirtual 85, 3) := by decide +kernel
theorem dX10_copy_12 : decode cX10_copy 12 = .ok (.astore 7, 2) := by decide +kernel
theorem dX10_copy_14 : decode cX10_copy 14 = .ok (.aload 6, 2) := by decide +kernel
theorem dX10_copy_16 : decode cX10_copy 16 = .ok (.ifnull 8, 3) := by decide +kernel
theorem dX10_copy_19 : decode cX10_copy 19 = .ok (.aload 7, 2) := by decide +kernel
theorem dX10_copy_21 : decode cX10_copy 21 = .ok (.ifnonnull 7, 3) := by decide +kernel
theorem dX10_copy_24 : decode cX10_copy 24 = .ok (.ldc2_w 89, 3) := by decide +kernel
theorem dX10_copy_27 : decode cX10_copy 27 = .ok (.lreturn, 1) := by decide +kernel
theorem dX10_copy_28 : decode cX10_copy 28 = .ok (.aload 6, 2) := by decide +kernel
theorem dX10_copy_30 : decode cX10_copy 30 = .ok (.getfield 103, 3) := by decide +kernel
theorem dX10_copy_33 : decode cX10_copy 33 = .ok (.ifCond .eq 11, 3) := by decide +kernel
theorem dX10_copy_36 : decode cX10_copy 36 = .ok (.aload 7, 2) := by decide +kernel
theorem dX10_copy_38 : decode cX10_copy 38 = .ok (.getfield 103, 3) := by decide +kernel
theorem dX10_copy_41 : decode cX10_copy 41 = .ok (.ifCond .ne 9, 3) := by decide +kernel
theorem dX10_copy_44 : decode cX10_copy 44 = .ok (.aload_n 0, 1) := by decide +kernel
theorem dX10_copy_45 : decode cX10_copy 45 = .ok (.iconst 1, 1) := by decide +kernel
theorem dX10_copy_46 : decode cX10_copy 46 = .ok (.invokevirtual 91, 3) := by decide +kernel
theorem dX10_copy_49 : decode cX10_copy 49 = .ok (.lreturn, 1) := by decide +kernel
theorem dX10_copy_50 : decode cX10_copy 50 = .ok (.aload 6, 2) := by decide +kernel
theorem dX10_copy_52 : decode cX10_copy 52 = .ok (.getfield 118, 3) := by decide +kernel
theorem dX10_copy_55 : decode cX10_copy 55 = .ok (.aload 7, 2) := by decide +kernel
theorem dX10_copy_57 : decode cX10_copy 57 = .ok (.getfield 118, 3) := by decide +kernel
theorem dX10_copy_60 : decode cX10_copy 60 = .ok (.if_icmp .eq 9, 3) := by decide +kernel
theorem dX10_copy_63 : decode cX10_copy 63 = .ok (.aload_n 0, 1) := by decide +kernel
theorem dX10_copy_64 : decode cX10_copy 64 = .ok (.iconst 5, 1) := by decide +kernel
theorem dX10_copy_65 : decode cX10_copy 65 = .ok (.invokevirtual 91, 3) := by decide +kernel
theorem dX10_copy_68 : decode cX10_copy 68 = .ok (.lreturn, 1) := by decide +kernel
theorem dX10_copy_69 : decode cX10_copy 69 = .ok (.aload 6, 2) := by decide +kernel
theorem dX10_copy_71 : decode cX10_copy 71 = .ok (.iload_n 2, 1) := by decide +kernel
theorem dX10_copy_72 : decode cX10_copy 72 = .ok (.iload 5, 2) := by decide +kernel
theorem dX10_copy_74 : decode cX10_copy 74 = .ok (.invokevirtual 107, 3) := by decide +kernel
theorem dX10_copy_77 : decode cX10_copy 77 = .ok (.ifCond .eq 15, 3) := by decide +kernel
theorem dX10_copy_80 : decode cX10_copy 80 = .ok (.aload 7, 2) := by decide +kernel
theorem dX10_copy_82 : decode cX10_copy 82 = .ok (.iload 4, 2) := by decide +kernel
theorem dX10_copy_84 : decode cX10_copy 84 = .ok (.iload 5, 2) := by decide +kernel
theorem dX10_copy_86 : decode cX10_copy 86 = .ok (.invokevirtual 107, 3) := by decide +kernel
theorem dX10_copy_89 : decode cX10_copy 89 = .ok (.ifCond .ne 9, 3) := by decide +kernel
theorem dX10_copy_92 : decode cX10_copy 92 = .ok (.aload_n 0, 1) := by decide +kernel
theorem dX10_copy_93 : decode cX10_copy 93 = .ok (.iconst 2, 1) := by decide +kernel
theorem dX10_copy_94 : decode cX10_copy 94 = .ok (.invokevirtual 91, 3) := by decide +kernel
theorem dX10_copy_97 : decode cX10_copy 97 = .ok (.lreturn, 1) := by decide +kernel
theorem dX10_copy_98 : decode cX10_copy 98 = .ok (.aload 6, 2) := by decide +kernel
theorem dX10_copy_100 : decode cX10_copy 100 = .ok (.getfield 122, 3) := by decide +kernel
theorem dX10_copy_103 : decode cX10_copy 103 = .ok (.iload_n 2, 1) := by decide +kernel
theorem dX10_copy_104 : decode cX10_copy 104 = .ok (.aload 7, 2) := by decide +kernel
theorem dX10_copy_106 : decode cX10_copy 106 = .ok (.getfield 122, 3) := by decide +kernel
theorem dX10_copy_109 : decode cX10_copy 109 = .ok (.iload 4, 2) := by decide +kernel
theorem dX10_copy_111 : decode cX10_copy 111 = .ok (.iload 5, 2) := by decide +kernel
theorem dX10_copy_113 : decode cX10_copy 113 = .ok (.invokestatic 126, 3) := by decide +kernel
theorem dX10_copy_116 : decode cX10_copy 116 = .ok (.aload_n 0, 1) := by decide +kernel
theorem dX10_copy_117 : decode cX10_copy 117 = .ok (.iload 5, 2) := by decide +kernel
theorem dX10_copy_119 : decode cX10_copy 119 = .ok (.i2l, 1) := by decide +kernel
theorem dX10_copy_120 : decode cX10_copy 120 = .ok (.invokevirtual 99, 3) := by decide +kernel
theorem dX10_copy_123 : decode cX10_copy 123 = .ok (.lreturn, 1) := by decide +kernel
theorem dX10_drop_0 : decode cX10_drop 0 = .ok (.aload_n 0, 1) := by decide +kernel
theorem dX10_drop_1 : decode cX10_drop 1 = .ok (.iload_n 1, 1) := by decide +kernel
theorem dX10_drop_2 : decode cX10_drop 2 = .ok (.invokevirtual 85, 3) := by decide +kernel
theorem dX10_drop_5 : decode cX10_drop 5 = .ok (.astore_n 2, 1) := by decide +kernel
theorem dX10_drop_6 : decode cX10_drop 6 = .ok (.aload_n 2, 1) := by decide +kernel
theorem dX10_drop_7 : decode cX10_drop 7 = .ok (.ifnonnull 7, 3) := by decide +kernel
theorem dX10_drop_10 : decode cX10_drop 10 = .ok (.ldc2_w 89, 3) := by decide +kernel
theorem dX10_drop_13 : decode cX10_drop 13 = .ok (.lreturn, 1) := by decide +kernel
theorem dX10_drop_14 : decode cX10_drop 14 = .ok (.aload_n 2, 1) := by decide +kernel
theorem dX10_drop_15 : decode cX10_drop 15 = .ok (.getfield 103, 3) := by decide +kernel
theorem dX10_drop_18 : decode cX10_drop 18 = .ok (.ifCond .ne 9, 3) := by decide +kernel
theorem dX10_drop_21 : decode cX10_drop 21 = .ok (.aload_n 0, 1) := by decide +kernel
theorem dX10_drop_22 : decode cX10_drop 22 = .ok (.iconst 1, 1) := by decide +kernel
theorem dX10_drop_23 : decode cX10_drop 23 = .ok (.invokevirtual 91, 3) := by decide +kernel
theorem dX10_drop_26 : decode cX10_drop 26 = .ok (.lreturn, 1) := by decide +kernel
theorem dX10_drop_27 : decode cX10_drop 27 = .ok (.aload_n 2, 1) := by decide +kernel
theorem dX10_drop_28 : decode cX10_drop 28 = .ok (.iconst 0, 1) := by decide +kernel
theorem dX10_drop_29 : decode cX10_drop 29 = .ok (.putfield 103, 3) := by decide +kernel
theorem dX10_drop_32 : decode cX10_drop 32 = .ok (.aload_n 0, 1) := by decide +kernel
theorem dX10_drop_33 : decode cX10_drop 33 = .ok (.aload_n 2, 1) := by decide +kernel
theorem dX10_drop_34 : decode cX10_drop 34 = .ok (.getfield 132, 3) := by decide +kernel
theorem dX10_drop_37 : decode cX10_drop 37 = .ok (.i2l, 1) := by decide +kernel
theorem dX10_drop_38 : decode cX10_drop 38 = .ok (.invokevirtual 99, 3) := by decide +kernel
theorem dX10_drop_41 : decode cX10_drop 41 = .ok (.lreturn, 1) := by decide +kernel
theorem dX10_feed_0 : decode cX10_feed 0 = .ok (.iload_n 3, 1) := by decide +kernel
theorem dX10_feed_1 : decode cX10_feed 1 = .ok (.iconst 1, 1) := by decide +kernel
theorem dX10_feed_2 : decode cX10_feed 2 = .ok (.if_icmp .lt 9, 3) := by decide +kernel
theorem dX10_feed_5 : decode cX10_feed 5 = .ok (.iload_n 3, 1) := by decide +kernel
theorem dX10_feed_6 : decode cX10_feed 6 = .ok (.bipush 8, 2) := by decide +kernel
theorem dX10_feed_8 : decode cX10_feed 8 = .ok (.if_icmp .le 7, 3) := by decide +kernel
theorem dX10_feed_11 : decode cX10_feed 11 = .ok (.ldc2_w 89, 3) := by decide +kernel
theorem dX10_feed_14 : decode cX10_feed 14 = .ok (.lreturn, 1) := by decide +kernel
theorem dX10_feed_15 : decode cX10_feed 15 = .ok (.aload_n 0, 1) := by decide +kernel
theorem dX10_feed_16 : decode cX10_feed 16 = .ok (.getfield 18, 3) := by decide +kernel
theorem dX10_feed_19 : decode cX10_feed 19 = .ok (.iload_n 3, 1) := by decide +kernel
theorem dX10_feed_20 : decode cX10_feed 20 = .ok (.invokevirtual 135, 3) := by decide +kernel
theorem dX10_feed_23 : decode cX10_feed 23 = .ok (.ifCond .ne 7, 3) := by decide +kernel
theorem dX10_feed_26 : decode cX10_feed 26 = .ok (.ldc2_w 139, 3) := by decide +kernel
theorem dX10_feed_29 : decode cX10_feed 29 = .ok (.lreturn, 1) := by decide +kernel
theorem dX10_feed_30 : decode cX10_feed 30 = .ok (.iload_n 3, 1) := by decide +kernel
theorem dX10_feed_31 : decode cX10_feed 31 = .ok (.iconst 1, 1) := by decide +kernel
theorem dX10_feed_32 : decode cX10_feed 32 = .ok (.isub, 1) := by decide +kernel
theorem dX10_feed_33 : decode cX10_feed 33 = .ok (.istore 4, 2) := by decide +kernel
theorem dX10_feed_35 : decode cX10_feed 35 = .ok (.iload 4, 2) := by decide +kernel
theorem dX10_feed_37 : decode cX10_feed 37 = .ok (.ifCond .lt 25, 3) := by decide +kernel
theorem dX10_feed_40 : decode cX10_feed 40 = .ok (.aload_n 0, 1) := by decide +kernel
theorem dX10_feed_41 : decode cX10_feed 41 = .ok (.getfield 18, 3) := by decide +kernel
theorem dX10_feed_44 : decode cX10_feed 44 = .ok (.lload_n 1, 1) := by decide +kernel
theorem dX10_feed_45 : decode cX10_feed 45 = .ok (.bipush 8, 2) := by decide +kernel
theorem dX10_feed_47 : decode cX10_feed 47 = .ok (.iload 4, 2) := by decide +kernel
theorem dX10_feed_49 : decode cX10_feed 49 = .ok (.imul, 1) := by decide +kernel
theorem dX10_feed_50 : decode cX10_feed 50 = .ok (.lushr, 1) := by decide +kernel
theorem dX10_feed_51 : decode cX10_feed 51 = .ok (.l2i, 1) := by decide +kernel
theorem dX10_feed_52 : decode cX10_feed 52 = .ok (.i2b, 1) := by decide +kernel
theorem dX10_feed_53 : decode cX10_feed 53 = .ok (.invokevirtual 141, 3) := by decide +kernel
theorem dX10_feed_56 : decode cX10_feed 56 = .ok (.iinc 4 (-1), 3) := by decide +kernel
theorem dX10_feed_59 : decode cX10_feed 59 = .ok (.goto (-24), 3) := by decide +kernel
theorem dX10_feed_62 : decode cX10_feed 62 = .ok (.aload_n 0, 1) := by decide +kernel
theorem dX10_feed_63 : decode cX10_feed 63 = .ok (.getfield 18, 3) := by decide +kernel
theorem dX10_feed_66 : decode cX10_feed 66 = .ok (.getfield 145, 3) := by decide +kernel
theorem dX10_feed_69 : decode cX10_feed 69 = .ok (.i2l, 1) := by decide +kernel
theorem dX10_feed_70 : decode cX10_feed 70 = .ok (.lreturn, 1) := by decide +kernel
theorem dX10_tongue_0 : decode cX10_tongue 0 = .ok (.aload_n 0, 1) := by decide +kernel
theorem dX10_tongue_1 : decode cX10_tongue 1 = .ok (.getfield 34, 3) := by decide +kernel
theorem dX10_tongue_4 : decode cX10_tongue 4 = .ok (.invokevirtual 148, 3) := by decide +kernel
theorem dX10_tongue_7 : decode cX10_tongue 7 = .ok (.istore_n 1, 1) := by decide +kernel
theorem dX10_tongue_8 : decode cX10_tongue 8 = .ok (.aload_n 0, 1) := by decide +kernel
theorem dX10_tongue_9 : decode cX10_tongue 9 = .ok (.getfield 18, 3) := by decide +kernel
theorem dX10_tongue_12 : decode cX10_tongue 12 = .ok (.iconst 0, 1) := by decide +kernel
theorem dX10_tongue_13 : decode cX10_tongue 13 = .ok (.putfield 145, 3) := by decide +kernel
theorem dX10_tongue_16 : decode cX10_tongue 16 = .ok (.iload_n 1, 1) := by decide +kernel
theorem dX10_tongue_17 : decode cX10_tongue 17 = .ok (.ifCond .ne 27, 3) := by decide +kernel
theorem dX10_tongue_20 : decode cX10_tongue 20 = .ok (.aload_n 0, 1) := by decide +kernel
theorem dX10_tongue_21 : decode cX10_tongue 21 = .ok (.aload_n 0, 1) := by decide +kernel
theorem dX10_tongue_22 : decode cX10_tongue 22 = .ok (.getfield 34, 3) := by decide +kernel
theorem dX10_tongue_25 : decode cX10_tongue 25 = .ok (.getfield 152, 3) := by decide +kernel
theorem dX10_tongue_28 : decode cX10_tongue 28 = .ok (.putfield 155, 3) := by decide +kernel
theorem dX10_tongue_31 : decode cX10_tongue 31 = .ok (.ldc2_w 158, 3) := by decide +kernel
theorem dX10_tongue_34 : decode cX10_tongue 34 = .ok (.aload_n 0, 1) := by decide +kernel
theorem dX10_tongue_35 : decode cX10_tongue 35 = .ok (.getfield 34, 3) := by decide +kernel
theorem dX10_tongue_38 : decode cX10_tongue 38 = .ok (.getfield 160, 3) := by decide +kernel
theorem dX10_tongue_41 : decode cX10_tongue 41 = .ok (.i2l, 1) := by decide +kernel
theorem dX10_tongue_42 : decode cX10_tongue 42 = .ok (.lsub, 1) := by decide +kernel
theorem dX10_tongue_43 : decode cX10_tongue 43 = .ok (.lreturn, 1) := by decide +kernel
theorem dX10_tongue_44 : decode cX10_tongue 44 = .ok (.aload_n 0, 1) := by decide +kernel
theorem dX10_tongue_45 : decode cX10_tongue 45 = .ok (.getfield 41, 3) := by decide +kernel
theorem dX10_tongue_48 : decode cX10_tongue 48 = .ok (.aload_n 0, 1) := by decide +kernel
theorem dX10_tongue_49 : decode cX10_tongue 49 = .ok (.getfield 25, 3) := by decide +kernel
theorem dX10_tongue_52 : decode cX10_tongue 52 = .ok (.invokevirtual 163, 3) := by decide +kernel
theorem dX10_tongue_55 : decode cX10_tongue 55 = .ok (.aload_n 0, 1) := by decide +kernel
theorem dX10_tongue_56 : decode cX10_tongue 56 = .ok (.getfield 59, 3) := by decide +kernel
theorem dX10_tongue_59 : decode cX10_tongue 59 = .ok (.invokevirtual 166, 3) := by decide +kernel
theorem dX10_tongue_62 : decode cX10_tongue 62 = .ok (.aload_n 0, 1) := by decide +kernel
theorem dX10_tongue_63 : decode cX10_tongue 63 = .ok (.getfield 25, 3) := by decide +kernel
theorem dX10_tongue_66 : decode cX10_tongue 66 = .ok (.getfield 169, 3) := by decide +kernel
theorem dX10_tongue_69 : decode cX10_tongue 69 = .ok (.i2l, 1) := by decide +kernel
theorem dX10_tongue_70 : decode cX10_tongue 70 = .ok (.lreturn, 1) := by decide +kernel
theorem dX10_fault_0 : decode cX10_fault 0 = .ok (.aload_n 0, 1) := by decide +kernel
theorem dX10_fault_1 : decode cX10_fault 1 = .ok (.getfield 155, 3) := by decide +kernel
theorem dX10_fault_4 : decode cX10_fault 4 = .ok (.ireturn, 1) := by decide +kernel
theorem dX10_put_0 : decode cX10_put 0 = .ok (.iload_n 1, 1) := by decide +kernel
theorem dX10_put_1 : decode cX10_put 1 = .ok (.invokestatic 172, 3) := by decide +kernel
theorem dX10_put_4 : decode cX10_put 4 = .ok (.ifCond .eq 17, 3) := by decide +kernel
theorem dX10_put_7 : decode cX10_put 7 = .ok (.lload_n 2, 1) := by decide +kernel
theorem dX10_put_8 : decode cX10_put 8 = .ok (.lconst 1, 1) := by decide +kernel
theorem dX10_put_9 : decode cX10_put 9 = .ok (.lcmp, 1) := by decide +kernel
theorem dX10_put_10 : decode cX10_put 10 = .ok (.ifCond .lt 11, 3) := by decide +kernel
theorem dX10_put_13 : decode cX10_put 13 = .ok (.lload_n 2, 1) := by decide +kernel
theorem dX10_put_14 : decode cX10_put 14 = .ok (.ldc2_w 175, 3) := by decide +kernel
theorem dX10_put_17 : decode cX10_put 17 = .ok (.lcmp, 1) := by decide +kernel
theorem dX10_put_18 : decode cX10_put 18 = .ok (.ifCond .le 7, 3) := by decide +kernel
theorem dX10_put_21 : decode cX10_put 21 = .ok (.ldc2_w 89, 3) := by decide +kernel
theorem dX10_put_24 : decode cX10_put 24 = .ok (.lreturn, 1) := by decide +kernel
theorem dX10_put_25 : decode cX10_put 25 = .ok (.aload_n 0, 1) := by decide +kernel
theorem dX10_put_26 : decode cX10_put 26 = .ok (.getfield 41, 3) := by decide +kernel
theorem dX10_put_29 : decode cX10_put 29 = .ok (.iload_n 1, 1) := by decide +kernel
theorem dX10_put_30 : decode cX10_put 30 = .ok (.lload_n 2, 1) := by decide +kernel
theorem dX10_put_31 : decode cX10_put 31 = .ok (.invokevirtual 177, 3) := by decide +kernel
theorem dX10_put_34 : decode cX10_put 34 = .ok (.lconst 1, 1) := by decide +kernel
theorem dX10_put_35 : decode cX10_put 35 = .ok (.lreturn, 1) := by decide +kernel
theorem dX10_say_0 : decode cX10_say 0 = .ok (.aload_n 0, 1) := by decide +kernel
theorem dX10_say_1 : decode cX10_say 1 = .ok (.iload_n 2, 1) := by decide +kernel
theorem dX10_say_2 : decode cX10_say 2 = .ok (.invokevirtual 85, 3) := by decide +kernel
theorem dX10_say_5 : decode cX10_say 5 = .ok (.astore 5, 2) := by decide +kernel
theorem dX10_say_7 : decode cX10_say 7 = .ok (.iload_n 1, 1) := by decide +kernel
theorem dX10_say_8 : decode cX10_say 8 = .ok (.invokestatic 172, 3) := by decide +kernel
theorem dX10_say_11 : decode cX10_say 11 = .ok (.ifCond .eq 20, 3) := by decide +kernel
theorem dX10_say_14 : decode cX10_say 14 = .ok (.aload 5, 2) := by decide +kernel
theorem dX10_say_16 : decode cX10_say 16 = .ok (.ifnull 15, 3) := by decide +kernel
theorem dX10_say_19 : decode cX10_say 19 = .ok (.iload 4, 2) := by decide +kernel
theorem dX10_say_21 : decode cX10_say 21 = .ok (.ifCond .lt 10, 3) := by decide +kernel
theorem dX10_say_24 : decode cX10_say 24 = .ok (.iload 4, 2) := by decide +kernel
theorem dX10_say_26 : decode cX10_say 26 = .ok (.bipush 20, 2) := by decide +kernel
theorem dX10_say_28 : decode cX10_say 28 = .ok (.if_icmp .le 7, 3) := by decide +kernel
theorem dX10_say_31 : decode cX10_say 31 = .ok (.ldc2_w 89, 3) := by decide +kernel
theorem dX10_say_34 : decode cX10_say 34 = .ok (.lreturn, 1) := by decide +kernel
theorem dX10_say_35 : decode cX10_say 35 = .ok (.aload 5, 2) := by decide +kernel
theorem dX10_say_37 : decode cX10_say 37 = .ok (.getfield 103, 3) := by decide +kernel
theorem dX10_say_40 : decode cX10_say 40 = .ok (.ifCond .ne 9, 3) := by decide +kernel
theorem dX10_say_43 : decode cX10_say 43 = .ok (.aload_n 0, 1) := by decide +kernel
theorem dX10_say_44 : decode cX10_say 44 = .ok (.iconst 1, 1) := by decide +kernel
theorem dX10_say_45 : decode cX10_say 45 = .ok (.invokevirtual 91, 3) := by decide +kernel
theorem dX10_say_48 : decode cX10_say 48 = .ok (.lreturn, 1) := by decide +kernel
theorem dX10_say_49 : decode cX10_say 49 = .ok (.aload 5, 2) := by decide +kernel
theorem dX10_say_51 : decode cX10_say 51 = .ok (.iload_n 3, 1) := by decide +kernel
theorem dX10_say_52 : decode cX10_say 52 = .ok (.iload 4, 2) := by decide +kernel
theorem dX10_say_54 : decode cX10_say 54 = .ok (.invokevirtual 107, 3) := by decide +kernel
theorem dX10_say_57 : decode cX10_say 57 = .ok (.ifCond .ne 9, 3) := by decide +kernel
theorem dX10_say_60 : decode cX10_say 60 = .ok (.aload_n 0, 1) := by decide +kernel
theorem dX10_say_61 : decode cX10_say 61 = .ok (.iconst 2, 1) := by decide +kernel
theorem dX10_say_62 : decode cX10_say 62 = .ok (.invokevirtual 91, 3) := by decide +kernel
theorem dX10_say_65 : decode cX10_say 65 = .ok (.lreturn, 1) := by decide +kernel
theorem dX10_say_66 : decode cX10_say 66 = .ok (.aload_n 0, 1) := by decide +kernel
theorem dX10_say_67 : decode cX10_say 67 = .ok (.aload 5, 2) := by decide +kernel
theorem dX10_say_69 : decode cX10_say 69 = .ok (.iload_n 3, 1) := by decide +kernel
theorem dX10_say_70 : decode cX10_say 70 = .ok (.iload 4, 2) := by decide +kernel
theorem dX10_say_72 : decode cX10_say 72 = .ok (.invokevirtual 181, 3) := by decide +kernel
theorem dX10_say_75 : decode cX10_say 75 = .ok (.lstore 6, 2) := by decide +kernel
theorem dX10_say_77 : decode cX10_say 77 = .ok (.lload 6, 2) := by decide +kernel
theorem dX10_say_79 : decode cX10_say 79 = .ok (.lconst 1, 1) := by decide +kernel
theorem dX10_say_80 : decode cX10_say 80 = .ok (.lcmp, 1) := by decide +kernel
theorem dX10_say_81 : decode cX10_say 81 = .ok (.ifCond .ge 6, 3) := by decide +kernel
theorem dX10_say_84 : decode cX10_say 84 = .ok (.lload 6, 2) := by decide +kernel
theorem dX10_say_86 : decode cX10_say 86 = .ok (.lreturn, 1) := by decide +kernel
theorem dX10_say_87 : decode cX10_say 87 = .ok (.aload_n 0, 1) := by decide +kernel
theorem dX10_say_88 : decode cX10_say 88 = .ok (.getfield 41, 3) := by decide +kernel
theorem dX10_say_91 : decode cX10_say 91 = .ok (.iload_n 1, 1) := by decide +kernel
theorem dX10_say_92 : decode cX10_say 92 = .ok (.lload 6, 2) := by decide +kernel
theorem dX10_say_94 : decode cX10_say 94 = .ok (.invokevirtual 177, 3) := by decide +kernel
theorem dX10_say_97 : decode cX10_say 97 = .ok (.aload_n 0, 1) := by decide +kernel
theorem dX10_say_98 : decode cX10_say 98 = .ok (.lload 6, 2) := by decide +kernel
theorem dX10_say_100 : decode cX10_say 100 = .ok (.invokevirtual 99, 3) := by decide +kernel
theorem dX10_say_103 : decode cX10_say 103 = .ok (.lreturn, 1) := by decide +kernel
theorem dX10_said_0 : decode cX10_said 0 = .ok (.iload_n 1, 1) := by decide +kernel
theorem dX10_said_1 : decode cX10_said 1 = .ok (.invokestatic 172, 3) := by decide +kernel
theorem dX10_said_4 : decode cX10_said 4 = .ok (.ifCond .ne 7, 3) := by decide +kernel
theorem dX10_said_7 : decode cX10_said 7 = .ok (.ldc2_w 89, 3) := by decide +kernel
theorem dX10_said_10 : decode cX10_said 10 = .ok (.lreturn, 1) := by decide +kernel
theorem dX10_said_11 : decode cX10_said 11 = .ok (.aload_n 0, 1) := by decide +kernel
theorem dX10_said_12 : decode cX10_said 12 = .ok (.getfield 41, 3) := by decide +kernel
theorem dX10_said_15 : decode cX10_said 15 = .ok (.iload_n 1, 1) := by decide +kernel
theorem dX10_said_16 : decode cX10_said 16 = .ok (.invokevirtual 185, 3) := by decide +kernel
theorem dX10_said_19 : decode cX10_said 19 = .ok (.lstore_n 2, 1) := by decide +kernel
theorem dX10_said_20 : decode cX10_said 20 = .ok (.lload_n 2, 1) := by decide +kernel
theorem dX10_said_21 : decode cX10_said 21 = .ok (.lconst 0, 1) := by decide +kernel
theorem dX10_said_22 : decode cX10_said 22 = .ok (.lcmp, 1) := by decide +kernel
theorem dX10_said_23 : decode cX10_said 23 = .ok (.ifCond .ne 9, 3) := by decide +kernel
theorem dX10_said_26 : decode cX10_said 26 = .ok (.ldc2_w 188, 3) := by decide +kernel
theorem dX10_said_29 : decode cX10_said 29 = .ok (.goto 4, 3) := by decide +kernel
theorem dX10_said_32 : decode cX10_said 32 = .ok (.lload_n 2, 1) := by decide +kernel
theorem dX10_said_33 : decode cX10_said 33 = .ok (.lreturn, 1) := by decide +kernel
theorem dX10_apart_0 : decode cX10_apart 0 = .ok (.iload_n 1, 1) := by decide +kernel
theorem dX10_apart_1 : decode cX10_apart 1 = .ok (.invokestatic 172, 3) := by decide +kernel
theorem dX10_apart_4 : decode cX10_apart 4 = .ok (.ifCond .eq 23, 3) := by decide +kernel
theorem dX10_apart_7 : decode cX10_apart 7 = .ok (.iload_n 2, 1) := by decide +kernel
theorem dX10_apart_8 : decode cX10_apart 8 = .ok (.bipush (-2), 2) := by decide +kernel
theorem dX10_apart_10 : decode cX10_apart 10 = .ok (.if_icmp .lt 17, 3) := by decide +kernel
theorem dX10_apart_13 : decode cX10_apart 13 = .ok (.iload_n 2, 1) := by decide +kernel
theorem dX10_apart_14 : decode cX10_apart 14 = .ok (.aload_n 0, 1) := by decide +kernel
theorem dX10_apart_15 : decode cX10_apart 15 = .ok (.getfield 41, 3) := by decide +kernel
theorem dX10_apart_18 : decode cX10_apart 18 = .ok (.getfield 190, 3) := by decide +kernel
theorem dX10_apart_21 : decode cX10_apart 21 = .ok (.getfield 169, 3) := by decide +kernel
theorem dX10_apart_24 : decode cX10_apart 24 = .ok (.if_icmp .lt 7, 3) := by decide +kernel
theorem dX10_apart_27 : decode cX10_apart 27 = .ok (.ldc2_w 89, 3) := by decide +kernel
theorem dX10_apart_30 : decode cX10_apart 30 = .ok (.lreturn, 1) := by decide +kernel
theorem dX10_apart_31 : decode cX10_apart 31 = .ok (.aload_n 0, 1) := by decide +kernel
theorem dX10_apart_32 : decode cX10_apart 32 = .ok (.iload_n 1, 1) := by decide +kernel
theorem dX10_apart_33 : decode cX10_apart 33 = .ok (.invokevirtual 193, 3) := by decide +kernel
theorem dX10_apart_36 : decode cX10_apart 36 = .ok (.ifCond .ne 7, 3) := by decide +kernel
theorem dX10_apart_39 : decode cX10_apart 39 = .ok (.ldc2_w 196, 3) := by decide +kernel
theorem dX10_apart_42 : decode cX10_apart 42 = .ok (.lreturn, 1) := by decide +kernel
theorem dX10_apart_43 : decode cX10_apart 43 = .ok (.iload_n 2, 1) := by decide +kernel
theorem dX10_apart_44 : decode cX10_apart 44 = .ok (.bipush (-2), 2) := by decide +kernel
theorem dX10_apart_46 : decode cX10_apart 46 = .ok (.if_icmp .ne 19, 3) := by decide +kernel
theorem dX10_apart_49 : decode cX10_apart 49 = .ok (.aload_n 0, 1) := by decide +kernel
theorem dX10_apart_50 : decode cX10_apart 50 = .ok (.getfield 52, 3) := by decide +kernel
theorem dX10_apart_53 : decode cX10_apart 53 = .ok (.getfield 198, 3) := by decide +kernel
theorem dX10_apart_56 : decode cX10_apart 56 = .ok (.ifCond .eq 7, 3) := by decide +kernel
theorem dX10_apart_59 : decode cX10_apart 59 = .ok (.lconst 1, 1) := by decide +kernel
theorem dX10_apart_60 : decode cX10_apart 60 = .ok (.goto 4, 3) := by decide +kernel
theorem dX10_apart_63 : decode cX10_apart 63 = .ok (.lconst 0, 1) := by decide +kernel
theorem dX10_apart_64 : decode cX10_apart 64 = .ok (.lreturn, 1) := by decide +kernel
theorem dX10_apart_65 : decode cX10_apart 65 = .ok (.iload_n 2, 1) := by decide +kernel
theorem dX10_apart_66 : decode cX10_apart 66 = .ok (.iconst (-1), 1) := by decide +kernel
theorem dX10_apart_67 : decode cX10_apart 67 = .ok (.if_icmp .ne 13, 3) := by decide +kernel
theorem dX10_apart_70 : decode cX10_apart 70 = .ok (.aload_n 0, 1) := by decide +kernel
theorem dX10_apart_71 : decode cX10_apart 71 = .ok (.getfield 52, 3) := by decide +kernel
theorem dX10_apart_74 : decode cX10_apart 74 = .ok (.getfield 201, 3) := by decide +kernel
theorem dX10_apart_77 : decode cX10_apart 77 = .ok (.goto 15, 3) := by decide +kernel
theorem dX10_apart_80 : decode cX10_apart 80 = .ok (.aload_n 0, 1) := by decide +kernel
theorem dX10_apart_81 : decode cX10_apart 81 = .ok (.getfield 52, 3) := by decide +kernel
theorem dX10_apart_84 : decode cX10_apart 84 = .ok (.getfield 205, 3) := by decide +kernel
theorem dX10_apart_87 : decode cX10_apart 87 = .ok (.iload_n 2, 1) := by decide +kernel
theorem dX10_apart_88 : decode cX10_apart 88 = .ok (.invokestatic 208, 3) := by decide +kernel
theorem dX10_apart_91 : decode cX10_apart 91 = .ok (.i2l, 1) := by decide +kernel
theorem dX10_apart_92 : decode cX10_apart 92 = .ok (.lreturn, 1) := by decide +kernel
theorem dX10_both_0 : decode cX10_both 0 = .ok (.iload_n 1, 1) := by decide +kernel
theorem dX10_both_1 : decode cX10_both 1 = .ok (.invokestatic 172, 3) := by decide +kernel
theorem dX10_both_4 : decode cX10_both 4 = .ok (.ifCond .eq 19, 3) := by decide +kernel
theorem dX10_both_7 : decode cX10_both 7 = .ok (.iload_n 2, 1) := by decide +kernel
theorem dX10_both_8 : decode cX10_both 8 = .ok (.invokestatic 172, 3) := by decide +kernel
theorem dX10_both_11 : decode cX10_both 11 = .ok (.ifCond .eq 12, 3) := by decide +kernel
theorem dX10_both_14 : decode cX10_both 14 = .ok (.iload_n 3, 1) := by decide +kernel
theorem dX10_both_15 : decode cX10_both 15 = .ok (.ifCond .lt 8, 3) := by decide +kernel
theorem dX10_both_18 : decode cX10_both 18 = .ok (.iload_n 3, 1) := by decide +kernel
theorem dX10_both_19 : decode cX10_both 19 = .ok (.iconst 2, 1) := by decide +kernel
theorem dX10_both_20 : decode cX10_both 20 = .ok (.if_icmp .le 7, 3) := by decide +kernel
theorem dX10_both_23 : decode cX10_both 23 = .ok (.ldc2_w 89, 3) := by decide +kernel
theorem dX10_both_26 : decode cX10_both 26 = .ok (.lreturn, 1) := by decide +kernel
theorem dX10_both_27 : decode cX10_both 27 = .ok (.aload_n 0, 1) := by decide +kernel
theorem dX10_both_28 : decode cX10_both 28 = .ok (.getfield 41, 3) := by decide +kernel
theorem dX10_both_31 : decode cX10_both 31 = .ok (.iload_n 1, 1) := by decide +kernel
theorem dX10_both_32 : decode cX10_both 32 = .ok (.invokevirtual 185, 3) := by decide +kernel
theorem dX10_both_35 : decode cX10_both 35 = .ok (.lstore 4, 2) := by decide +kernel
theorem dX10_both_37 : decode cX10_both 37 = .ok (.aload_n 0, 1) := by decide +kernel
theorem dX10_both_38 : decode cX10_both 38 = .ok (.getfield 41, 3) := by decide +kernel
theorem dX10_both_41 : decode cX10_both 41 = .ok (.iload_n 2, 1) := by decide +kernel
theorem dX10_both_42 : decode cX10_both 42 = .ok (.invokevirtual 185, 3) := by decide +kernel
theorem dX10_both_45 : decode cX10_both 45 = .ok (.lstore 6, 2) := by decide +kernel
theorem dX10_both_47 : decode cX10_both 47 = .ok (.lload 4, 2) := by decide +kernel
theorem dX10_both_49 : decode cX10_both 49 = .ok (.lconst 0, 1) := by decide +kernel
theorem dX10_both_50 : decode cX10_both 50 = .ok (.lcmp, 1) := by decide +kernel
theorem dX10_both_51 : decode cX10_both 51 = .ok (.ifCond .eq 10, 3) := by decide +kernel
theorem dX10_both_54 : decode cX10_both 54 = .ok (.lload 6, 2) := by decide +kernel
theorem dX10_both_56 : decode cX10_both 56 = .ok (.lconst 0, 1) := by decide +kernel
theorem dX10_both_57 : decode cX10_both 57 = .ok (.lcmp, 1) := by decide +kernel
theorem dX10_both_58 : decode cX10_both 58 = .ok (.ifCond .ne 7, 3) := by decide +kernel
theorem dX10_both_61 : decode cX10_both 61 = .ok (.ldc2_w 196, 3) := by decide +kernel
theorem dX10_both_64 : decode cX10_both 64 = .ok (.lreturn, 1) := by decide +kernel
theorem dX10_both_65 : decode cX10_both 65 = .ok (.iload_n 3, 1) := by decide +kernel
theorem dX10_both_66 : decode cX10_both 66 = .ok (.ifCond .ne 11, 3) := by decide +kernel
theorem dX10_both_69 : decode cX10_both 69 = .ok (.lload 4, 2) := by decide +kernel
theorem dX10_both_71 : decode cX10_both 71 = .ok (.lload 6, 2) := by decide +kernel
theorem dX10_both_73 : decode cX10_both 73 = .ok (.invokestatic 212, 3) := by decide +kernel
theorem dX10_both_76 : decode cX10_both 76 = .ok (.lreturn, 1) := by decide +kernel
theorem dX10_both_77 : decode cX10_both 77 = .ok (.iload_n 3, 1) := by decide +kernel
theorem dX10_both_78 : decode cX10_both 78 = .ok (.iconst 1, 1) := by decide +kernel
theorem dX10_both_79 : decode cX10_both 79 = .ok (.if_icmp .ne 13, 3) := by decide +kernel
theorem dX10_both_82 : decode cX10_both 82 = .ok (.lload 4, 2) := by decide +kernel
theorem dX10_both_84 : decode cX10_both 84 = .ok (.lload 6, 2) := by decide +kernel
theorem dX10_both_86 : decode cX10_both 86 = .ok (.invokestatic 216, 3) := by decide +kernel
theorem dX10_both_89 : decode cX10_both 89 = .ok (.goto 10, 3) := by decide +kernel
theorem dX10_both_92 : decode cX10_both 92 = .ok (.lload 4, 2) := by decide +kernel
theorem dX10_both_94 : decode cX10_both 94 = .ok (.lload 6, 2) := by decide +kernel
theorem dX10_both_96 : decode cX10_both 96 = .ok (.invokestatic 219, 3) := by decide +kernel
theorem dX10_both_99 : decode cX10_both 99 = .ok (.lreturn, 1) := by decide +kernel
theorem dX10_heard_0 : decode cX10_heard 0 = .ok (.iload_n 1, 1) := by decide +kernel
theorem dX10_heard_1 : decode cX10_heard 1 = .ok (.invokestatic 172, 3) := by decide +kernel
theorem dX10_heard_4 : decode cX10_heard 4 = .ok (.ifCond .eq 8, 3) := by decide +kernel
theorem dX10_heard_7 : decode cX10_heard 7 = .ok (.iload_n 2, 1) := by decide +kernel
theorem dX10_heard_8 : decode cX10_heard 8 = .ok (.iconst (-1), 1) := by decide +kernel
theorem dX10_heard_9 : decode cX10_heard 9 = .ok (.if_icmp .ge 7, 3) := by decide +kernel
theorem dX10_heard_12 : decode cX10_heard 12 = .ok (.ldc2_w 89, 3) := by decide +kernel
theorem dX10_heard_15 : decode cX10_heard 15 = .ok (.lreturn, 1) := by decide +kernel
theorem dX10_heard_16 : decode cX10_heard 16 = .ok (.aload_n 0, 1) := by decide +kernel
theorem dX10_heard_17 : decode cX10_heard 17 = .ok (.getfield 41, 3) := by decide +kernel
theorem dX10_heard_20 : decode cX10_heard 20 = .ok (.iload_n 1, 1) := by decide +kernel
theorem dX10_heard_21 : decode cX10_heard 21 = .ok (.invokevirtual 185, 3) := by decide +kernel
theorem dX10_heard_24 : decode cX10_heard 24 = .ok (.lstore_n 3, 1) := by decide +kernel
theorem dX10_heard_25 : decode cX10_heard 25 = .ok (.lload_n 3, 1) := by decide +kernel
theorem dX10_heard_26 : decode cX10_heard 26 = .ok (.lconst 0, 1) := by decide +kernel
theorem dX10_heard_27 : decode cX10_heard 27 = .ok (.lcmp, 1) := by decide +kernel
theorem dX10_heard_28 : decode cX10_heard 28 = .ok (.ifCond .ne 7, 3) := by decide +kernel
theorem dX10_heard_31 : decode cX10_heard 31 = .ok (.ldc2_w 196, 3) := by decide +kernel
theorem dX10_heard_34 : decode cX10_heard 34 = .ok (.lreturn, 1) := by decide +kernel
theorem dX10_heard_35 : decode cX10_heard 35 = .ok (.aload_n 0, 1) := by decide +kernel
theorem dX10_heard_36 : decode cX10_heard 36 = .ok (.getfield 66, 3) := by decide +kernel
theorem dX10_heard_39 : decode cX10_heard 39 = .ok (.iload_n 2, 1) := by decide +kernel
theorem dX10_heard_40 : decode cX10_heard 40 = .ok (.invokevirtual 222, 3) := by decide +kernel
theorem dX10_heard_43 : decode cX10_heard 43 = .ok (.getstatic 225, 3) := by decide +kernel
theorem dX10_heard_46 : decode cX10_heard 46 = .ok (.arraylength, 1) := by decide +kernel
theorem dX10_heard_47 : decode cX10_heard 47 = .ok (.iconst 1, 1) := by decide +kernel
theorem dX10_heard_48 : decode cX10_heard 48 = .ok (.isub, 1) := by decide +kernel
theorem dX10_heard_49 : decode cX10_heard 49 = .ok (.istore 5, 2) := by decide +kernel
theorem dX10_heard_51 : decode cX10_heard 51 = .ok (.iload 5, 2) := by decide +kernel
theorem dX10_heard_53 : decode cX10_heard 53 = .ok (.ifCond .lt 20, 3) := by decide +kernel
theorem dX10_heard_56 : decode cX10_heard 56 = .ok (.aload_n 0, 1) := by decide +kernel
theorem dX10_heard_57 : decode cX10_heard 57 = .ok (.lload_n 3, 1) := by decide +kernel
theorem dX10_heard_58 : decode cX10_heard 58 = .ok (.getstatic 225, 3) := by decide +kernel
theorem dX10_heard_61 : decode cX10_heard 61 = .ok (.iload 5, 2) := by decide +kernel
theorem dX10_heard_63 : decode cX10_heard 63 = .ok (.laload, 1) := by decide +kernel
theorem dX10_heard_64 : decode cX10_heard 64 = .ok (.invokevirtual 229, 3) := by decide +kernel
theorem dX10_heard_67 : decode cX10_heard 67 = .ok (.iinc 5 (-1), 3) := by decide +kernel
theorem dX10_heard_70 : decode cX10_heard 70 = .ok (.goto (-19), 3) := by decide +kernel
theorem dX10_heard_73 : decode cX10_heard 73 = .ok (.iconst 0, 1) := by decide +kernel
theorem dX10_heard_74 : decode cX10_heard 74 = .ok (.istore 5, 2) := by decide +kernel
theorem dX10_heard_76 : decode cX10_heard 76 = .ok (.iload 5, 2) := by decide +kernel
theorem dX10_heard_78 : decode cX10_heard 78 = .ok (.getstatic 225, 3) := by decide +kernel
theorem dX10_heard_81 : decode cX10_heard 81 = .ok (.arraylength, 1) := by decide +kernel
theorem dX10_heard_82 : decode cX10_heard 82 = .ok (.if_icmp .ge 20, 3) := by decide +kernel
theorem dX10_heard_85 : decode cX10_heard 85 = .ok (.aload_n 0, 1) := by decide +kernel
theorem dX10_heard_86 : decode cX10_heard 86 = .ok (.lload_n 3, 1) := by decide +kernel
theorem dX10_heard_87 : decode cX10_heard 87 = .ok (.getstatic 225, 3) := by decide +kernel
theorem dX10_heard_90 : decode cX10_heard 90 = .ok (.iload 5, 2) := by decide +kernel
theorem dX10_heard_92 : decode cX10_heard 92 = .ok (.laload, 1) := by decide +kernel
theorem dX10_heard_93 : decode cX10_heard 93 = .ok (.invokevirtual 233, 3) := by decide +kernel
theorem dX10_heard_96 : decode cX10_heard 96 = .ok (.iinc 5 1, 3) := by decide +kernel
theorem dX10_heard_99 : decode cX10_heard 99 = .ok (.goto (-23), 3) := by decide +kernel
theorem dX10_heard_102 : decode cX10_heard 102 = .ok (.aload_n 0, 1) := by decide +kernel
theorem dX10_heard_103 : decode cX10_heard 103 = .ok (.getfield 66, 3) := by decide +kernel
theorem dX10_heard_106 : decode cX10_heard 106 = .ok (.invokevirtual 236, 3) := by decide +kernel
theorem dX10_heard_109 : decode cX10_heard 109 = .ok (.lreturn, 1) := by decide +kernel
theorem dX10_dealt_0 : decode cX10_dealt 0 = .ok (.aload_n 0, 1) := by decide +kernel
theorem dX10_dealt_1 : decode cX10_dealt 1 = .ok (.iload_n 1, 1) := by decide +kernel
theorem dX10_dealt_2 : decode cX10_dealt 2 = .ok (.invokevirtual 85, 3) := by decide +kernel
theorem dX10_dealt_5 : decode cX10_dealt 5 = .ok (.astore 5, 2) := by decide +kernel
theorem dX10_dealt_7 : decode cX10_dealt 7 = .ok (.aload 5, 2) := by decide +kernel
theorem dX10_dealt_9 : decode cX10_dealt 9 = .ok (.ifnull 50, 3) := by decide +kernel
theorem dX10_dealt_12 : decode cX10_dealt 12 = .ok (.iload_n 2, 1) := by decide +kernel
theorem dX10_dealt_13 : decode cX10_dealt 13 = .ok (.iconst 2, 1) := by decide +kernel
theorem dX10_dealt_14 : decode cX10_dealt 14 = .ok (.if_icmp .lt 45, 3) := by decide +kernel
theorem dX10_dealt_17 : decode cX10_dealt 17 = .ok (.iload_n 2, 1) := by decide +kernel
theorem dX10_dealt_18 : decode cX10_dealt 18 = .ok (.bipush 6, 2) := by decide +kernel
theorem dX10_dealt_20 : decode cX10_dealt 20 = .ok (.if_icmp .gt 39, 3) := by decide +kernel
theorem dX10_dealt_23 : decode cX10_dealt 23 = .ok (.iload_n 2, 1) := by decide +kernel
theorem dX10_dealt_24 : decode cX10_dealt 24 = .ok (.aload_n 0, 1) := by decide +kernel
theorem dX10_dealt_25 : decode cX10_dealt 25 = .ok (.getfield 41, 3) := by decide +kernel
theorem dX10_dealt_28 : decode cX10_dealt 28 = .ok (.getfield 190, 3) := by decide +kernel
theorem dX10_dealt_31 : decode cX10_dealt 31 = .ok (.getfield 169, 3) := by decide +kernel
theorem dX10_dealt_34 : decode cX10_dealt 34 = .ok (.if_icmp .gt 25, 3) := by decide +kernel
theorem dX10_dealt_37 : decode cX10_dealt 37 = .ok (.iload_n 3, 1) := by decide +kernel
theorem dX10_dealt_38 : decode cX10_dealt 38 = .ok (.iconst 1, 1) := by decide +kernel
theorem dX10_dealt_39 : decode cX10_dealt 39 = .ok (.if_icmp .lt 20, 3) := by decide +kernel
theorem dX10_dealt_42 : decode cX10_dealt 42 = .ok (.iload_n 3, 1) := by decide +kernel
theorem dX10_dealt_43 : decode cX10_dealt 43 = .ok (.iconst 4, 1) := by decide +kernel
theorem dX10_dealt_44 : decode cX10_dealt 44 = .ok (.if_icmp .gt 15, 3) := by decide +kernel
theorem dX10_dealt_47 : decode cX10_dealt 47 = .ok (.iload 4, 2) := by decide +kernel
theorem dX10_dealt_49 : decode cX10_dealt 49 = .ok (.iconst (-1), 1) := by decide +kernel
theorem dX10_dealt_50 : decode cX10_dealt 50 = .ok (.if_icmp .lt 9, 3) := by decide +kernel
theorem dX10_dealt_53 : decode cX10_dealt 53 = .ok (.iload 4, 2) := by decide +kernel
theorem dX10_dealt_55 : decode cX10_dealt 55 = .ok (.iload_n 2, 1) := by decide +kernel
theorem dX10_dealt_56 : decode cX10_dealt 56 = .ok (.if_icmp .lt 7, 3) := by decide +kernel
theorem dX10_dealt_59 : decode cX10_dealt 59 = .ok (.ldc2_w 89, 3) := by decide +kernel
theorem dX10_dealt_62 : decode cX10_dealt 62 = .ok (.lreturn, 1) := by decide +kernel
theorem dX10_dealt_63 : decode cX10_dealt 63 = .ok (.aload 5, 2) := by decide +kernel
theorem dX10_dealt_65 : decode cX10_dealt 65 = .ok (.getfield 103, 3) := by decide +kernel
theorem dX10_dealt_68 : decode cX10_dealt 68 = .ok (.ifCond .ne 9, 3) := by decide +kernel
theorem dX10_dealt_71 : decode cX10_dealt 71 = .ok (.aload_n 0, 1) := by decide +kernel
theorem dX10_dealt_72 : decode cX10_dealt 72 = .ok (.iconst 1, 1) := by decide +kernel
theorem dX10_dealt_73 : decode cX10_dealt 73 = .ok (.invokevirtual 91, 3) := by decide +kernel
theorem dX10_dealt_76 : decode cX10_dealt 76 = .ok (.lreturn, 1) := by decide +kernel
theorem dX10_dealt_77 : decode cX10_dealt 77 = .ok (.aload 5, 2) := by decide +kernel
theorem dX10_dealt_79 : decode cX10_dealt 79 = .ok (.iconst 0, 1) := by decide +kernel
theorem dX10_dealt_80 : decode cX10_dealt 80 = .ok (.iload_n 2, 1) := by decide +kernel
theorem dX10_dealt_81 : decode cX10_dealt 81 = .ok (.iload_n 3, 1) := by decide +kernel
theorem dX10_dealt_82 : decode cX10_dealt 82 = .ok (.imul, 1) := by decide +kernel
theorem dX10_dealt_83 : decode cX10_dealt 83 = .ok (.invokevirtual 107, 3) := by decide +kernel
theorem dX10_dealt_86 : decode cX10_dealt 86 = .ok (.ifCond .ne 9, 3) := by decide +kernel
theorem dX10_dealt_89 : decode cX10_dealt 89 = .ok (.aload_n 0, 1) := by decide +kernel
theorem dX10_dealt_90 : decode cX10_dealt 90 = .ok (.iconst 2, 1) := by decide +kernel
theorem dX10_dealt_91 : decode cX10_dealt 91 = .ok (.invokevirtual 91, 3) := by decide +kernel
theorem dX10_dealt_94 : decode cX10_dealt 94 = .ok (.lreturn, 1) := by decide +kernel
theorem dX10_dealt_95 : decode cX10_dealt 95 = .ok (.aload_n 0, 1) := by decide +kernel
theorem dX10_dealt_96 : decode cX10_dealt 96 = .ok (.getfield 73, 3) := by decide +kernel
theorem dX10_dealt_99 : decode cX10_dealt 99 = .ok (.aload 5, 2) := by decide +kernel
theorem dX10_dealt_101 : decode cX10_dealt 101 = .ok (.iload_n 2, 1) := by decide +kernel
theorem dX10_dealt_102 : decode cX10_dealt 102 = .ok (.iload_n 3, 1) := by decide +kernel
theorem dX10_dealt_103 : decode cX10_dealt 103 = .ok (.invokevirtual 240, 3) := by decide +kernel
theorem dX10_dealt_106 : decode cX10_dealt 106 = .ok (.ifCond .ne 7, 3) := by decide +kernel
theorem dX10_dealt_109 : decode cX10_dealt 109 = .ok (.ldc2_w 89, 3) := by decide +kernel
theorem dX10_dealt_112 : decode cX10_dealt 112 = .ok (.lreturn, 1) := by decide +kernel
theorem dX10_dealt_113 : decode cX10_dealt 113 = .ok (.aload_n 0, 1) := by decide +kernel
theorem dX10_dealt_114 : decode cX10_dealt 114 = .ok (.getfield 73, 3) := by decide +kernel
theorem dX10_dealt_117 : decode cX10_dealt 117 = .ok (.aload_n 0, 1) := by decide +kernel
theorem dX10_dealt_118 : decode cX10_dealt 118 = .ok (.getfield 41, 3) := by decide +kernel
theorem dX10_dealt_121 : decode cX10_dealt 121 = .ok (.getfield 190, 3) := by decide +kernel
theorem dX10_dealt_124 : decode cX10_dealt 124 = .ok (.invokevirtual 244, 3) := by decide +kernel
theorem dX10_dealt_127 : decode cX10_dealt 127 = .ok (.aload_n 0, 1) := by decide +kernel
theorem dX10_dealt_128 : decode cX10_dealt 128 = .ok (.getfield 73, 3) := by decide +kernel
theorem dX10_dealt_131 : decode cX10_dealt 131 = .ok (.getfield 247, 3) := by decide +kernel
theorem dX10_dealt_134 : decode cX10_dealt 134 = .ok (.lconst 0, 1) := by decide +kernel
theorem dX10_dealt_135 : decode cX10_dealt 135 = .ok (.lcmp, 1) := by decide +kernel
theorem dX10_dealt_136 : decode cX10_dealt 136 = .ok (.ifCond .ne 11, 3) := by decide +kernel
theorem dX10_dealt_139 : decode cX10_dealt 139 = .ok (.aload_n 0, 1) := by decide +kernel
theorem dX10_dealt_140 : decode cX10_dealt 140 = .ok (.ldc2_w 188, 3) := by decide +kernel
theorem dX10_dealt_143 : decode cX10_dealt 143 = .ok (.invokevirtual 99, 3) := by decide +kernel
theorem dX10_dealt_146 : decode cX10_dealt 146 = .ok (.lreturn, 1) := by decide +kernel
theorem dX10_dealt_147 : decode cX10_dealt 147 = .ok (.aload_n 0, 1) := by decide +kernel
theorem dX10_dealt_148 : decode cX10_dealt 148 = .ok (.iload 4, 2) := by decide +kernel
theorem dX10_dealt_150 : decode cX10_dealt 150 = .ok (.iconst (-1), 1) := by decide +kernel
theorem dX10_dealt_151 : decode cX10_dealt 151 = .ok (.if_icmp .ne 13, 3) := by decide +kernel
theorem dX10_dealt_154 : decode cX10_dealt 154 = .ok (.aload_n 0, 1) := by decide +kernel
theorem dX10_dealt_155 : decode cX10_dealt 155 = .ok (.getfield 73, 3) := by decide +kernel
theorem dX10_dealt_158 : decode cX10_dealt 158 = .ok (.getfield 247, 3) := by decide +kernel
theorem dX10_dealt_161 : decode cX10_dealt 161 = .ok (.goto 16, 3) := by decide +kernel
theorem dX10_dealt_164 : decode cX10_dealt 164 = .ok (.aload_n 0, 1) := by decide +kernel
theorem dX10_dealt_165 : decode cX10_dealt 165 = .ok (.getfield 73, 3) := by decide +kernel
theorem dX10_dealt_168 : decode cX10_dealt 168 = .ok (.getfield 250, 3) := by decide +kernel
theorem dX10_dealt_171 : decode cX10_dealt 171 = .ok (.iload 4, 2) := by decide +kernel
theorem dX10_dealt_173 : decode cX10_dealt 173 = .ok (.invokestatic 208, 3) := by decide +kernel
theorem dX10_dealt_176 : decode cX10_dealt 176 = .ok (.i2l, 1) := by decide +kernel
theorem dX10_dealt_177 : decode cX10_dealt 177 = .ok (.invokevirtual 99, 3) := by decide +kernel
theorem dX10_dealt_180 : decode cX10_dealt 180 = .ok (.lreturn, 1) := by decide +kernel
theorem dX10_secret_0 : decode cX10_secret 0 = .ok (.iload_n 1, 1) := by decide +kernel
theorem dX10_secret_1 : decode cX10_secret 1 = .ok (.invokestatic 172, 3) := by decide +kernel
theorem dX10_secret_4 : decode cX10_secret 4 = .ok (.ifCond .eq 14, 3) := by decide +kernel
theorem dX10_secret_7 : decode cX10_secret 7 = .ok (.iload_n 2, 1) := by decide +kernel
theorem dX10_secret_8 : decode cX10_secret 8 = .ok (.ifCond .lt 10, 3) := by decide +kernel
theorem dX10_secret_11 : decode cX10_secret 11 = .ok (.iload_n 2, 1) := by decide +kernel
theorem dX10_secret_12 : decode cX10_secret 12 = .ok (.sipush 256, 3) := by decide +kernel
theorem dX10_secret_15 : decode cX10_secret 15 = .ok (.if_icmp .lt 7, 3) := by decide +kernel
theorem dX10_secret_18 : decode cX10_secret 18 = .ok (.ldc2_w 89, 3) := by decide +kernel
theorem dX10_secret_21 : decode cX10_secret 21 = .ok (.lreturn, 1) := by decide +kernel
theorem dX10_secret_22 : decode cX10_secret 22 = .ok (.aload_n 0, 1) := by decide +kernel
theorem dX10_secret_23 : decode cX10_secret 23 = .ok (.getfield 41, 3) := by decide +kernel
theorem dX10_secret_26 : decode cX10_secret 26 = .ok (.iload_n 1, 1) := by decide +kernel
theorem dX10_secret_27 : decode cX10_secret 27 = .ok (.invokevirtual 185, 3) := by decide +kernel
theorem dX10_secret_30 : decode cX10_secret 30 = .ok (.lstore_n 3, 1) := by decide +kernel
theorem dX10_secret_31 : decode cX10_secret 31 = .ok (.lload_n 3, 1) := by decide +kernel
theorem dX10_secret_32 : decode cX10_secret 32 = .ok (.lconst 0, 1) := by decide +kernel
theorem dX10_secret_33 : decode cX10_secret 33 = .ok (.lcmp, 1) := by decide +kernel
theorem dX10_secret_34 : decode cX10_secret 34 = .ok (.ifCond .ne 7, 3) := by decide +kernel
theorem dX10_secret_37 : decode cX10_secret 37 = .ok (.ldc2_w 196, 3) := by decide +kernel
theorem dX10_secret_40 : decode cX10_secret 40 = .ok (.lreturn, 1) := by decide +kernel
theorem dX10_secret_41 : decode cX10_secret 41 = .ok (.iload_n 2, 1) := by decide +kernel
theorem dX10_secret_42 : decode cX10_secret 42 = .ok (.aload_n 0, 1) := by decide +kernel
theorem dX10_secret_43 : decode cX10_secret 43 = .ok (.getfield 41, 3) := by decide +kernel
theorem dX10_secret_46 : decode cX10_secret 46 = .ok (.invokevirtual 253, 3) := by decide +kernel
theorem dX10_secret_49 : decode cX10_secret 49 = .ok (.iand, 1) := by decide +kernel
theorem dX10_secret_50 : decode cX10_secret 50 = .ok (.iconst 1, 1) := by decide +kernel
theorem dX10_secret_51 : decode cX10_secret 51 = .ok (.iload_n 1, 1) := by decide +kernel
theorem dX10_secret_52 : decode cX10_secret 52 = .ok (.ishl, 1) := by decide +kernel
theorem dX10_secret_53 : decode cX10_secret 53 = .ok (.iconst (-1), 1) := by decide +kernel
theorem dX10_secret_54 : decode cX10_secret 54 = .ok (.ixor, 1) := by decide +kernel
theorem dX10_secret_55 : decode cX10_secret 55 = .ok (.iand, 1) := by decide +kernel
theorem dX10_secret_56 : decode cX10_secret 56 = .ok (.istore 5, 2) := by decide +kernel
theorem dX10_secret_58 : decode cX10_secret 58 = .ok (.iconst (-1), 1) := by decide +kernel
theorem dX10_secret_59 : decode cX10_secret 59 = .ok (.istore 6, 2) := by decide +kernel
theorem dX10_secret_61 : decode cX10_secret 61 = .ok (.iconst 0, 1) := by decide +kernel
theorem dX10_secret_62 : decode cX10_secret 62 = .ok (.istore 7, 2) := by decide +kernel
theorem dX10_secret_64 : decode cX10_secret 64 = .ok (.iload 7, 2) := by decide +kernel
theorem dX10_secret_66 : decode cX10_secret 66 = .ok (.sipush 256, 3) := by decide +kernel
theorem dX10_secret_69 : decode cX10_secret 69 = .ok (.if_icmp .ge 65, 3) := by decide +kernel
theorem dX10_secret_72 : decode cX10_secret 72 = .ok (.iload 6, 2) := by decide +kernel
theorem dX10_secret_74 : decode cX10_secret 74 = .ok (.ifCond .lt 16, 3) := by decide +kernel
theorem dX10_secret_77 : decode cX10_secret 77 = .ok (.iload 7, 2) := by decide +kernel
theorem dX10_secret_79 : decode cX10_secret 79 = .ok (.invokestatic 257, 3) := by decide +kernel
theorem dX10_secret_82 : decode cX10_secret 82 = .ok (.iload 6, 2) := by decide +kernel
theorem dX10_secret_84 : decode cX10_secret 84 = .ok (.invokestatic 257, 3) := by decide +kernel
theorem dX10_secret_87 : decode cX10_secret 87 = .ok (.if_icmp .ge 7, 3) := by decide +kernel
theorem dX10_secret_90 : decode cX10_secret 90 = .ok (.iconst 1, 1) := by decide +kernel
theorem dX10_secret_91 : decode cX10_secret 91 = .ok (.goto 4, 3) := by decide +kernel
theorem dX10_secret_94 : decode cX10_secret 94 = .ok (.iconst 0, 1) := by decide +kernel
theorem dX10_secret_95 : decode cX10_secret 95 = .ok (.istore 8, 2) := by decide +kernel
theorem dX10_secret_97 : decode cX10_secret 97 = .ok (.iload 8, 2) := by decide +kernel
theorem dX10_secret_99 : decode cX10_secret 99 = .ok (.ifCond .eq 29, 3) := by decide +kernel
theorem dX10_secret_102 : decode cX10_secret 102 = .ok (.iload 7, 2) := by decide +kernel
theorem dX10_secret_104 : decode cX10_secret 104 = .ok (.iload 5, 2) := by decide +kernel
theorem dX10_secret_106 : decode cX10_secret 106 = .ok (.iconst (-1), 1) := by decide +kernel
theorem dX10_secret_107 : decode cX10_secret 107 = .ok (.ixor, 1) := by decide +kernel
theorem dX10_secret_108 : decode cX10_secret 108 = .ok (.iand, 1) := by decide +kernel
theorem dX10_secret_109 : decode cX10_secret 109 = .ok (.ifCond .ne 19, 3) := by decide +kernel
theorem dX10_secret_112 : decode cX10_secret 112 = .ok (.aload_n 0, 1) := by decide +kernel
theorem dX10_secret_113 : decode cX10_secret 113 = .ok (.iload 7, 2) := by decide +kernel
theorem dX10_secret_115 : decode cX10_secret 115 = .ok (.lload_n 3, 1) := by decide +kernel
theorem dX10_secret_116 : decode cX10_secret 116 = .ok (.invokevirtual 262, 3) := by decide +kernel
theorem dX10_secret_119 : decode cX10_secret 119 = .ok (.lload_n 3, 1) := by decide +kernel
theorem dX10_secret_120 : decode cX10_secret 120 = .ok (.lcmp, 1) := by decide +kernel
theorem dX10_secret_121 : decode cX10_secret 121 = .ok (.ifCond .ne 7, 3) := by decide +kernel
theorem dX10_secret_124 : decode cX10_secret 124 = .ok (.iload 7, 2) := by decide +kernel
theorem dX10_secret_126 : decode cX10_secret 126 = .ok (.istore 6, 2) := by decide +kernel
theorem dX10_secret_128 : decode cX10_secret 128 = .ok (.iinc 7 1, 3) := by decide +kernel
theorem dX10_secret_131 : decode cX10_secret 131 = .ok (.goto (-67), 3) := by decide +kernel
theorem dX10_secret_134 : decode cX10_secret 134 = .ok (.iload 6, 2) := by decide +kernel
theorem dX10_secret_136 : decode cX10_secret 136 = .ok (.ifCond .ge 9, 3) := by decide +kernel
theorem dX10_secret_139 : decode cX10_secret 139 = .ok (.ldc2_w 188, 3) := by decide +kernel
theorem dX10_secret_142 : decode cX10_secret 142 = .ok (.goto 6, 3) := by decide +kernel
theorem dX10_secret_145 : decode cX10_secret 145 = .ok (.iload 6, 2) := by decide +kernel
theorem dX10_secret_147 : decode cX10_secret 147 = .ok (.i2l, 1) := by decide +kernel
theorem dX10_secret_148 : decode cX10_secret 148 = .ok (.lreturn, 1) := by decide +kernel
theorem dX10_signed_0 : decode cX10_signed 0 = .ok (.iload_n 1, 1) := by decide +kernel
theorem dX10_signed_1 : decode cX10_signed 1 = .ok (.invokestatic 172, 3) := by decide +kernel
theorem dX10_signed_4 : decode cX10_signed 4 = .ok (.ifCond .eq 15, 3) := by decide +kernel
theorem dX10_signed_7 : decode cX10_signed 7 = .ok (.iload_n 2, 1) := by decide +kernel
theorem dX10_signed_8 : decode cX10_signed 8 = .ok (.iconst (-1), 1) := by decide +kernel
theorem dX10_signed_9 : decode cX10_signed 9 = .ok (.if_icmp .lt 10, 3) := by decide +kernel
theorem dX10_signed_12 : decode cX10_signed 12 = .ok (.iload_n 2, 1) := by decide +kernel
theorem dX10_signed_13 : decode cX10_signed 13 = .ok (.sipush 4096, 3) := by decide +kernel
theorem dX10_signed_16 : decode cX10_signed 16 = .ok (.if_icmp .lt 7, 3) := by decide +kernel
theorem dX10_signed_19 : decode cX10_signed 19 = .ok (.ldc2_w 89, 3) := by decide +kernel
theorem dX10_signed_22 : decode cX10_signed 22 = .ok (.lreturn, 1) := by decide +kernel
theorem dX10_signed_23 : decode cX10_signed 23 = .ok (.aload_n 0, 1) := by decide +kernel
theorem dX10_signed_24 : decode cX10_signed 24 = .ok (.iload_n 1, 1) := by decide +kernel
theorem dX10_signed_25 : decode cX10_signed 25 = .ok (.invokevirtual 193, 3) := by decide +kernel
theorem dX10_signed_28 : decode cX10_signed 28 = .ok (.ifCond .ne 7, 3) := by decide +kernel
theorem dX10_signed_31 : decode cX10_signed 31 = .ok (.ldc2_w 196, 3) := by decide +kernel
theorem dX10_signed_34 : decode cX10_signed 34 = .ok (.lreturn, 1) := by decide +kernel
theorem dX10_signed_35 : decode cX10_signed 35 = .ok (.aload_n 0, 1) := by decide +kernel
theorem dX10_signed_36 : decode cX10_signed 36 = .ok (.getfield 52, 3) := by decide +kernel
theorem dX10_signed_39 : decode cX10_signed 39 = .ok (.invokevirtual 266, 3) := by decide +kernel
theorem dX10_signed_42 : decode cX10_signed 42 = .ok (.istore_n 3, 1) := by decide +kernel
theorem dX10_signed_43 : decode cX10_signed 43 = .ok (.iload_n 2, 1) := by decide +kernel
theorem dX10_signed_44 : decode cX10_signed 44 = .ok (.iconst (-1), 1) := by decide +kernel
theorem dX10_signed_45 : decode cX10_signed 45 = .ok (.if_icmp .ne 8, 3) := by decide +kernel
theorem dX10_signed_48 : decode cX10_signed 48 = .ok (.iload_n 3, 1) := by decide +kernel
theorem dX10_signed_49 : decode cX10_signed 49 = .ok (.i2l, 1) := by decide +kernel
theorem dX10_signed_50 : decode cX10_signed 50 = .ok (.goto 9, 3) := by decide +kernel
theorem dX10_signed_53 : decode cX10_signed 53 = .ok (.iload_n 2, 1) := by decide +kernel
theorem dX10_signed_54 : decode cX10_signed 54 = .ok (.iload_n 3, 1) := by decide +kernel
theorem dX10_signed_55 : decode cX10_signed 55 = .ok (.iconst (-1), 1) := by decide +kernel
theorem dX10_signed_56 : decode cX10_signed 56 = .ok (.ixor, 1) := by decide +kernel
theorem dX10_signed_57 : decode cX10_signed 57 = .ok (.iand, 1) := by decide +kernel
theorem dX10_signed_58 : decode cX10_signed 58 = .ok (.i2l, 1) := by decide +kernel
theorem dX10_signed_59 : decode cX10_signed 59 = .ok (.lreturn, 1) := by decide +kernel
theorem dX10_plus_0 : decode cX10_plus 0 = .ok (.aload_n 0, 1) := by decide +kernel
theorem dX10_plus_1 : decode cX10_plus 1 = .ok (.getfield 41, 3) := by decide +kernel
theorem dX10_plus_4 : decode cX10_plus 4 = .ok (.getfield 190, 3) := by decide +kernel
theorem dX10_plus_7 : decode cX10_plus 7 = .ok (.getfield 169, 3) := by decide +kernel
theorem dX10_plus_10 : decode cX10_plus 10 = .ok (.ifCond .ne 7, 3) := by decide +kernel
theorem dX10_plus_13 : decode cX10_plus 13 = .ok (.ldc2_w 196, 3) := by decide +kernel
theorem dX10_plus_16 : decode cX10_plus 16 = .ok (.lreturn, 1) := by decide +kernel
theorem dX10_plus_17 : decode cX10_plus 17 = .ok (.iload_n 1, 1) := by decide +kernel
theorem dX10_plus_18 : decode cX10_plus 18 = .ok (.iconst 2, 1) := by decide +kernel
theorem dX10_plus_19 : decode cX10_plus 19 = .ok (.if_icmp .lt 15, 3) := by decide +kernel
theorem dX10_plus_22 : decode cX10_plus 22 = .ok (.iload_n 1, 1) := by decide +kernel
theorem dX10_plus_23 : decode cX10_plus 23 = .ok (.sipush 2000, 3) := by decide +kernel
theorem dX10_plus_26 : decode cX10_plus 26 = .ok (.if_icmp .gt 8, 3) := by decide +kernel
theorem dX10_plus_29 : decode cX10_plus 29 = .ok (.iload_n 2, 1) := by decide +kernel
theorem dX10_plus_30 : decode cX10_plus 30 = .ok (.iconst (-1), 1) := by decide +kernel
theorem dX10_plus_31 : decode cX10_plus 31 = .ok (.if_icmp .ge 7, 3) := by decide +kernel
theorem dX10_plus_34 : decode cX10_plus 34 = .ok (.ldc2_w 89, 3) := by decide +kernel
theorem dX10_plus_37 : decode cX10_plus 37 = .ok (.lreturn, 1) := by decide +kernel
theorem dX10_plus_38 : decode cX10_plus 38 = .ok (.aload_n 0, 1) := by decide +kernel
theorem dX10_plus_39 : decode cX10_plus 39 = .ok (.getfield 66, 3) := by decide +kernel
theorem dX10_plus_42 : decode cX10_plus 42 = .ok (.iload_n 2, 1) := by decide +kernel
theorem dX10_plus_43 : decode cX10_plus 43 = .ok (.invokevirtual 222, 3) := by decide +kernel
theorem dX10_plus_46 : decode cX10_plus 46 = .ok (.iconst 1, 1) := by decide +kernel
theorem dX10_plus_47 : decode cX10_plus 47 = .ok (.istore_n 3, 1) := by decide +kernel
theorem dX10_plus_48 : decode cX10_plus 48 = .ok (.iload_n 3, 1) := by decide +kernel
theorem dX10_plus_49 : decode cX10_plus 49 = .ok (.iload_n 1, 1) := by decide +kernel
theorem dX10_plus_50 : decode cX10_plus 50 = .ok (.iconst 2, 1) := by decide +kernel
theorem dX10_plus_51 : decode cX10_plus 51 = .ok (.idiv, 1) := by decide +kernel
theorem dX10_plus_52 : decode cX10_plus 52 = .ok (.if_icmp .gt 58, 3) := by decide +kernel
theorem dX10_plus_55 : decode cX10_plus 55 = .ok (.aload_n 0, 1) := by decide +kernel
theorem dX10_plus_56 : decode cX10_plus 56 = .ok (.getfield 59, 3) := by decide +kernel
theorem dX10_plus_59 : decode cX10_plus 59 = .ok (.aload_n 0, 1) := by decide +kernel
theorem dX10_plus_60 : decode cX10_plus 60 = .ok (.getfield 41, 3) := by decide +kernel
theorem dX10_plus_63 : decode cX10_plus 63 = .ok (.getfield 190, 3) := by decide +kernel
theorem dX10_plus_66 : decode cX10_plus 66 = .ok (.iload_n 3, 1) := by decide +kernel
theorem dX10_plus_67 : decode cX10_plus 67 = .ok (.i2l, 1) := by decide +kernel
theorem dX10_plus_68 : decode cX10_plus 68 = .ok (.invokevirtual 269, 3) := by decide +kernel
theorem dX10_plus_71 : decode cX10_plus 71 = .ok (.ifCond .eq 33, 3) := by decide +kernel
theorem dX10_plus_74 : decode cX10_plus 74 = .ok (.aload_n 0, 1) := by decide +kernel
theorem dX10_plus_75 : decode cX10_plus 75 = .ok (.getfield 59, 3) := by decide +kernel
theorem dX10_plus_78 : decode cX10_plus 78 = .ok (.aload_n 0, 1) := by decide +kernel
theorem dX10_plus_79 : decode cX10_plus 79 = .ok (.getfield 41, 3) := by decide +kernel
theorem dX10_plus_82 : decode cX10_plus 82 = .ok (.getfield 190, 3) := by decide +kernel
theorem dX10_plus_85 : decode cX10_plus 85 = .ok (.iload_n 1, 1) := by decide +kernel
theorem dX10_plus_86 : decode cX10_plus 86 = .ok (.iload_n 3, 1) := by decide +kernel
theorem dX10_plus_87 : decode cX10_plus 87 = .ok (.isub, 1) := by decide +kernel
theorem dX10_plus_88 : decode cX10_plus 88 = .ok (.i2l, 1) := by decide +kernel
theorem dX10_plus_89 : decode cX10_plus 89 = .ok (.invokevirtual 269, 3) := by decide +kernel
theorem dX10_plus_92 : decode cX10_plus 92 = .ok (.ifCond .eq 12, 3) := by decide +kernel
theorem dX10_plus_95 : decode cX10_plus 95 = .ok (.aload_n 0, 1) := by decide +kernel
theorem dX10_plus_96 : decode cX10_plus 96 = .ok (.getfield 66, 3) := by decide +kernel
theorem dX10_plus_99 : decode cX10_plus 99 = .ok (.iload_n 3, 1) := by decide +kernel
theorem dX10_plus_100 : decode cX10_plus 100 = .ok (.i2l, 1) := by decide +kernel
theorem dX10_plus_101 : decode cX10_plus 101 = .ok (.invokevirtual 273, 3) := by decide +kernel
theorem dX10_plus_104 : decode cX10_plus 104 = .ok (.iinc 3 1, 3) := by decide +kernel
theorem dX10_plus_107 : decode cX10_plus 107 = .ok (.goto (-59), 3) := by decide +kernel
theorem dX10_plus_110 : decode cX10_plus 110 = .ok (.aload_n 0, 1) := by decide +kernel
theorem dX10_plus_111 : decode cX10_plus 111 = .ok (.getfield 66, 3) := by decide +kernel
theorem dX10_plus_114 : decode cX10_plus 114 = .ok (.invokevirtual 236, 3) := by decide +kernel
theorem dX10_plus_117 : decode cX10_plus 117 = .ok (.lreturn, 1) := by decide +kernel
theorem dX10_same_0 : decode cX10_same 0 = .ok (.iload_n 1, 1) := by decide +kernel
theorem dX10_same_1 : decode cX10_same 1 = .ok (.invokestatic 172, 3) := by decide +kernel
theorem dX10_same_4 : decode cX10_same 4 = .ok (.ifCond .ne 7, 3) := by decide +kernel
theorem dX10_same_7 : decode cX10_same 7 = .ok (.ldc2_w 89, 3) := by decide +kernel
theorem dX10_same_10 : decode cX10_same 10 = .ok (.lreturn, 1) := by decide +kernel
theorem dX10_same_11 : decode cX10_same 11 = .ok (.aload_n 0, 1) := by decide +kernel
theorem dX10_same_12 : decode cX10_same 12 = .ok (.iload_n 1, 1) := by decide +kernel
theorem dX10_same_13 : decode cX10_same 13 = .ok (.invokevirtual 193, 3) := by decide +kernel
theorem dX10_same_16 : decode cX10_same 16 = .ok (.ifCond .ne 7, 3) := by decide +kernel
theorem dX10_same_19 : decode cX10_same 19 = .ok (.ldc2_w 196, 3) := by decide +kernel
theorem dX10_same_22 : decode cX10_same 22 = .ok (.lreturn, 1) := by decide +kernel
theorem dX10_same_23 : decode cX10_same 23 = .ok (.aload_n 0, 1) := by decide +kernel
theorem dX10_same_24 : decode cX10_same 24 = .ok (.getfield 52, 3) := by decide +kernel
theorem dX10_same_27 : decode cX10_same 27 = .ok (.getfield 201, 3) := by decide +kernel
theorem dX10_same_30 : decode cX10_same 30 = .ok (.lconst 1, 1) := by decide +kernel
theorem dX10_same_31 : decode cX10_same 31 = .ok (.lcmp, 1) := by decide +kernel
theorem dX10_same_32 : decode cX10_same 32 = .ok (.ifCond .ne 28, 3) := by decide +kernel
theorem dX10_same_35 : decode cX10_same 35 = .ok (.aload_n 0, 1) := by decide +kernel
theorem dX10_same_36 : decode cX10_same 36 = .ok (.getfield 41, 3) := by decide +kernel
theorem dX10_same_39 : decode cX10_same 39 = .ok (.getfield 190, 3) := by decide +kernel
theorem dX10_same_42 : decode cX10_same 42 = .ok (.aload_n 0, 1) := by decide +kernel
theorem dX10_same_43 : decode cX10_same 43 = .ok (.getfield 52, 3) := by decide +kernel
theorem dX10_same_46 : decode cX10_same 46 = .ok (.getfield 205, 3) := by decide +kernel
theorem dX10_same_49 : decode cX10_same 49 = .ok (.iconst 0, 1) := by decide +kernel
theorem dX10_same_50 : decode cX10_same 50 = .ok (.aload_n 0, 1) := by decide +kernel
theorem dX10_same_51 : decode cX10_same 51 = .ok (.invokevirtual 277, 3) := by decide +kernel
theorem dX10_same_54 : decode cX10_same 54 = .ok (.invokestatic 280, 3) := by decide +kernel
theorem dX10_same_57 : decode cX10_same 57 = .ok (.goto 6, 3) := by decide +kernel
theorem dX10_same_60 : decode cX10_same 60 = .ok (.ldc2_w 188, 3) := by decide +kernel
theorem dX10_same_63 : decode cX10_same 63 = .ok (.lreturn, 1) := by decide +kernel
theorem dX10_image_0 : decode cX10_image 0 = .ok (.aload_n 0, 1) := by decide +kernel
theorem dX10_image_1 : decode cX10_image 1 = .ok (.iload_n 1, 1) := by decide +kernel
theorem dX10_image_2 : decode cX10_image 2 = .ok (.invokevirtual 284, 3) := by decide +kernel
theorem dX10_image_5 : decode cX10_image 5 = .ok (.astore_n 2, 1) := by decide +kernel
theorem dX10_image_6 : decode cX10_image 6 = .ok (.aload_n 2, 1) := by decide +kernel
theorem dX10_image_7 : decode cX10_image 7 = .ok (.ifnonnull 7, 3) := by decide +kernel
theorem dX10_image_10 : decode cX10_image 10 = .ok (.ldc2_w 89, 3) := by decide +kernel
theorem dX10_image_13 : decode cX10_image 13 = .ok (.lreturn, 1) := by decide +kernel
theorem dX10_image_14 : decode cX10_image 14 = .ok (.aload_n 0, 1) := by decide +kernel
theorem dX10_image_15 : decode cX10_image 15 = .ok (.getfield 41, 3) := by decide +kernel
theorem dX10_image_18 : decode cX10_image 18 = .ok (.getfield 190, 3) := by decide +kernel
theorem dX10_image_21 : decode cX10_image 21 = .ok (.getfield 169, 3) := by decide +kernel
theorem dX10_image_24 : decode cX10_image 24 = .ok (.ifCond .ne 7, 3) := by decide +kernel
theorem dX10_image_27 : decode cX10_image 27 = .ok (.ldc2_w 196, 3) := by decide +kernel
theorem dX10_image_30 : decode cX10_image 30 = .ok (.lreturn, 1) := by decide +kernel
theorem dX10_image_31 : decode cX10_image 31 = .ok (.aload_n 2, 1) := by decide +kernel
theorem dX10_image_32 : decode cX10_image 32 = .ok (.aload_n 0, 1) := by decide +kernel
theorem dX10_image_33 : decode cX10_image 33 = .ok (.getfield 41, 3) := by decide +kernel
theorem dX10_image_36 : decode cX10_image 36 = .ok (.invokevirtual 288, 3) := by decide +kernel
theorem dX10_image_39 : decode cX10_image 39 = .ok (.lconst 1, 1) := by decide +kernel
theorem dX10_image_40 : decode cX10_image 40 = .ok (.lreturn, 1) := by decide +kernel
theorem dX10_restore_0 : decode cX10_restore 0 = .ok (.aload_n 0, 1) := by decide +kernel
theorem dX10_restore_1 : decode cX10_restore 1 = .ok (.iload_n 1, 1) := by decide +kernel
theorem dX10_restore_2 : decode cX10_restore 2 = .ok (.invokevirtual 284, 3) := by decide +kernel
theorem dX10_restore_5 : decode cX10_restore 5 = .ok (.astore_n 2, 1) := by decide +kernel
theorem dX10_restore_6 : decode cX10_restore 6 = .ok (.aload_n 2, 1) := by decide +kernel
theorem dX10_restore_7 : decode cX10_restore 7 = .ok (.ifnonnull 7, 3) := by decide +kernel
theorem dX10_restore_10 : decode cX10_restore 10 = .ok (.ldc2_w 89, 3) := by decide +kernel
theorem dX10_restore_13 : decode cX10_restore 13 = .ok (.lreturn, 1) := by decide +kernel
theorem dX10_restore_14 : decode cX10_restore 14 = .ok (.aload_n 2, 1) := by decide +kernel
theorem dX10_restore_15 : decode cX10_restore 15 = .ok (.getfield 190, 3) := by decide +kernel
theorem dX10_restore_18 : decode cX10_restore 18 = .ok (.getfield 169, 3) := by decide +kernel
theorem dX10_restore_21 : decode cX10_restore 21 = .ok (.ifCond .ne 7, 3) := by decide +kernel
theorem dX10_restore_24 : decode cX10_restore 24 = .ok (.ldc2_w 196, 3) := by decide +kernel
theorem dX10_restore_27 : decode cX10_restore 27 = .ok (.lreturn, 1) := by decide +kernel
theorem dX10_restore_28 : decode cX10_restore 28 = .ok (.aload_n 0, 1) := by decide +kernel
theorem dX10_restore_29 : decode cX10_restore 29 = .ok (.getfield 41, 3) := by decide +kernel
theorem dX10_restore_32 : decode cX10_restore 32 = .ok (.aload_n 2, 1) := by decide +kernel
theorem dX10_restore_33 : decode cX10_restore 33 = .ok (.invokevirtual 288, 3) := by decide +kernel
theorem dX10_restore_36 : decode cX10_restore 36 = .ok (.aload_n 0, 1) := by decide +kernel
theorem dX10_restore_37 : decode cX10_restore 37 = .ok (.getfield 59, 3) := by decide +kernel
theorem dX10_restore_40 : decode cX10_restore 40 = .ok (.invokevirtual 166, 3) := by decide +kernel
theorem dX10_restore_43 : decode cX10_restore 43 = .ok (.lconst 1, 1) := by decide +kernel
theorem dX10_restore_44 : decode cX10_restore 44 = .ok (.lreturn, 1) := by decide +kernel
theorem dX10_kind_0 : decode cX10_kind 0 = .ok (.iload_n 1, 1) := by decide +kernel
theorem dX10_kind_1 : decode cX10_kind 1 = .ok (.invokestatic 172, 3) := by decide +kernel
theorem dX10_kind_4 : decode cX10_kind 4 = .ok (.ifCond .ne 7, 3) := by decide +kernel
theorem dX10_kind_7 : decode cX10_kind 7 = .ok (.ldc2_w 89, 3) := by decide +kernel
theorem dX10_kind_10 : decode cX10_kind 10 = .ok (.lreturn, 1) := by decide +kernel
theorem dX10_kind_11 : decode cX10_kind 11 = .ok (.aload_n 0, 1) := by decide +kernel
theorem dX10_kind_12 : decode cX10_kind 12 = .ok (.iload_n 1, 1) := by decide +kernel
theorem dX10_kind_13 : decode cX10_kind 13 = .ok (.invokevirtual 193, 3) := by decide +kernel
theorem dX10_kind_16 : decode cX10_kind 16 = .ok (.ifCond .eq 14, 3) := by decide +kernel
theorem dX10_kind_19 : decode cX10_kind 19 = .ok (.aload_n 0, 1) := by decide +kernel
theorem dX10_kind_20 : decode cX10_kind 20 = .ok (.getfield 52, 3) := by decide +kernel
theorem dX10_kind_23 : decode cX10_kind 23 = .ok (.invokevirtual 292, 3) := by decide +kernel
theorem dX10_kind_26 : decode cX10_kind 26 = .ok (.i2l, 1) := by decide +kernel
theorem dX10_kind_27 : decode cX10_kind 27 = .ok (.goto 6, 3) := by decide +kernel
theorem dX10_kind_30 : decode cX10_kind 30 = .ok (.ldc2_w 196, 3) := by decide +kernel
theorem dX10_kind_33 : decode cX10_kind 33 = .ok (.lreturn, 1) := by decide +kernel
theorem dX10_as_0 : decode cX10_as 0 = .ok (.iload_n 1, 1) := by decide +kernel
theorem dX10_as_1 : decode cX10_as 1 = .ok (.invokestatic 172, 3) := by decide +kernel
theorem dX10_as_4 : decode cX10_as 4 = .ok (.ifCond .eq 13, 3) := by decide +kernel
theorem dX10_as_7 : decode cX10_as 7 = .ok (.iload_n 2, 1) := by decide +kernel
theorem dX10_as_8 : decode cX10_as 8 = .ok (.ifCond .lt 9, 3) := by decide +kernel
theorem dX10_as_11 : decode cX10_as 11 = .ok (.iload_n 2, 1) := by decide +kernel
theorem dX10_as_12 : decode cX10_as 12 = .ok (.bipush 6, 2) := by decide +kernel
theorem dX10_as_14 : decode cX10_as 14 = .ok (.if_icmp .lt 7, 3) := by decide +kernel
theorem dX10_as_17 : decode cX10_as 17 = .ok (.ldc2_w 89, 3) := by decide +kernel
theorem dX10_as_20 : decode cX10_as 20 = .ok (.lreturn, 1) := by decide +kernel
theorem dX10_as_21 : decode cX10_as 21 = .ok (.aload_n 0, 1) := by decide +kernel
theorem dX10_as_22 : decode cX10_as 22 = .ok (.iload_n 1, 1) := by decide +kernel
theorem dX10_as_23 : decode cX10_as 23 = .ok (.invokevirtual 193, 3) := by decide +kernel
theorem dX10_as_26 : decode cX10_as 26 = .ok (.ifCond .ne 7, 3) := by decide +kernel
theorem dX10_as_29 : decode cX10_as 29 = .ok (.ldc2_w 196, 3) := by decide +kernel
theorem dX10_as_32 : decode cX10_as 32 = .ok (.lreturn, 1) := by decide +kernel
theorem dX10_as_33 : decode cX10_as 33 = .ok (.aload_n 0, 1) := by decide +kernel
theorem dX10_as_34 : decode cX10_as 34 = .ok (.getfield 52, 3) := by decide +kernel
theorem dX10_as_37 : decode cX10_as 37 = .ok (.invokevirtual 292, 3) := by decide +kernel
theorem dX10_as_40 : decode cX10_as 40 = .ok (.istore_n 3, 1) := by decide +kernel
theorem dX10_as_41 : decode cX10_as 41 = .ok (.iconst 0, 1) := by decide +kernel
theorem dX10_as_42 : decode cX10_as 42 = .ok (.istore 4, 2) := by decide +kernel
theorem dX10_as_44 : decode cX10_as 44 = .ok (.iload 4, 2) := by decide +kernel
theorem dX10_as_46 : decode cX10_as 46 = .ok (.bipush 6, 2) := by decide +kernel
theorem dX10_as_48 : decode cX10_as 48 = .ok (.if_icmp .ge 30, 3) := by decide +kernel
theorem dX10_as_51 : decode cX10_as 51 = .ok (.iload_n 3, 1) := by decide +kernel
theorem dX10_as_52 : decode cX10_as 52 = .ok (.ifCond .lt 26, 3) := by decide +kernel
theorem dX10_as_55 : decode cX10_as 55 = .ok (.iload_n 3, 1) := by decide +kernel
theorem dX10_as_56 : decode cX10_as 56 = .ok (.iload_n 2, 1) := by decide +kernel
theorem dX10_as_57 : decode cX10_as 57 = .ok (.if_icmp .ne 10, 3) := by decide +kernel
theorem dX10_as_60 : decode cX10_as 60 = .ok (.aload_n 0, 1) := by decide +kernel
theorem dX10_as_61 : decode cX10_as 61 = .ok (.iload_n 1, 1) := by decide +kernel
theorem dX10_as_62 : decode cX10_as 62 = .ok (.i2l, 1) := by decide +kernel
theorem dX10_as_63 : decode cX10_as 63 = .ok (.invokevirtual 99, 3) := by decide +kernel
theorem dX10_as_66 : decode cX10_as 66 = .ok (.lreturn, 1) := by decide +kernel
theorem dX10_as_67 : decode cX10_as 67 = .ok (.iload_n 3, 1) := by decide +kernel
theorem dX10_as_68 : decode cX10_as 68 = .ok (.invokestatic 295, 3) := by decide +kernel
theorem dX10_as_71 : decode cX10_as 71 = .ok (.istore_n 3, 1) := by decide +kernel
theorem dX10_as_72 : decode cX10_as 72 = .ok (.iinc 4 1, 3) := by decide +kernel
theorem dX10_as_75 : decode cX10_as 75 = .ok (.goto (-31), 3) := by decide +kernel
theorem dX10_as_78 : decode cX10_as 78 = .ok (.aload_n 0, 1) := by decide +kernel
theorem dX10_as_79 : decode cX10_as 79 = .ok (.iconst 3, 1) := by decide +kernel
theorem dX10_as_80 : decode cX10_as 80 = .ok (.invokevirtual 91, 3) := by decide +kernel
theorem dX10_as_83 : decode cX10_as 83 = .ok (.lreturn, 1) := by decide +kernel
theorem dX10_ask_0 : decode cX10_ask 0 = .ok (.iload_n 1, 1) := by decide +kernel
theorem dX10_ask_1 : decode cX10_ask 1 = .ok (.invokestatic 172, 3) := by decide +kernel
theorem dX10_ask_4 : decode cX10_ask 4 = .ok (.ifCond .eq 12, 3) := by decide +kernel
theorem dX10_ask_7 : decode cX10_ask 7 = .ok (.iload_n 2, 1) := by decide +kernel
theorem dX10_ask_8 : decode cX10_ask 8 = .ok (.ifCond .lt 8, 3) := by decide +kernel
theorem dX10_ask_11 : decode cX10_ask 11 = .ok (.iload_n 2, 1) := by decide +kernel
theorem dX10_ask_12 : decode cX10_ask 12 = .ok (.iconst 1, 1) := by decide +kernel
theorem dX10_ask_13 : decode cX10_ask 13 = .ok (.if_icmp .le 7, 3) := by decide +kernel
theorem dX10_ask_16 : decode cX10_ask 16 = .ok (.ldc2_w 89, 3) := by decide +kernel
theorem dX10_ask_19 : decode cX10_ask 19 = .ok (.lreturn, 1) := by decide +kernel
theorem dX10_ask_20 : decode cX10_ask 20 = .ok (.aload_n 0, 1) := by decide +kernel
theorem dX10_ask_21 : decode cX10_ask 21 = .ok (.iload_n 1, 1) := by decide +kernel
theorem dX10_ask_22 : decode cX10_ask 22 = .ok (.invokevirtual 193, 3) := by decide +kernel
theorem dX10_ask_25 : decode cX10_ask 25 = .ok (.ifCond .ne 7, 3) := by decide +kernel
theorem dX10_ask_28 : decode cX10_ask 28 = .ok (.ldc2_w 196, 3) := by decide +kernel
theorem dX10_ask_31 : decode cX10_ask 31 = .ok (.lreturn, 1) := by decide +kernel
theorem dX10_ask_32 : decode cX10_ask 32 = .ok (.aload_n 0, 1) := by decide +kernel
theorem dX10_ask_33 : decode cX10_ask 33 = .ok (.getfield 80, 3) := by decide +kernel
theorem dX10_ask_36 : decode cX10_ask 36 = .ok (.iload_n 1, 1) := by decide +kernel
theorem dX10_ask_37 : decode cX10_ask 37 = .ok (.aload_n 0, 1) := by decide +kernel
theorem dX10_ask_38 : decode cX10_ask 38 = .ok (.getfield 41, 3) := by decide +kernel
theorem dX10_ask_41 : decode cX10_ask 41 = .ok (.iload_n 1, 1) := by decide +kernel
theorem dX10_ask_42 : decode cX10_ask 42 = .ok (.invokevirtual 185, 3) := by decide +kernel
theorem dX10_ask_45 : decode cX10_ask 45 = .ok (.aload_n 0, 1) := by decide +kernel
theorem dX10_ask_46 : decode cX10_ask 46 = .ok (.getfield 52, 3) := by decide +kernel
theorem dX10_ask_49 : decode cX10_ask 49 = .ok (.invokevirtual 298, 3) := by decide +kernel
theorem dX10_ask_52 : decode cX10_ask 52 = .ok (.aload_n 0, 1) := by decide +kernel
theorem dX10_ask_53 : decode cX10_ask 53 = .ok (.getfield 80, 3) := by decide +kernel
theorem dX10_ask_56 : decode cX10_ask 56 = .ok (.iload_n 2, 1) := by decide +kernel
theorem dX10_ask_57 : decode cX10_ask 57 = .ok (.invokevirtual 301, 3) := by decide +kernel
theorem dX10_ask_60 : decode cX10_ask 60 = .ok (.lreturn, 1) := by decide +kernel
theorem dX10_trace_0 : decode cX10_trace 0 = .ok (.iload_n 1, 1) := by decide +kernel
theorem dX10_trace_1 : decode cX10_trace 1 = .ok (.ifCond .lt 28, 3) := by decide +kernel
theorem dX10_trace_4 : decode cX10_trace 4 = .ok (.iload_n 1, 1) := by decide +kernel
theorem dX10_trace_5 : decode cX10_trace 5 = .ok (.aload_n 0, 1) := by decide +kernel
theorem dX10_trace_6 : decode cX10_trace 6 = .ok (.getfield 80, 3) := by decide +kernel
theorem dX10_trace_9 : decode cX10_trace 9 = .ok (.getfield 303, 3) := by decide +kernel
theorem dX10_trace_12 : decode cX10_trace 12 = .ok (.if_icmp .ge 17, 3) := by decide +kernel
theorem dX10_trace_15 : decode cX10_trace 15 = .ok (.aload_n 0, 1) := by decide +kernel
theorem dX10_trace_16 : decode cX10_trace 16 = .ok (.getfield 80, 3) := by decide +kernel
theorem dX10_trace_19 : decode cX10_trace 19 = .ok (.getfield 306, 3) := by decide +kernel
theorem dX10_trace_22 : decode cX10_trace 22 = .ok (.iload_n 1, 1) := by decide +kernel
theorem dX10_trace_23 : decode cX10_trace 23 = .ok (.invokestatic 208, 3) := by decide +kernel
theorem dX10_trace_26 : decode cX10_trace 26 = .ok (.goto 6, 3) := by decide +kernel
theorem dX10_trace_29 : decode cX10_trace 29 = .ok (.ldc_w 309, 3) := by decide +kernel
theorem dX10_trace_32 : decode cX10_trace 32 = .ok (.ireturn, 1) := by decide +kernel
theorem dX10_count_0 : decode cX10_count 0 = .ok (.iload_n 1, 1) := by decide +kernel
theorem dX10_count_1 : decode cX10_count 1 = .ok (.tableswitch 102 0 5 #[39, 45, 57, 69, 81, 93], 39) := by decide +kernel
theorem dX10_count_40 : decode cX10_count 40 = .ok (.aload_n 0, 1) := by decide +kernel
theorem dX10_count_41 : decode cX10_count 41 = .ok (.invokevirtual 310, 3) := by decide +kernel
theorem dX10_count_44 : decode cX10_count 44 = .ok (.i2l, 1) := by decide +kernel
theorem dX10_count_45 : decode cX10_count 45 = .ok (.lreturn, 1) := by decide +kernel
theorem dX10_count_46 : decode cX10_count 46 = .ok (.aload_n 0, 1) := by decide +kernel
theorem dX10_count_47 : decode cX10_count 47 = .ok (.getfield 41, 3) := by decide +kernel
theorem dX10_count_50 : decode cX10_count 50 = .ok (.getfield 190, 3) := by decide +kernel
theorem dX10_count_53 : decode cX10_count 53 = .ok (.getfield 169, 3) := by decide +kernel
theorem dX10_count_56 : decode cX10_count 56 = .ok (.i2l, 1) := by decide +kernel
theorem dX10_count_57 : decode cX10_count 57 = .ok (.lreturn, 1) := by decide +kernel
theorem dX10_count_58 : decode cX10_count 58 = .ok (.aload_n 0, 1) := by decide +kernel
theorem dX10_count_59 : decode cX10_count 59 = .ok (.getfield 41, 3) := by decide +kernel
theorem dX10_count_62 : decode cX10_count 62 = .ok (.getfield 190, 3) := by decide +kernel
theorem dX10_count_65 : decode cX10_count 65 = .ok (.getfield 313, 3) := by decide +kernel
theorem dX10_count_68 : decode cX10_count 68 = .ok (.i2l, 1) := by decide +kernel
theorem dX10_count_69 : decode cX10_count 69 = .ok (.lreturn, 1) := by decide +kernel
theorem dX10_count_70 : decode cX10_count 70 = .ok (.aload_n 0, 1) := by decide +kernel
theorem dX10_count_71 : decode cX10_count 71 = .ok (.getfield 41, 3) := by decide +kernel
theorem dX10_count_74 : decode cX10_count 74 = .ok (.getfield 190, 3) := by decide +kernel
theorem dX10_count_77 : decode cX10_count 77 = .ok (.getfield 316, 3) := by decide +kernel
theorem dX10_count_80 : decode cX10_count 80 = .ok (.i2l, 1) := by decide +kernel
theorem dX10_count_81 : decode cX10_count 81 = .ok (.lreturn, 1) := by decide +kernel
theorem dX10_count_82 : decode cX10_count 82 = .ok (.aload_n 0, 1) := by decide +kernel
theorem dX10_count_83 : decode cX10_count 83 = .ok (.getfield 41, 3) := by decide +kernel
theorem dX10_count_86 : decode cX10_count 86 = .ok (.invokevirtual 253, 3) := by decide +kernel
theorem dX10_count_89 : decode cX10_count 89 = .ok (.invokestatic 257, 3) := by decide +kernel
theorem dX10_count_92 : decode cX10_count 92 = .ok (.i2l, 1) := by decide +kernel
theorem dX10_count_93 : decode cX10_count 93 = .ok (.lreturn, 1) := by decide +kernel
theorem dX10_count_94 : decode cX10_count 94 = .ok (.aload_n 0, 1) := by decide +kernel
theorem dX10_count_95 : decode cX10_count 95 = .ok (.getfield 18, 3) := by decide +kernel
theorem dX10_count_98 : decode cX10_count 98 = .ok (.getfield 145, 3) := by decide +kernel
theorem dX10_count_101 : decode cX10_count 101 = .ok (.i2l, 1) := by decide +kernel
theorem dX10_count_102 : decode cX10_count 102 = .ok (.lreturn, 1) := by decide +kernel
theorem dX10_count_103 : decode cX10_count 103 = .ok (.ldc2_w 89, 3) := by decide +kernel
theorem dX10_count_106 : decode cX10_count 106 = .ok (.lreturn, 1) := by decide +kernel
theorem dX10_status_0 : decode cX10_status 0 = .ok (.aload_n 0, 1) := by decide +kernel
theorem dX10_status_1 : decode cX10_status 1 = .ok (.getfield 319, 3) := by decide +kernel
theorem dX10_status_4 : decode cX10_status 4 = .ok (.ireturn, 1) := by decide +kernel
theorem dX10_found_0 : decode cX10_found 0 = .ok (.aload_n 0, 1) := by decide +kernel
theorem dX10_found_1 : decode cX10_found 1 = .ok (.iload_n 1, 1) := by decide +kernel
theorem dX10_found_2 : decode cX10_found 2 = .ok (.putfield 319, 3) := by decide +kernel
theorem dX10_found_5 : decode cX10_found 5 = .ok (.ldc2_w 322, 3) := by decide +kernel
theorem dX10_found_8 : decode cX10_found 8 = .ok (.iload_n 1, 1) := by decide +kernel
theorem dX10_found_9 : decode cX10_found 9 = .ok (.i2l, 1) := by decide +kernel
theorem dX10_found_10 : decode cX10_found 10 = .ok (.lsub, 1) := by decide +kernel
theorem dX10_found_11 : decode cX10_found 11 = .ok (.lreturn, 1) := by decide +kernel
theorem dX10_fine_0 : decode cX10_fine 0 = .ok (.aload_n 0, 1) := by decide +kernel
theorem dX10_fine_1 : decode cX10_fine 1 = .ok (.iconst 0, 1) := by decide +kernel
theorem dX10_fine_2 : decode cX10_fine 2 = .ok (.putfield 319, 3) := by decide +kernel
theorem dX10_fine_5 : decode cX10_fine 5 = .ok (.lload_n 1, 1) := by decide +kernel
theorem dX10_fine_6 : decode cX10_fine 6 = .ok (.lreturn, 1) := by decide +kernel
theorem dX10_rowAt_0 : decode cX10_rowAt 0 = .ok (.iload_n 1, 1) := by decide +kernel
theorem dX10_rowAt_1 : decode cX10_rowAt 1 = .ok (.ifCond .lt 21, 3) := by decide +kernel
theorem dX10_rowAt_4 : decode cX10_rowAt 4 = .ok (.iload_n 1, 1) := by decide +kernel
theorem dX10_rowAt_5 : decode cX10_rowAt 5 = .ok (.aload_n 0, 1) := by decide +kernel
theorem dX10_rowAt_6 : decode cX10_rowAt 6 = .ok (.getfield 11, 3) := by decide +kernel
theorem dX10_rowAt_9 : decode cX10_rowAt 9 = .ok (.arraylength, 1) := by decide +kernel
theorem dX10_rowAt_10 : decode cX10_rowAt 10 = .ok (.if_icmp .ge 12, 3) := by decide +kernel
theorem dX10_rowAt_13 : decode cX10_rowAt 13 = .ok (.aload_n 0, 1) := by decide +kernel
theorem dX10_rowAt_14 : decode cX10_rowAt 14 = .ok (.getfield 11, 3) := by decide +kernel
theorem dX10_rowAt_17 : decode cX10_rowAt 17 = .ok (.iload_n 1, 1) := by decide +kernel
theorem dX10_rowAt_18 : decode cX10_rowAt 18 = .ok (.aaload, 1) := by decide +kernel
theorem dX10_rowAt_19 : decode cX10_rowAt 19 = .ok (.goto 4, 3) := by decide +kernel
theorem dX10_rowAt_22 : decode cX10_rowAt 22 = .ok (.aconst_null, 1) := by decide +kernel
theorem dX10_rowAt_23 : decode cX10_rowAt 23 = .ok (.areturn, 1) := by decide +kernel
theorem dX10_imageAt_0 : decode cX10_imageAt 0 = .ok (.iload_n 1, 1) := by decide +kernel
theorem dX10_imageAt_1 : decode cX10_imageAt 1 = .ok (.ifCond .lt 21, 3) := by decide +kernel
theorem dX10_imageAt_4 : decode cX10_imageAt 4 = .ok (.iload_n 1, 1) := by decide +kernel
theorem dX10_imageAt_5 : decode cX10_imageAt 5 = .ok (.aload_n 0, 1) := by decide +kernel
theorem dX10_imageAt_6 : decode cX10_imageAt 6 = .ok (.getfield 45, 3) := by decide +kernel
theorem dX10_imageAt_9 : decode cX10_imageAt 9 = .ok (.arraylength, 1) := by decide +kernel
theorem dX10_imageAt_10 : decode cX10_imageAt 10 = .ok (.if_icmp .ge 12, 3) := by decide +kernel
theorem dX10_imageAt_13 : decode cX10_imageAt 13 = .ok (.aload_n 0, 1) := by decide +kernel
theorem dX10_imageAt_14 : decode cX10_imageAt 14 = .ok (.getfield 45, 3) := by decide +kernel
theorem dX10_imageAt_17 : decode cX10_imageAt 17 = .ok (.iload_n 1, 1) := by decide +kernel
theorem dX10_imageAt_18 : decode cX10_imageAt 18 = .ok (.aaload, 1) := by decide +kernel
theorem dX10_imageAt_19 : decode cX10_imageAt 19 = .ok (.goto 4, 3) := by decide +kernel
theorem dX10_imageAt_22 : decode cX10_imageAt 22 = .ok (.aconst_null, 1) := by decide +kernel
theorem dX10_imageAt_23 : decode cX10_imageAt 23 = .ok (.areturn, 1) := by decide +kernel
theorem dX10_rowsThere_0 : decode cX10_rowsThere 0 = .ok (.iconst 0, 1) := by decide +kernel
theorem dX10_rowsThere_1 : decode cX10_rowsThere 1 = .ok (.istore_n 1, 1) := by decide +kernel
theorem dX10_rowsThere_2 : decode cX10_rowsThere 2 = .ok (.iconst 0, 1) := by decide +kernel
theorem dX10_rowsThere_3 : decode cX10_rowsThere 3 = .ok (.istore_n 2, 1) := by decide +kernel
theorem dX10_rowsThere_4 : decode cX10_rowsThere 4 = .ok (.iload_n 2, 1) := by decide +kernel
theorem dX10_rowsThere_5 : decode cX10_rowsThere 5 = .ok (.aload_n 0, 1) := by decide +kernel
theorem dX10_rowsThere_6 : decode cX10_rowsThere 6 = .ok (.getfield 11, 3) := by decide +kernel
theorem dX10_rowsThere_9 : decode cX10_rowsThere 9 = .ok (.arraylength, 1) := by decide +kernel
theorem dX10_rowsThere_10 : decode cX10_rowsThere 10 = .ok (.if_icmp .ge 30, 3) := by decide +kernel
theorem dX10_rowsThere_13 : decode cX10_rowsThere 13 = .ok (.aload_n 0, 1) := by decide +kernel
theorem dX10_rowsThere_14 : decode cX10_rowsThere 14 = .ok (.getfield 11, 3) := by decide +kernel
theorem dX10_rowsThere_17 : decode cX10_rowsThere 17 = .ok (.iload_n 2, 1) := by decide +kernel
theorem dX10_rowsThere_18 : decode cX10_rowsThere 18 = .ok (.aaload, 1) := by decide +kernel
theorem dX10_rowsThere_19 : decode cX10_rowsThere 19 = .ok (.astore_n 3, 1) := by decide +kernel
theorem dX10_rowsThere_20 : decode cX10_rowsThere 20 = .ok (.aload_n 3, 1) := by decide +kernel
theorem dX10_rowsThere_21 : decode cX10_rowsThere 21 = .ok (.ifnull 13, 3) := by decide +kernel
theorem dX10_rowsThere_24 : decode cX10_rowsThere 24 = .ok (.aload_n 3, 1) := by decide +kernel
theorem dX10_rowsThere_25 : decode cX10_rowsThere 25 = .ok (.getfield 103, 3) := by decide +kernel
theorem dX10_rowsThere_28 : decode cX10_rowsThere 28 = .ok (.ifCond .eq 6, 3) := by decide +kernel
theorem dX10_rowsThere_31 : decode cX10_rowsThere 31 = .ok (.iinc 1 1, 3) := by decide +kernel
theorem dX10_rowsThere_34 : decode cX10_rowsThere 34 = .ok (.iinc 2 1, 3) := by decide +kernel
theorem dX10_rowsThere_37 : decode cX10_rowsThere 37 = .ok (.goto (-33), 3) := by decide +kernel
theorem dX10_rowsThere_40 : decode cX10_rowsThere 40 = .ok (.iload_n 1, 1) := by decide +kernel
theorem dX10_rowsThere_41 : decode cX10_rowsThere 41 = .ok (.ireturn, 1) := by decide +kernel
theorem dX10_isSlot_0 : decode cX10_isSlot 0 = .ok (.iload_n 0, 1) := by decide +kernel
theorem dX10_isSlot_1 : decode cX10_isSlot 1 = .ok (.ifCond .lt 13, 3) := by decide +kernel
theorem dX10_isSlot_4 : decode cX10_isSlot 4 = .ok (.iload_n 0, 1) := by decide +kernel
theorem dX10_isSlot_5 : decode cX10_isSlot 5 = .ok (.bipush 8, 2) := by decide +kernel
theorem dX10_isSlot_7 : decode cX10_isSlot 7 = .ok (.if_icmp .ge 7, 3) := by decide +kernel
theorem dX10_isSlot_10 : decode cX10_isSlot 10 = .ok (.iconst 1, 1) := by decide +kernel
theorem dX10_isSlot_11 : decode cX10_isSlot 11 = .ok (.goto 4, 3) := by decide +kernel
theorem dX10_isSlot_14 : decode cX10_isSlot 14 = .ok (.iconst 0, 1) := by decide +kernel
theorem dX10_isSlot_15 : decode cX10_isSlot 15 = .ok (.ireturn, 1) := by decide +kernel
theorem dX10_at_0 : decode cX10_at 0 = .ok (.aload_n 0, 1) := by decide +kernel
theorem dX10_at_1 : decode cX10_at 1 = .ok (.ifnull 19, 3) := by decide +kernel
theorem dX10_at_4 : decode cX10_at 4 = .ok (.iload_n 1, 1) := by decide +kernel
theorem dX10_at_5 : decode cX10_at 5 = .ok (.ifCond .lt 15, 3) := by decide +kernel
theorem dX10_at_8 : decode cX10_at 8 = .ok (.iload_n 1, 1) := by decide +kernel
theorem dX10_at_9 : decode cX10_at 9 = .ok (.aload_n 0, 1) := by decide +kernel
theorem dX10_at_10 : decode cX10_at 10 = .ok (.arraylength, 1) := by decide +kernel
theorem dX10_at_11 : decode cX10_at 11 = .ok (.if_icmp .ge 9, 3) := by decide +kernel
theorem dX10_at_14 : decode cX10_at 14 = .ok (.aload_n 0, 1) := by decide +kernel
theorem dX10_at_15 : decode cX10_at 15 = .ok (.iload_n 1, 1) := by decide +kernel
theorem dX10_at_16 : decode cX10_at 16 = .ok (.iaload, 1) := by decide +kernel
theorem dX10_at_17 : decode cX10_at 17 = .ok (.goto 4, 3) := by decide +kernel
theorem dX10_at_20 : decode cX10_at 20 = .ok (.iconst 0, 1) := by decide +kernel
theorem dX10_at_21 : decode cX10_at 21 = .ok (.ireturn, 1) := by decide +kernel
theorem dX10_store_0 : decode cX10_store 0 = .ok (.aload_n 0, 1) := by decide +kernel
theorem dX10_store_1 : decode cX10_store 1 = .ok (.ifnull 17, 3) := by decide +kernel
theorem dX10_store_4 : decode cX10_store 4 = .ok (.iload_n 1, 1) := by decide +kernel
theorem dX10_store_5 : decode cX10_store 5 = .ok (.ifCond .lt 13, 3) := by decide +kernel
theorem dX10_store_8 : decode cX10_store 8 = .ok (.iload_n 1, 1) := by decide +kernel
theorem dX10_store_9 : decode cX10_store 9 = .ok (.aload_n 0, 1) := by decide +kernel
theorem dX10_store_10 : decode cX10_store 10 = .ok (.arraylength, 1) := by decide +kernel
theorem dX10_store_11 : decode cX10_store 11 = .ok (.if_icmp .ge 7, 3) := by decide +kernel
theorem dX10_store_14 : decode cX10_store 14 = .ok (.aload_n 0, 1) := by decide +kernel
theorem dX10_store_15 : decode cX10_store 15 = .ok (.iload_n 1, 1) := by decide +kernel
theorem dX10_store_16 : decode cX10_store 16 = .ok (.iload_n 2, 1) := by decide +kernel
theorem dX10_store_17 : decode cX10_store 17 = .ok (.iastore, 1) := by decide +kernel
theorem dX10_store_18 : decode cX10_store 18 = .ok (.return_, 1) := by decide +kernel
theorem dX10_takeApart_0 : decode cX10_takeApart 0 = .ok (.aload_n 0, 1) := by decide +kernel
theorem dX10_takeApart_1 : decode cX10_takeApart 1 = .ok (.getfield 41, 3) := by decide +kernel
theorem dX10_takeApart_4 : decode cX10_takeApart 4 = .ok (.iload_n 1, 1) := by decide +kernel
theorem dX10_takeApart_5 : decode cX10_takeApart 5 = .ok (.invokevirtual 185, 3) := by decide +kernel
theorem dX10_takeApart_8 : decode cX10_takeApart 8 = .ok (.lstore_n 2, 1) := by decide +kernel
theorem dX10_takeApart_9 : decode cX10_takeApart 9 = .ok (.lload_n 2, 1) := by decide +kernel
theorem dX10_takeApart_10 : decode cX10_takeApart 10 = .ok (.lconst 0, 1) := by decide +kernel
theorem dX10_takeApart_11 : decode cX10_takeApart 11 = .ok (.lcmp, 1) := by decide +kernel
theorem dX10_takeApart_12 : decode cX10_takeApart 12 = .ok (.ifCond .ne 5, 3) := by decide +kernel
theorem dX10_takeApart_15 : decode cX10_takeApart 15 = .ok (.iconst 0, 1) := by decide +kernel
theorem dX10_takeApart_16 : decode cX10_takeApart 16 = .ok (.ireturn, 1) := by decide +kernel
theorem dX10_takeApart_17 : decode cX10_takeApart 17 = .ok (.aload_n 0, 1) := by decide +kernel
theorem dX10_takeApart_18 : decode cX10_takeApart 18 = .ok (.getfield 52, 3) := by decide +kernel
theorem dX10_takeApart_21 : decode cX10_takeApart 21 = .ok (.aload_n 0, 1) := by decide +kernel
theorem dX10_takeApart_22 : decode cX10_takeApart 22 = .ok (.getfield 41, 3) := by decide +kernel
theorem dX10_takeApart_25 : decode cX10_takeApart 25 = .ok (.getfield 190, 3) := by decide +kernel
theorem dX10_takeApart_28 : decode cX10_takeApart 28 = .ok (.lload_n 2, 1) := by decide +kernel
theorem dX10_takeApart_29 : decode cX10_takeApart 29 = .ok (.invokevirtual 324, 3) := by decide +kernel
theorem dX10_takeApart_32 : decode cX10_takeApart 32 = .ok (.iconst 1, 1) := by decide +kernel
theorem dX10_takeApart_33 : decode cX10_takeApart 33 = .ok (.ireturn, 1) := by decide +kernel
theorem dX10_madeOf_0 : decode cX10_madeOf 0 = .ok (.iconst 0, 1) := by decide +kernel
theorem dX10_madeOf_1 : decode cX10_madeOf 1 = .ok (.istore 4, 2) := by decide +kernel
theorem dX10_madeOf_3 : decode cX10_madeOf 3 = .ok (.iload 4, 2) := by decide +kernel
theorem dX10_madeOf_5 : decode cX10_madeOf 5 = .ok (.iload_n 3, 1) := by decide +kernel
theorem dX10_madeOf_6 : decode cX10_madeOf 6 = .ok (.if_icmp .ge 34, 3) := by decide +kernel
theorem dX10_madeOf_9 : decode cX10_madeOf 9 = .ok (.aload_n 0, 1) := by decide +kernel
theorem dX10_madeOf_10 : decode cX10_madeOf 10 = .ok (.getfield 41, 3) := by decide +kernel
theorem dX10_madeOf_13 : decode cX10_madeOf 13 = .ok (.getfield 190, 3) := by decide +kernel
theorem dX10_madeOf_16 : decode cX10_madeOf 16 = .ok (.aload_n 1, 1) := by decide +kernel
theorem dX10_madeOf_17 : decode cX10_madeOf 17 = .ok (.iload_n 2, 1) := by decide +kernel
theorem dX10_madeOf_18 : decode cX10_madeOf 18 = .ok (.iload 4, 2) := by decide +kernel
theorem dX10_madeOf_20 : decode cX10_madeOf 20 = .ok (.iadd, 1) := by decide +kernel
theorem dX10_madeOf_21 : decode cX10_madeOf 21 = .ok (.invokevirtual 114, 3) := by decide +kernel
theorem dX10_madeOf_24 : decode cX10_madeOf 24 = .ok (.invokevirtual 328, 3) := by decide +kernel
theorem dX10_madeOf_27 : decode cX10_madeOf 27 = .ok (.ifCond .ne 7, 3) := by decide +kernel
theorem dX10_madeOf_30 : decode cX10_madeOf 30 = .ok (.ldc2_w 89, 3) := by decide +kernel
theorem dX10_madeOf_33 : decode cX10_madeOf 33 = .ok (.lreturn, 1) := by decide +kernel
theorem dX10_madeOf_34 : decode cX10_madeOf 34 = .ok (.iinc 4 1, 3) := by decide +kernel
theorem dX10_madeOf_37 : decode cX10_madeOf 37 = .ok (.goto (-34), 3) := by decide +kernel
theorem dX10_madeOf_40 : decode cX10_madeOf 40 = .ok (.lconst 1, 1) := by decide +kernel
theorem dX10_madeOf_41 : decode cX10_madeOf 41 = .ok (.lstore 4, 2) := by decide +kernel
theorem dX10_madeOf_43 : decode cX10_madeOf 43 = .ok (.iconst 0, 1) := by decide +kernel
theorem dX10_madeOf_44 : decode cX10_madeOf 44 = .ok (.istore 6, 2) := by decide +kernel
theorem dX10_madeOf_46 : decode cX10_madeOf 46 = .ok (.iload 6, 2) := by decide +kernel
theorem dX10_madeOf_48 : decode cX10_madeOf 48 = .ok (.iload_n 3, 1) := by decide +kernel
theorem dX10_madeOf_49 : decode cX10_madeOf 49 = .ok (.if_icmp .ge 46, 3) := by decide +kernel
theorem dX10_madeOf_52 : decode cX10_madeOf 52 = .ok (.lload 4, 2) := by decide +kernel
theorem dX10_madeOf_54 : decode cX10_madeOf 54 = .ok (.aload_n 0, 1) := by decide +kernel
theorem dX10_madeOf_55 : decode cX10_madeOf 55 = .ok (.getfield 41, 3) := by decide +kernel
theorem dX10_madeOf_58 : decode cX10_madeOf 58 = .ok (.getfield 190, 3) := by decide +kernel
theorem dX10_madeOf_61 : decode cX10_madeOf 61 = .ok (.aload_n 1, 1) := by decide +kernel
theorem dX10_madeOf_62 : decode cX10_madeOf 62 = .ok (.iload_n 2, 1) := by decide +kernel
theorem dX10_madeOf_63 : decode cX10_madeOf 63 = .ok (.iload 6, 2) := by decide +kernel
theorem dX10_madeOf_65 : decode cX10_madeOf 65 = .ok (.iadd, 1) := by decide +kernel
theorem dX10_madeOf_66 : decode cX10_madeOf 66 = .ok (.invokevirtual 114, 3) := by decide +kernel
theorem dX10_madeOf_69 : decode cX10_madeOf 69 = .ok (.invokevirtual 328, 3) := by decide +kernel
theorem dX10_madeOf_72 : decode cX10_madeOf 72 = .ok (.i2l, 1) := by decide +kernel
theorem dX10_madeOf_73 : decode cX10_madeOf 73 = .ok (.lmul, 1) := by decide +kernel
theorem dX10_madeOf_74 : decode cX10_madeOf 74 = .ok (.lstore 4, 2) := by decide +kernel
theorem dX10_madeOf_76 : decode cX10_madeOf 76 = .ok (.lload 4, 2) := by decide +kernel
theorem dX10_madeOf_78 : decode cX10_madeOf 78 = .ok (.ldc2_w 175, 3) := by decide +kernel
theorem dX10_madeOf_81 : decode cX10_madeOf 81 = .ok (.lcmp, 1) := by decide +kernel
theorem dX10_madeOf_82 : decode cX10_madeOf 82 = .ok (.ifCond .le 7, 3) := by decide +kernel
theorem dX10_madeOf_85 : decode cX10_madeOf 85 = .ok (.ldc2_w 139, 3) := by decide +kernel
theorem dX10_madeOf_88 : decode cX10_madeOf 88 = .ok (.lreturn, 1) := by decide +kernel
theorem dX10_madeOf_89 : decode cX10_madeOf 89 = .ok (.iinc 6 1, 3) := by decide +kernel
theorem dX10_madeOf_92 : decode cX10_madeOf 92 = .ok (.goto (-46), 3) := by decide +kernel
theorem dX10_madeOf_95 : decode cX10_madeOf 95 = .ok (.lload 4, 2) := by decide +kernel
theorem dX10_madeOf_97 : decode cX10_madeOf 97 = .ok (.lreturn, 1) := by decide +kernel
theorem dX10_shared_0 : decode cX10_shared 0 = .ok (.lload_n 0, 1) := by decide +kernel
theorem dX10_shared_1 : decode cX10_shared 1 = .ok (.lstore 4, 2) := by decide +kernel
theorem dX10_shared_3 : decode cX10_shared 3 = .ok (.lload_n 2, 1) := by decide +kernel
theorem dX10_shared_4 : decode cX10_shared 4 = .ok (.lstore 6, 2) := by decide +kernel
theorem dX10_shared_6 : decode cX10_shared 6 = .ok (.iconst 0, 1) := by decide +kernel
theorem dX10_shared_7 : decode cX10_shared 7 = .ok (.istore 8, 2) := by decide +kernel
theorem dX10_shared_9 : decode cX10_shared 9 = .ok (.iload 8, 2) := by decide +kernel
theorem dX10_shared_11 : decode cX10_shared 11 = .ok (.sipush 128, 3) := by decide +kernel
theorem dX10_shared_14 : decode cX10_shared 14 = .ok (.if_icmp .ge 31, 3) := by decide +kernel
theorem dX10_shared_17 : decode cX10_shared 17 = .ok (.lload 6, 2) := by decide +kernel
theorem dX10_shared_19 : decode cX10_shared 19 = .ok (.lconst 0, 1) := by decide +kernel
theorem dX10_shared_20 : decode cX10_shared 20 = .ok (.lcmp, 1) := by decide +kernel
theorem dX10_shared_21 : decode cX10_shared 21 = .ok (.ifCond .eq 24, 3) := by decide +kernel
theorem dX10_shared_24 : decode cX10_shared 24 = .ok (.lload 4, 2) := by decide +kernel
theorem dX10_shared_26 : decode cX10_shared 26 = .ok (.lload 6, 2) := by decide +kernel
theorem dX10_shared_28 : decode cX10_shared 28 = .ok (.lrem, 1) := by decide +kernel
theorem dX10_shared_29 : decode cX10_shared 29 = .ok (.lstore 9, 2) := by decide +kernel
theorem dX10_shared_31 : decode cX10_shared 31 = .ok (.lload 6, 2) := by decide +kernel
theorem dX10_shared_33 : decode cX10_shared 33 = .ok (.lstore 4, 2) := by decide +kernel
theorem dX10_shared_35 : decode cX10_shared 35 = .ok (.lload 9, 2) := by decide +kernel
theorem dX10_shared_37 : decode cX10_shared 37 = .ok (.lstore 6, 2) := by decide +kernel
theorem dX10_shared_39 : decode cX10_shared 39 = .ok (.iinc 8 1, 3) := by decide +kernel
theorem dX10_shared_42 : decode cX10_shared 42 = .ok (.goto (-33), 3) := by decide +kernel
theorem dX10_shared_45 : decode cX10_shared 45 = .ok (.lload 4, 2) := by decide +kernel
theorem dX10_shared_47 : decode cX10_shared 47 = .ok (.lreturn, 1) := by decide +kernel
theorem dX10_oneNotTheOther_0 : decode cX10_oneNotTheOther 0 = .ok (.lload_n 0, 1) := by decide +kernel
theorem dX10_oneNotTheOther_1 : decode cX10_oneNotTheOther 1 = .ok (.lload_n 2, 1) := by decide +kernel
theorem dX10_oneNotTheOther_2 : decode cX10_oneNotTheOther 2 = .ok (.invokestatic 212, 3) := by decide +kernel
theorem dX10_oneNotTheOther_5 : decode cX10_oneNotTheOther 5 = .ok (.lstore 4, 2) := by decide +kernel
theorem dX10_oneNotTheOther_7 : decode cX10_oneNotTheOther 7 = .ok (.lload 4, 2) := by decide +kernel
theorem dX10_oneNotTheOther_9 : decode cX10_oneNotTheOther 9 = .ok (.lconst 0, 1) := by decide +kernel
theorem dX10_oneNotTheOther_10 : decode cX10_oneNotTheOther 10 = .ok (.lcmp, 1) := by decide +kernel
theorem dX10_oneNotTheOther_11 : decode cX10_oneNotTheOther 11 = .ok (.ifCond .le 10, 3) := by decide +kernel
theorem dX10_oneNotTheOther_14 : decode cX10_oneNotTheOther 14 = .ok (.lload_n 0, 1) := by decide +kernel
theorem dX10_oneNotTheOther_15 : decode cX10_oneNotTheOther 15 = .ok (.lload 4, 2) := by decide +kernel
theorem dX10_oneNotTheOther_17 : decode cX10_oneNotTheOther 17 = .ok (.ldiv, 1) := by decide +kernel
theorem dX10_oneNotTheOther_18 : decode cX10_oneNotTheOther 18 = .ok (.goto 4, 3) := by decide +kernel
theorem dX10_oneNotTheOther_21 : decode cX10_oneNotTheOther 21 = .ok (.lload_n 0, 1) := by decide +kernel
theorem dX10_oneNotTheOther_22 : decode cX10_oneNotTheOther 22 = .ok (.lreturn, 1) := by decide +kernel
theorem dX10_either_0 : decode cX10_either 0 = .ok (.lload_n 0, 1) := by decide +kernel
theorem dX10_either_1 : decode cX10_either 1 = .ok (.lload_n 2, 1) := by decide +kernel
theorem dX10_either_2 : decode cX10_either 2 = .ok (.invokestatic 219, 3) := by decide +kernel
theorem dX10_either_5 : decode cX10_either 5 = .ok (.lstore 4, 2) := by decide +kernel
theorem dX10_either_7 : decode cX10_either 7 = .ok (.lload 4, 2) := by decide +kernel
theorem dX10_either_9 : decode cX10_either 9 = .ok (.lconst 0, 1) := by decide +kernel
theorem dX10_either_10 : decode cX10_either 10 = .ok (.lcmp, 1) := by decide +kernel
theorem dX10_either_11 : decode cX10_either 11 = .ok (.ifCond .le 21, 3) := by decide +kernel
theorem dX10_either_14 : decode cX10_either 14 = .ok (.lload_n 2, 1) := by decide +kernel
theorem dX10_either_15 : decode cX10_either 15 = .ok (.ldc2_w 175, 3) := by decide +kernel
theorem dX10_either_18 : decode cX10_either 18 = .ok (.lload 4, 2) := by decide +kernel
theorem dX10_either_20 : decode cX10_either 20 = .ok (.ldiv, 1) := by decide +kernel
theorem dX10_either_21 : decode cX10_either 21 = .ok (.lcmp, 1) := by decide +kernel
theorem dX10_either_22 : decode cX10_either 22 = .ok (.ifCond .gt 10, 3) := by decide +kernel
theorem dX10_either_25 : decode cX10_either 25 = .ok (.lload 4, 2) := by decide +kernel
theorem dX10_either_27 : decode cX10_either 27 = .ok (.lload_n 2, 1) := by decide +kernel
theorem dX10_either_28 : decode cX10_either 28 = .ok (.lmul, 1) := by decide +kernel
theorem dX10_either_29 : decode cX10_either 29 = .ok (.goto 6, 3) := by decide +kernel
theorem dX10_either_32 : decode cX10_either 32 = .ok (.ldc2_w 188, 3) := by decide +kernel
theorem dX10_either_35 : decode cX10_either 35 = .ok (.lreturn, 1) := by decide +kernel
theorem dX10_knownBy_0 : decode cX10_knownBy 0 = .ok (.lconst 1, 1) := by decide +kernel
theorem dX10_knownBy_1 : decode cX10_knownBy 1 = .ok (.lstore 4, 2) := by decide +kernel
theorem dX10_knownBy_3 : decode cX10_knownBy 3 = .ok (.iconst 0, 1) := by decide +kernel
theorem dX10_knownBy_4 : decode cX10_knownBy 4 = .ok (.istore 6, 2) := by decide +kernel
theorem dX10_knownBy_6 : decode cX10_knownBy 6 = .ok (.iload 6, 2) := by decide +kernel
theorem dX10_knownBy_8 : decode cX10_knownBy 8 = .ok (.bipush 8, 2) := by decide +kernel
theorem dX10_knownBy_10 : decode cX10_knownBy 10 = .ok (.if_icmp .ge 39, 3) := by decide +kernel
theorem dX10_knownBy_13 : decode cX10_knownBy 13 = .ok (.iload_n 1, 1) := by decide +kernel
theorem dX10_knownBy_14 : decode cX10_knownBy 14 = .ok (.iload 6, 2) := by decide +kernel
theorem dX10_knownBy_16 : decode cX10_knownBy 16 = .ok (.ishr, 1) := by decide +kernel
theorem dX10_knownBy_17 : decode cX10_knownBy 17 = .ok (.iconst 1, 1) := by decide +kernel
theorem dX10_knownBy_18 : decode cX10_knownBy 18 = .ok (.iand, 1) := by decide +kernel
theorem dX10_knownBy_19 : decode cX10_knownBy 19 = .ok (.iconst 1, 1) := by decide +kernel
theorem dX10_knownBy_20 : decode cX10_knownBy 20 = .ok (.if_icmp .ne 23, 3) := by decide +kernel
theorem dX10_knownBy_23 : decode cX10_knownBy 23 = .ok (.lload 4, 2) := by decide +kernel
theorem dX10_knownBy_25 : decode cX10_knownBy 25 = .ok (.lload_n 2, 1) := by decide +kernel
theorem dX10_knownBy_26 : decode cX10_knownBy 26 = .ok (.aload_n 0, 1) := by decide +kernel
theorem dX10_knownBy_27 : decode cX10_knownBy 27 = .ok (.getfield 41, 3) := by decide +kernel
theorem dX10_knownBy_30 : decode cX10_knownBy 30 = .ok (.iload 6, 2) := by decide +kernel
theorem dX10_knownBy_32 : decode cX10_knownBy 32 = .ok (.invokevirtual 185, 3) := by decide +kernel
theorem dX10_knownBy_35 : decode cX10_knownBy 35 = .ok (.invokestatic 212, 3) := by decide +kernel
theorem dX10_knownBy_38 : decode cX10_knownBy 38 = .ok (.invokestatic 216, 3) := by decide +kernel
theorem dX10_knownBy_41 : decode cX10_knownBy 41 = .ok (.lstore 4, 2) := by decide +kernel
theorem dX10_knownBy_43 : decode cX10_knownBy 43 = .ok (.iinc 6 1, 3) := by decide +kernel
theorem dX10_knownBy_46 : decode cX10_knownBy 46 = .ok (.goto (-40), 3) := by decide +kernel
theorem dX10_knownBy_49 : decode cX10_knownBy 49 = .ok (.lload 4, 2) := by decide +kernel
theorem dX10_knownBy_51 : decode cX10_knownBy 51 = .ok (.lreturn, 1) := by decide +kernel
theorem dX10_offerLessAt_0 : decode cX10_offerLessAt 0 = .ok (.lload_n 3, 1) := by decide +kernel
theorem dX10_offerLessAt_1 : decode cX10_offerLessAt 1 = .ok (.lload_n 1, 1) := by decide +kernel
theorem dX10_offerLessAt_2 : decode cX10_offerLessAt 2 = .ok (.lcmp, 1) := by decide +kernel
theorem dX10_offerLessAt_3 : decode cX10_offerLessAt 3 = .ok (.ifCond .gt 9, 3) := by decide +kernel
theorem dX10_offerLessAt_6 : decode cX10_offerLessAt 6 = .ok (.lload_n 3, 1) := by decide +kernel
theorem dX10_offerLessAt_7 : decode cX10_offerLessAt 7 = .ok (.lconst 1, 1) := by decide +kernel
theorem dX10_offerLessAt_8 : decode cX10_offerLessAt 8 = .ok (.lcmp, 1) := by decide +kernel
theorem dX10_offerLessAt_9 : decode cX10_offerLessAt 9 = .ok (.ifCond .ge 4, 3) := by decide +kernel
theorem dX10_offerLessAt_12 : decode cX10_offerLessAt 12 = .ok (.return_, 1) := by decide +kernel
theorem dX10_offerLessAt_13 : decode cX10_offerLessAt 13 = .ok (.lload_n 1, 1) := by decide +kernel
theorem dX10_offerLessAt_14 : decode cX10_offerLessAt 14 = .ok (.lload_n 3, 1) := by decide +kernel
theorem dX10_offerLessAt_15 : decode cX10_offerLessAt 15 = .ok (.ldiv, 1) := by decide +kernel
theorem dX10_offerLessAt_16 : decode cX10_offerLessAt 16 = .ok (.ldc2_w 331, 3) := by decide +kernel
theorem dX10_offerLessAt_19 : decode cX10_offerLessAt 19 = .ok (.lrem, 1) := by decide +kernel
theorem dX10_offerLessAt_20 : decode cX10_offerLessAt 20 = .ok (.lstore 5, 2) := by decide +kernel
theorem dX10_offerLessAt_22 : decode cX10_offerLessAt 22 = .ok (.lload_n 1, 1) := by decide +kernel
theorem dX10_offerLessAt_23 : decode cX10_offerLessAt 23 = .ok (.lload_n 3, 1) := by decide +kernel
theorem dX10_offerLessAt_24 : decode cX10_offerLessAt 24 = .ok (.ldiv, 1) := by decide +kernel
theorem dX10_offerLessAt_25 : decode cX10_offerLessAt 25 = .ok (.ldc2_w 331, 3) := by decide +kernel
theorem dX10_offerLessAt_28 : decode cX10_offerLessAt 28 = .ok (.lcmp, 1) := by decide +kernel
theorem dX10_offerLessAt_29 : decode cX10_offerLessAt 29 = .ok (.ifCond .ge 7, 3) := by decide +kernel
theorem dX10_offerLessAt_32 : decode cX10_offerLessAt 32 = .ok (.iconst 1, 1) := by decide +kernel
theorem dX10_offerLessAt_33 : decode cX10_offerLessAt 33 = .ok (.goto 4, 3) := by decide +kernel
theorem dX10_offerLessAt_36 : decode cX10_offerLessAt 36 = .ok (.iconst 0, 1) := by decide +kernel
theorem dX10_offerLessAt_37 : decode cX10_offerLessAt 37 = .ok (.istore 7, 2) := by decide +kernel
theorem dX10_offerLessAt_39 : decode cX10_offerLessAt 39 = .ok (.iload 7, 2) := by decide +kernel
theorem dX10_offerLessAt_41 : decode cX10_offerLessAt 41 = .ok (.ifCond .eq 7, 3) := by decide +kernel
theorem dX10_offerLessAt_44 : decode cX10_offerLessAt 44 = .ok (.lconst 1, 1) := by decide +kernel
theorem dX10_offerLessAt_45 : decode cX10_offerLessAt 45 = .ok (.goto 4, 3) := by decide +kernel
theorem dX10_offerLessAt_48 : decode cX10_offerLessAt 48 = .ok (.lconst 0, 1) := by decide +kernel
theorem dX10_offerLessAt_49 : decode cX10_offerLessAt 49 = .ok (.lstore 8, 2) := by decide +kernel
theorem dX10_offerLessAt_51 : decode cX10_offerLessAt 51 = .ok (.lload 8, 2) := by decide +kernel
theorem dX10_offerLessAt_53 : decode cX10_offerLessAt 53 = .ok (.lload 5, 2) := by decide +kernel
theorem dX10_offerLessAt_55 : decode cX10_offerLessAt 55 = .ok (.lcmp, 1) := by decide +kernel
theorem dX10_offerLessAt_56 : decode cX10_offerLessAt 56 = .ok (.ifCond .ge 25, 3) := by decide +kernel
theorem dX10_offerLessAt_59 : decode cX10_offerLessAt 59 = .ok (.aload_n 0, 1) := by decide +kernel
theorem dX10_offerLessAt_60 : decode cX10_offerLessAt 60 = .ok (.lload_n 1, 1) := by decide +kernel
theorem dX10_offerLessAt_61 : decode cX10_offerLessAt 61 = .ok (.lload 5, 2) := by decide +kernel
theorem dX10_offerLessAt_63 : decode cX10_offerLessAt 63 = .ok (.lload 8, 2) := by decide +kernel
theorem dX10_offerLessAt_65 : decode cX10_offerLessAt 65 = .ok (.lsub, 1) := by decide +kernel
theorem dX10_offerLessAt_66 : decode cX10_offerLessAt 66 = .ok (.lload_n 3, 1) := by decide +kernel
theorem dX10_offerLessAt_67 : decode cX10_offerLessAt 67 = .ok (.lmul, 1) := by decide +kernel
theorem dX10_offerLessAt_68 : decode cX10_offerLessAt 68 = .ok (.lsub, 1) := by decide +kernel
theorem dX10_offerLessAt_69 : decode cX10_offerLessAt 69 = .ok (.invokevirtual 333, 3) := by decide +kernel
theorem dX10_offerLessAt_72 : decode cX10_offerLessAt 72 = .ok (.lload 8, 2) := by decide +kernel
theorem dX10_offerLessAt_74 : decode cX10_offerLessAt 74 = .ok (.lconst 1, 1) := by decide +kernel
theorem dX10_offerLessAt_75 : decode cX10_offerLessAt 75 = .ok (.ladd, 1) := by decide +kernel
theorem dX10_offerLessAt_76 : decode cX10_offerLessAt 76 = .ok (.lstore 8, 2) := by decide +kernel
theorem dX10_offerLessAt_78 : decode cX10_offerLessAt 78 = .ok (.goto (-27), 3) := by decide +kernel
theorem dX10_offerLessAt_81 : decode cX10_offerLessAt 81 = .ok (.return_, 1) := by decide +kernel
theorem dX10_offerMoreAt_0 : decode cX10_offerMoreAt 0 = .ok (.lload_n 3, 1) := by decide +kernel
theorem dX10_offerMoreAt_1 : decode cX10_offerMoreAt 1 = .ok (.lload_n 1, 1) := by decide +kernel
theorem dX10_offerMoreAt_2 : decode cX10_offerMoreAt 2 = .ok (.lcmp, 1) := by decide +kernel
theorem dX10_offerMoreAt_3 : decode cX10_offerMoreAt 3 = .ok (.ifCond .gt 9, 3) := by decide +kernel
theorem dX10_offerMoreAt_6 : decode cX10_offerMoreAt 6 = .ok (.lload_n 3, 1) := by decide +kernel
theorem dX10_offerMoreAt_7 : decode cX10_offerMoreAt 7 = .ok (.lconst 1, 1) := by decide +kernel
theorem dX10_offerMoreAt_8 : decode cX10_offerMoreAt 8 = .ok (.lcmp, 1) := by decide +kernel
theorem dX10_offerMoreAt_9 : decode cX10_offerMoreAt 9 = .ok (.ifCond .ge 4, 3) := by decide +kernel
theorem dX10_offerMoreAt_12 : decode cX10_offerMoreAt 12 = .ok (.return_, 1) := by decide +kernel
theorem dX10_offerMoreAt_13 : decode cX10_offerMoreAt 13 = .ok (.lload_n 1, 1) := by decide +kernel
theorem dX10_offerMoreAt_14 : decode cX10_offerMoreAt 14 = .ok (.lload_n 3, 1) := by decide +kernel
theorem dX10_offerMoreAt_15 : decode cX10_offerMoreAt 15 = .ok (.ldiv, 1) := by decide +kernel
theorem dX10_offerMoreAt_16 : decode cX10_offerMoreAt 16 = .ok (.ldc2_w 331, 3) := by decide +kernel
theorem dX10_offerMoreAt_19 : decode cX10_offerMoreAt 19 = .ok (.lrem, 1) := by decide +kernel
theorem dX10_offerMoreAt_20 : decode cX10_offerMoreAt 20 = .ok (.lstore 5, 2) := by decide +kernel
theorem dX10_offerMoreAt_22 : decode cX10_offerMoreAt 22 = .ok (.lload 5, 2) := by decide +kernel
theorem dX10_offerMoreAt_24 : decode cX10_offerMoreAt 24 = .ok (.lconst 1, 1) := by decide +kernel
theorem dX10_offerMoreAt_25 : decode cX10_offerMoreAt 25 = .ok (.ladd, 1) := by decide +kernel
theorem dX10_offerMoreAt_26 : decode cX10_offerMoreAt 26 = .ok (.lstore 7, 2) := by decide +kernel
theorem dX10_offerMoreAt_28 : decode cX10_offerMoreAt 28 = .ok (.lload 7, 2) := by decide +kernel
theorem dX10_offerMoreAt_30 : decode cX10_offerMoreAt 30 = .ok (.ldc2_w 331, 3) := by decide +kernel
theorem dX10_offerMoreAt_33 : decode cX10_offerMoreAt 33 = .ok (.lcmp, 1) := by decide +kernel
theorem dX10_offerMoreAt_34 : decode cX10_offerMoreAt 34 = .ok (.ifCond .ge 25, 3) := by decide +kernel
theorem dX10_offerMoreAt_37 : decode cX10_offerMoreAt 37 = .ok (.aload_n 0, 1) := by decide +kernel
theorem dX10_offerMoreAt_38 : decode cX10_offerMoreAt 38 = .ok (.lload_n 1, 1) := by decide +kernel
theorem dX10_offerMoreAt_39 : decode cX10_offerMoreAt 39 = .ok (.lload 7, 2) := by decide +kernel
theorem dX10_offerMoreAt_41 : decode cX10_offerMoreAt 41 = .ok (.lload 5, 2) := by decide +kernel
theorem dX10_offerMoreAt_43 : decode cX10_offerMoreAt 43 = .ok (.lsub, 1) := by decide +kernel
theorem dX10_offerMoreAt_44 : decode cX10_offerMoreAt 44 = .ok (.lload_n 3, 1) := by decide +kernel
theorem dX10_offerMoreAt_45 : decode cX10_offerMoreAt 45 = .ok (.lmul, 1) := by decide +kernel
theorem dX10_offerMoreAt_46 : decode cX10_offerMoreAt 46 = .ok (.ladd, 1) := by decide +kernel
theorem dX10_offerMoreAt_47 : decode cX10_offerMoreAt 47 = .ok (.invokevirtual 333, 3) := by decide +kernel
theorem dX10_offerMoreAt_50 : decode cX10_offerMoreAt 50 = .ok (.lload 7, 2) := by decide +kernel
theorem dX10_offerMoreAt_52 : decode cX10_offerMoreAt 52 = .ok (.lconst 1, 1) := by decide +kernel
theorem dX10_offerMoreAt_53 : decode cX10_offerMoreAt 53 = .ok (.ladd, 1) := by decide +kernel
theorem dX10_offerMoreAt_54 : decode cX10_offerMoreAt 54 = .ok (.lstore 7, 2) := by decide +kernel
theorem dX10_offerMoreAt_56 : decode cX10_offerMoreAt 56 = .ok (.goto (-28), 3) := by decide +kernel
theorem dX10_offerMoreAt_59 : decode cX10_offerMoreAt 59 = .ok (.return_, 1) := by decide +kernel
theorem dX10_offerGood_0 : decode cX10_offerGood 0 = .ok (.aload_n 0, 1) := by decide +kernel
theorem dX10_offerGood_1 : decode cX10_offerGood 1 = .ok (.getfield 59, 3) := by decide +kernel
theorem dX10_offerGood_4 : decode cX10_offerGood 4 = .ok (.aload_n 0, 1) := by decide +kernel
theorem dX10_offerGood_5 : decode cX10_offerGood 5 = .ok (.getfield 41, 3) := by decide +kernel
theorem dX10_offerGood_8 : decode cX10_offerGood 8 = .ok (.getfield 190, 3) := by decide +kernel
theorem dX10_offerGood_11 : decode cX10_offerGood 11 = .ok (.lload_n 1, 1) := by decide +kernel
theorem dX10_offerGood_12 : decode cX10_offerGood 12 = .ok (.invokevirtual 269, 3) := by decide +kernel
theorem dX10_offerGood_15 : decode cX10_offerGood 15 = .ok (.ifCond .eq 11, 3) := by decide +kernel
theorem dX10_offerGood_18 : decode cX10_offerGood 18 = .ok (.aload_n 0, 1) := by decide +kernel
theorem dX10_offerGood_19 : decode cX10_offerGood 19 = .ok (.getfield 66, 3) := by decide +kernel
theorem dX10_offerGood_22 : decode cX10_offerGood 22 = .ok (.lload_n 1, 1) := by decide +kernel
theorem dX10_offerGood_23 : decode cX10_offerGood 23 = .ok (.invokevirtual 273, 3) := by decide +kernel
theorem dX10_offerGood_26 : decode cX10_offerGood 26 = .ok (.return_, 1) := by decide +kernel
theorem dX10_leastOfSameMeaning_0 : decode cX10_leastOfSameMeaning 0 = .ok (.lconst 1, 1) := by decide +kernel
theorem dX10_leastOfSameMeaning_1 : decode cX10_leastOfSameMeaning 1 = .ok (.lstore_n 1, 1) := by decide +kernel
theorem dX10_leastOfSameMeaning_2 : decode cX10_leastOfSameMeaning 2 = .ok (.iconst 0, 1) := by decide +kernel
theorem dX10_leastOfSameMeaning_3 : decode cX10_leastOfSameMeaning 3 = .ok (.istore_n 3, 1) := by decide +kernel
theorem dX10_leastOfSameMeaning_4 : decode cX10_leastOfSameMeaning 4 = .ok (.iload_n 3, 1) := by decide +kernel
theorem dX10_leastOfSameMeaning_5 : decode cX10_leastOfSameMeaning 5 = .ok (.aload_n 0, 1) := by decide +kernel
theorem dX10_leastOfSameMeaning_6 : decode cX10_leastOfSameMeaning 6 = .ok (.getfield 41, 3) := by decide +kernel
theorem dX10_leastOfSameMeaning_9 : decode cX10_leastOfSameMeaning 9 = .ok (.getfield 190, 3) := by decide +kernel
theorem dX10_leastOfSameMeaning_12 : decode cX10_leastOfSameMeaning 12 = .ok (.getfield 169, 3) := by decide +kernel
theorem dX10_leastOfSameMeaning_15 : decode cX10_leastOfSameMeaning 15 = .ok (.if_icmp .ge 49, 3) := by decide +kernel
theorem dX10_leastOfSameMeaning_18 : decode cX10_leastOfSameMeaning 18 = .ok (.iconst 0, 1) := by decide +kernel
theorem dX10_leastOfSameMeaning_19 : decode cX10_leastOfSameMeaning 19 = .ok (.istore 4, 2) := by decide +kernel
theorem dX10_leastOfSameMeaning_21 : decode cX10_leastOfSameMeaning 21 = .ok (.iload 4, 2) := by decide +kernel
theorem dX10_leastOfSameMeaning_23 : decode cX10_leastOfSameMeaning 23 = .ok (.aload_n 0, 1) := by decide +kernel
theorem dX10_leastOfSameMeaning_24 : decode cX10_leastOfSameMeaning 24 = .ok (.getfield 52, 3) := by decide +kernel
theorem dX10_leastOfSameMeaning_27 : decode cX10_leastOfSameMeaning 27 = .ok (.getfield 205, 3) := by decide +kernel
theorem dX10_leastOfSameMeaning_30 : decode cX10_leastOfSameMeaning 30 = .ok (.iload_n 3, 1) := by decide +kernel
theorem dX10_leastOfSameMeaning_31 : decode cX10_leastOfSameMeaning 31 = .ok (.invokestatic 208, 3) := by decide +kernel
theorem dX10_leastOfSameMeaning_34 : decode cX10_leastOfSameMeaning 34 = .ok (.if_icmp .ge 24, 3) := by decide +kernel
theorem dX10_leastOfSameMeaning_37 : decode cX10_leastOfSameMeaning 37 = .ok (.lload_n 1, 1) := by decide +kernel
theorem dX10_leastOfSameMeaning_38 : decode cX10_leastOfSameMeaning 38 = .ok (.aload_n 0, 1) := by decide +kernel
theorem dX10_leastOfSameMeaning_39 : decode cX10_leastOfSameMeaning 39 = .ok (.getfield 41, 3) := by decide +kernel
theorem dX10_leastOfSameMeaning_42 : decode cX10_leastOfSameMeaning 42 = .ok (.getfield 190, 3) := by decide +kernel
theorem dX10_leastOfSameMeaning_45 : decode cX10_leastOfSameMeaning 45 = .ok (.iload_n 3, 1) := by decide +kernel
theorem dX10_leastOfSameMeaning_46 : decode cX10_leastOfSameMeaning 46 = .ok (.invokevirtual 336, 3) := by decide +kernel
theorem dX10_leastOfSameMeaning_49 : decode cX10_leastOfSameMeaning 49 = .ok (.i2l, 1) := by decide +kernel
theorem dX10_leastOfSameMeaning_50 : decode cX10_leastOfSameMeaning 50 = .ok (.lmul, 1) := by decide +kernel
theorem dX10_leastOfSameMeaning_51 : decode cX10_leastOfSameMeaning 51 = .ok (.lstore_n 1, 1) := by decide +kernel
theorem dX10_leastOfSameMeaning_52 : decode cX10_leastOfSameMeaning 52 = .ok (.iinc 4 1, 3) := by decide +kernel
theorem dX10_leastOfSameMeaning_55 : decode cX10_leastOfSameMeaning 55 = .ok (.goto (-34), 3) := by decide +kernel
theorem dX10_leastOfSameMeaning_58 : decode cX10_leastOfSameMeaning 58 = .ok (.iinc 3 1, 3) := by decide +kernel
theorem dX10_leastOfSameMeaning_61 : decode cX10_leastOfSameMeaning 61 = .ok (.goto (-57), 3) := by decide +kernel
theorem dX10_leastOfSameMeaning_64 : decode cX10_leastOfSameMeaning 64 = .ok (.lload_n 1, 1) := by decide +kernel
theorem dX10_leastOfSameMeaning_65 : decode cX10_leastOfSameMeaning 65 = .ok (.lreturn, 1) := by decide +kernel
theorem dX10_waysFrom_0 : decode cX10_waysFrom 0 = .ok (.iload_n 2, 1) := by decide +kernel
theorem dX10_waysFrom_1 : decode cX10_waysFrom 1 = .ok (.aload_n 0, 1) := by decide +kernel
theorem dX10_waysFrom_2 : decode cX10_waysFrom 2 = .ok (.getfield 169, 3) := by decide +kernel
theorem dX10_waysFrom_5 : decode cX10_waysFrom 5 = .ok (.if_icmp .ge 9, 3) := by decide +kernel
theorem dX10_waysFrom_8 : decode cX10_waysFrom 8 = .ok (.iload_n 2, 1) := by decide +kernel
theorem dX10_waysFrom_9 : decode cX10_waysFrom 9 = .ok (.bipush 12, 2) := by decide +kernel
theorem dX10_waysFrom_11 : decode cX10_waysFrom 11 = .ok (.if_icmp .lt 5, 3) := by decide +kernel
theorem dX10_waysFrom_14 : decode cX10_waysFrom 14 = .ok (.lconst 1, 1) := by decide +kernel
theorem dX10_waysFrom_15 : decode cX10_waysFrom 15 = .ok (.lreturn, 1) := by decide +kernel
theorem dX10_waysFrom_16 : decode cX10_waysFrom 16 = .ok (.aload_n 0, 1) := by decide +kernel
theorem dX10_waysFrom_17 : decode cX10_waysFrom 17 = .ok (.aload_n 1, 1) := by decide +kernel
theorem dX10_waysFrom_18 : decode cX10_waysFrom 18 = .ok (.iload_n 2, 1) := by decide +kernel
theorem dX10_waysFrom_19 : decode cX10_waysFrom 19 = .ok (.iconst 1, 1) := by decide +kernel
theorem dX10_waysFrom_20 : decode cX10_waysFrom 20 = .ok (.iadd, 1) := by decide +kernel
theorem dX10_waysFrom_21 : decode cX10_waysFrom 21 = .ok (.lload_n 3, 1) := by decide +kernel
theorem dX10_waysFrom_22 : decode cX10_waysFrom 22 = .ok (.invokestatic 280, 3) := by decide +kernel
theorem dX10_waysFrom_25 : decode cX10_waysFrom 25 = .ok (.lstore 5, 2) := by decide +kernel
theorem dX10_waysFrom_27 : decode cX10_waysFrom 27 = .ok (.aload_n 0, 1) := by decide +kernel
theorem dX10_waysFrom_28 : decode cX10_waysFrom 28 = .ok (.iload_n 2, 1) := by decide +kernel
theorem dX10_waysFrom_29 : decode cX10_waysFrom 29 = .ok (.invokevirtual 336, 3) := by decide +kernel
theorem dX10_waysFrom_32 : decode cX10_waysFrom 32 = .ok (.istore 7, 2) := by decide +kernel
theorem dX10_waysFrom_34 : decode cX10_waysFrom 34 = .ok (.aload_n 0, 1) := by decide +kernel
theorem dX10_waysFrom_35 : decode cX10_waysFrom 35 = .ok (.iload_n 2, 1) := by decide +kernel
theorem dX10_waysFrom_36 : decode cX10_waysFrom 36 = .ok (.invokevirtual 339, 3) := by decide +kernel
theorem dX10_waysFrom_39 : decode cX10_waysFrom 39 = .ok (.istore 8, 2) := by decide +kernel
theorem dX10_waysFrom_41 : decode cX10_waysFrom 41 = .ok (.iload 7, 2) := by decide +kernel
theorem dX10_waysFrom_43 : decode cX10_waysFrom 43 = .ok (.iload 8, 2) := by decide +kernel
theorem dX10_waysFrom_45 : decode cX10_waysFrom 45 = .ok (.if_icmp .eq 8, 3) := by decide +kernel
theorem dX10_waysFrom_48 : decode cX10_waysFrom 48 = .ok (.iload 7, 2) := by decide +kernel
theorem dX10_waysFrom_50 : decode cX10_waysFrom 50 = .ok (.ifCond .ne 6, 3) := by decide +kernel
theorem dX10_waysFrom_53 : decode cX10_waysFrom 53 = .ok (.lload 5, 2) := by decide +kernel
theorem dX10_waysFrom_55 : decode cX10_waysFrom 55 = .ok (.lreturn, 1) := by decide +kernel
theorem dX10_waysFrom_56 : decode cX10_waysFrom 56 = .ok (.lload_n 3, 1) := by decide +kernel
theorem dX10_waysFrom_57 : decode cX10_waysFrom 57 = .ok (.lstore 9, 2) := by decide +kernel
theorem dX10_waysFrom_59 : decode cX10_waysFrom 59 = .ok (.iconst 0, 1) := by decide +kernel
theorem dX10_waysFrom_60 : decode cX10_waysFrom 60 = .ok (.istore 11, 2) := by decide +kernel
theorem dX10_waysFrom_62 : decode cX10_waysFrom 62 = .ok (.iload 11, 2) := by decide +kernel
theorem dX10_waysFrom_64 : decode cX10_waysFrom 64 = .ok (.aload_n 1, 1) := by decide +kernel
theorem dX10_waysFrom_65 : decode cX10_waysFrom 65 = .ok (.iload_n 2, 1) := by decide +kernel
theorem dX10_waysFrom_66 : decode cX10_waysFrom 66 = .ok (.invokestatic 208, 3) := by decide +kernel
theorem dX10_waysFrom_69 : decode cX10_waysFrom 69 = .ok (.if_icmp .ge 48, 3) := by decide +kernel
theorem dX10_waysFrom_72 : decode cX10_waysFrom 72 = .ok (.lload 9, 2) := by decide +kernel
theorem dX10_waysFrom_74 : decode cX10_waysFrom 74 = .ok (.iload 7, 2) := by decide +kernel
theorem dX10_waysFrom_76 : decode cX10_waysFrom 76 = .ok (.i2l, 1) := by decide +kernel
theorem dX10_waysFrom_77 : decode cX10_waysFrom 77 = .ok (.ldiv, 1) := by decide +kernel
theorem dX10_waysFrom_78 : decode cX10_waysFrom 78 = .ok (.iload 8, 2) := by decide +kernel
theorem dX10_waysFrom_80 : decode cX10_waysFrom 80 = .ok (.i2l, 1) := by decide +kernel
theorem dX10_waysFrom_81 : decode cX10_waysFrom 81 = .ok (.lmul, 1) := by decide +kernel
theorem dX10_waysFrom_82 : decode cX10_waysFrom 82 = .ok (.lstore 9, 2) := by decide +kernel
theorem dX10_waysFrom_84 : decode cX10_waysFrom 84 = .ok (.lload 9, 2) := by decide +kernel
theorem dX10_waysFrom_86 : decode cX10_waysFrom 86 = .ok (.ldc2_w 175, 3) := by decide +kernel
theorem dX10_waysFrom_89 : decode cX10_waysFrom 89 = .ok (.lcmp, 1) := by decide +kernel
theorem dX10_waysFrom_90 : decode cX10_waysFrom 90 = .ok (.ifCond .le 6, 3) := by decide +kernel
theorem dX10_waysFrom_93 : decode cX10_waysFrom 93 = .ok (.goto 24, 3) := by decide +kernel
theorem dX10_waysFrom_96 : decode cX10_waysFrom 96 = .ok (.lload 5, 2) := by decide +kernel
theorem dX10_waysFrom_98 : decode cX10_waysFrom 98 = .ok (.aload_n 0, 1) := by decide +kernel
theorem dX10_waysFrom_99 : decode cX10_waysFrom 99 = .ok (.aload_n 1, 1) := by decide +kernel
theorem dX10_waysFrom_100 : decode cX10_waysFrom 100 = .ok (.iload_n 2, 1) := by decide +kernel
theorem dX10_waysFrom_101 : decode cX10_waysFrom 101 = .ok (.iconst 1, 1) := by decide +kernel
theorem dX10_waysFrom_102 : decode cX10_waysFrom 102 = .ok (.iadd, 1) := by decide +kernel
theorem dX10_waysFrom_103 : decode cX10_waysFrom 103 = .ok (.lload 9, 2) := by decide +kernel
theorem dX10_waysFrom_105 : decode cX10_waysFrom 105 = .ok (.invokestatic 280, 3) := by decide +kernel
theorem dX10_waysFrom_108 : decode cX10_waysFrom 108 = .ok (.ladd, 1) := by decide +kernel
theorem dX10_waysFrom_109 : decode cX10_waysFrom 109 = .ok (.lstore 5, 2) := by decide +kernel
theorem dX10_waysFrom_111 : decode cX10_waysFrom 111 = .ok (.iinc 11 1, 3) := by decide +kernel
theorem dX10_waysFrom_114 : decode cX10_waysFrom 114 = .ok (.goto (-52), 3) := by decide +kernel
theorem dX10_waysFrom_117 : decode cX10_waysFrom 117 = .ok (.lload 5, 2) := by decide +kernel
theorem dX10_waysFrom_119 : decode cX10_waysFrom 119 = .ok (.lreturn, 1) := by decide +kernel
theorem dX10_wider_0 : decode cX10_wider 0 = .ok (.iload_n 0, 1) := by decide +kernel
theorem dX10_wider_1 : decode cX10_wider 1 = .ok (.ifCond .lt 19, 3) := by decide +kernel
theorem dX10_wider_4 : decode cX10_wider 4 = .ok (.iload_n 0, 1) := by decide +kernel
theorem dX10_wider_5 : decode cX10_wider 5 = .ok (.getstatic 342, 3) := by decide +kernel
theorem dX10_wider_8 : decode cX10_wider 8 = .ok (.arraylength, 1) := by decide +kernel
theorem dX10_wider_9 : decode cX10_wider 9 = .ok (.if_icmp .ge 11, 3) := by decide +kernel
theorem dX10_wider_12 : decode cX10_wider 12 = .ok (.getstatic 342, 3) := by decide +kernel
theorem dX10_wider_15 : decode cX10_wider 15 = .ok (.iload_n 0, 1) := by decide +kernel
theorem dX10_wider_16 : decode cX10_wider 16 = .ok (.iaload, 1) := by decide +kernel
theorem dX10_wider_17 : decode cX10_wider 17 = .ok (.goto 4, 3) := by decide +kernel
theorem dX10_wider_20 : decode cX10_wider 20 = .ok (.iconst (-1), 1) := by decide +kernel
theorem dX10_wider_21 : decode cX10_wider 21 = .ok (.ireturn, 1) := by decide +kernel
theorem dX11_init_0 : decode cX11_init 0 = .ok (.aload_n 0, 1) := by decide +kernel
theorem dX11_init_1 : decode cX11_init 1 = .ok (.invokespecial 3, 3) := by decide +kernel
theorem dX11_init_4 : decode cX11_init 4 = .ok (.aload_n 0, 1) := by decide +kernel
theorem dX11_init_5 : decode cX11_init 5 = .ok (.bipush 8, 2) := by decide +kernel
theorem dX11_init_7 : decode cX11_init 7 = .ok (.newarray .int, 2) := by decide +kernel
theorem dX11_init_9 : decode cX11_init 9 = .ok (.dup, 1) := by decide +kernel
theorem dX11_init_10 : decode cX11_init 10 = .ok (.iconst 0, 1) := by decide +kernel
theorem dX11_init_11 : decode cX11_init 11 = .ok (.iconst (-1), 1) := by decide +kernel
theorem dX11_init_12 : decode cX11_init 12 = .ok (.iastore, 1) := by decide +kernel
theorem dX11_init_13 : decode cX11_init 13 = .ok (.dup, 1) := by decide +kernel
theorem dX11_init_14 : decode cX11_init 14 = .ok (.iconst 1, 1) := by decide +kernel
theorem dX11_init_15 : decode cX11_init 15 = .ok (.iconst (-1), 1) := by decide +kernel
theorem dX11_init_16 : decode cX11_init 16 = .ok (.iastore, 1) := by decide +kernel
theorem dX11_init_17 : decode cX11_init 17 = .ok (.dup, 1) := by decide +kernel
theorem dX11_init_18 : decode cX11_init 18 = .ok (.iconst 2, 1) := by decide +kernel
theorem dX11_init_19 : decode cX11_init 19 = .ok (.iconst (-1), 1) := by decide +kernel
theorem dX11_init_20 : decode cX11_init 20 = .ok (.iastore, 1) := by decide +kernel
theorem dX11_init_21 : decode cX11_init 21 = .ok (.dup, 1) := by decide +kernel
theorem dX11_init_22 : decode cX11_init 22 = .ok (.iconst 3, 1) := by decide +kernel
theorem dX11_init_23 : decode cX11_init 23 = .ok (.iconst (-1), 1) := by decide +kernel
theorem dX11_init_24 : decode cX11_init 24 = .ok (.iastore, 1) := by decide +kernel
theorem dX11_init_25 : decode cX11_init 25 = .ok (.dup, 1) := by decide +kernel
theorem dX11_init_26 : decode cX11_init 26 = .ok (.iconst 4, 1) := by decide +kernel
theorem dX11_init_27 : decode cX11_init 27 = .ok (.iconst (-1), 1) := by decide +kernel
theorem dX11_init_28 : decode cX11_init 28 = .ok (.iastore, 1) := by decide +kernel
theorem dX11_init_29 : decode cX11_init 29 = .ok (.dup, 1) := by decide +kernel
theorem dX11_init_30 : decode cX11_init 30 = .ok (.iconst 5, 1) := by decide +kernel
theorem dX11_init_31 : decode cX11_init 31 = .ok (.iconst (-1), 1) := by decide +kernel
theorem dX11_init_32 : decode cX11_init 32 = .ok (.iastore, 1) := by decide +kernel
theorem dX11_init_33 : decode cX11_init 33 = .ok (.dup, 1) := by decide +kernel
theorem dX11_init_34 : decode cX11_init 34 = .ok (.bipush 6, 2) := by decide +kernel
theorem dX11_init_36 : decode cX11_init 36 = .ok (.iconst (-1), 1) := by decide +kernel
theorem dX11_init_37 : decode cX11_init 37 = .ok (.iastore, 1) := by decide +kernel
theorem dX11_init_38 : decode cX11_init 38 = .ok (.dup, 1) := by decide +kernel
theorem dX11_init_39 : decode cX11_init 39 = .ok (.bipush 7, 2) := by decide +kernel
theorem dX11_init_41 : decode cX11_init 41 = .ok (.iconst (-1), 1) := by decide +kernel
theorem dX11_init_42 : decode cX11_init 42 = .ok (.iastore, 1) := by decide +kernel
theorem dX11_init_43 : decode cX11_init 43 = .ok (.putfield 9, 3) := by decide +kernel
theorem dX11_init_46 : decode cX11_init 46 = .ok (.aload_n 0, 1) := by decide +kernel
theorem dX11_init_47 : decode cX11_init 47 = .ok (.bipush 8, 2) := by decide +kernel
theorem dX11_init_49 : decode cX11_init 49 = .ok (.newarray .int, 2) := by decide +kernel
theorem dX11_init_51 : decode cX11_init 51 = .ok (.putfield 13, 3) := by decide +kernel
theorem dX11_init_54 : decode cX11_init 54 = .ok (.aload_n 0, 1) := by decide +kernel
theorem dX11_init_55 : decode cX11_init 55 = .ok (.sipush 320, 3) := by decide +kernel
theorem dX11_init_58 : decode cX11_init 58 = .ok (.newarray .int, 2) := by decide +kernel
theorem dX11_init_60 : decode cX11_init 60 = .ok (.putfield 16, 3) := by decide +kernel
theorem dX11_init_63 : decode cX11_init 63 = .ok (.aload_n 0, 1) := by decide +kernel
theorem dX11_init_64 : decode cX11_init 64 = .ok (.bipush 65, 2) := by decide +kernel
theorem dX11_init_66 : decode cX11_init 66 = .ok (.newarray .int, 2) := by decide +kernel
theorem dX11_init_68 : decode cX11_init 68 = .ok (.putfield 19, 3) := by decide +kernel
theorem dX11_init_71 : decode cX11_init 71 = .ok (.aload_n 0, 1) := by decide +kernel
theorem dX11_init_72 : decode cX11_init 72 = .ok (.bipush 65, 2) := by decide +kernel
theorem dX11_init_74 : decode cX11_init 74 = .ok (.newarray .int, 2) := by decide +kernel
theorem dX11_init_76 : decode cX11_init 76 = .ok (.putfield 22, 3) := by decide +kernel
theorem dX11_init_79 : decode cX11_init 79 = .ok (.aload_n 0, 1) := by decide +kernel
theorem dX11_init_80 : decode cX11_init 80 = .ok (.bipush 8, 2) := by decide +kernel
theorem dX11_init_82 : decode cX11_init 82 = .ok (.newarray .long, 2) := by decide +kernel
theorem dX11_init_84 : decode cX11_init 84 = .ok (.putfield 25, 3) := by decide +kernel
theorem dX11_init_87 : decode cX11_init 87 = .ok (.aload_n 0, 1) := by decide +kernel
theorem dX11_init_88 : decode cX11_init 88 = .ok (.sipush 400, 3) := by decide +kernel
theorem dX11_init_91 : decode cX11_init 91 = .ok (.newarray .int, 2) := by decide +kernel
theorem dX11_init_93 : decode cX11_init 93 = .ok (.putfield 29, 3) := by decide +kernel
theorem dX11_init_96 : decode cX11_init 96 = .ok (.aload_n 0, 1) := by decide +kernel
theorem dX11_init_97 : decode cX11_init 97 = .ok (.bipush 12, 2) := by decide +kernel
theorem dX11_init_99 : decode cX11_init 99 = .ok (.newarray .int, 2) := by decide +kernel
theorem dX11_init_101 : decode cX11_init 101 = .ok (.putfield 32, 3) := by decide +kernel
theorem dX11_init_104 : decode cX11_init 104 = .ok (.aload_n 0, 1) := by decide +kernel
theorem dX11_init_105 : decode cX11_init 105 = .ok (.bipush 6, 2) := by decide +kernel
theorem dX11_init_107 : decode cX11_init 107 = .ok (.newarray .int, 2) := by decide +kernel
theorem dX11_init_109 : decode cX11_init 109 = .ok (.putfield 35, 3) := by decide +kernel
theorem dX11_init_112 : decode cX11_init 112 = .ok (.aload_n 0, 1) := by decide +kernel
theorem dX11_init_113 : decode cX11_init 113 = .ok (.bipush 6, 2) := by decide +kernel
theorem dX11_init_115 : decode cX11_init 115 = .ok (.newarray .int, 2) := by decide +kernel
theorem dX11_init_117 : decode cX11_init 117 = .ok (.putfield 38, 3) := by decide +kernel
theorem dX11_init_120 : decode cX11_init 120 = .ok (.aload_n 0, 1) := by decide +kernel
theorem dX11_init_121 : decode cX11_init 121 = .ok (.bipush 12, 2) := by decide +kernel
theorem dX11_init_123 : decode cX11_init 123 = .ok (.newarray .int, 2) := by decide +kernel
theorem dX11_init_125 : decode cX11_init 125 = .ok (.putfield 41, 3) := by decide +kernel
theorem dX11_init_128 : decode cX11_init 128 = .ok (.aload_n 0, 1) := by decide +kernel
theorem dX11_init_129 : decode cX11_init 129 = .ok (.iconst 2, 1) := by decide +kernel
theorem dX11_init_130 : decode cX11_init 130 = .ok (.newarray .boolean, 2) := by decide +kernel
theorem dX11_init_132 : decode cX11_init 132 = .ok (.putfield 44, 3) := by decide +kernel
theorem dX11_init_135 : decode cX11_init 135 = .ok (.aload_n 0, 1) := by decide +kernel
theorem dX11_init_136 : decode cX11_init 136 = .ok (.sipush 130, 3) := by decide +kernel
theorem dX11_init_139 : decode cX11_init 139 = .ok (.newarray .int, 2) := by decide +kernel
theorem dX11_init_141 : decode cX11_init 141 = .ok (.putfield 48, 3) := by decide +kernel
theorem dX11_init_144 : decode cX11_init 144 = .ok (.aload_n 0, 1) := by decide +kernel
theorem dX11_init_145 : decode cX11_init 145 = .ok (.bipush 16, 2) := by decide +kernel
theorem dX11_init_147 : decode cX11_init 147 = .ok (.newarray .long, 2) := by decide +kernel
theorem dX11_init_149 : decode cX11_init 149 = .ok (.putfield 51, 3) := by decide +kernel
theorem dX11_init_152 : decode cX11_init 152 = .ok (.aload_n 0, 1) := by decide +kernel
theorem dX11_init_153 : decode cX11_init 153 = .ok (.bipush 16, 2) := by decide +kernel
theorem dX11_init_155 : decode cX11_init 155 = .ok (.newarray .int, 2) := by decide +kernel
theorem dX11_init_157 : decode cX11_init 157 = .ok (.putfield 54, 3) := by decide +kernel
theorem dX11_init_160 : decode cX11_init 160 = .ok (.return_, 1) := by decide +kernel
theorem dX11_in_0 : decode cX11_in 0 = .ok (.lload_n 0, 1) := by decide +kernel
theorem dX11_in_1 : decode cX11_in 1 = .ok (.lload_n 2, 1) := by decide +kernel
theorem dX11_in_2 : decode cX11_in 2 = .ok (.lcmp, 1) := by decide +kernel
theorem dX11_in_3 : decode cX11_in 3 = .ok (.ifCond .lt 14, 3) := by decide +kernel
theorem dX11_in_6 : decode cX11_in 6 = .ok (.lload_n 0, 1) := by decide +kernel
theorem dX11_in_7 : decode cX11_in 7 = .ok (.lload 4, 2) := by decide +kernel
theorem dX11_in_9 : decode cX11_in 9 = .ok (.lcmp, 1) := by decide +kernel
theorem dX11_in_10 : decode cX11_in 10 = .ok (.ifCond .gt 7, 3) := by decide +kernel
theorem dX11_in_13 : decode cX11_in 13 = .ok (.iconst 1, 1) := by decide +kernel
theorem dX11_in_14 : decode cX11_in 14 = .ok (.goto 4, 3) := by decide +kernel
theorem dX11_in_17 : decode cX11_in 17 = .ok (.iconst 0, 1) := by decide +kernel
theorem dX11_in_18 : decode cX11_in 18 = .ok (.ireturn, 1) := by decide +kernel
theorem dX11_finding_0 : decode cX11_finding 0 = .ok (.aload_n 0, 1) := by decide +kernel
theorem dX11_finding_1 : decode cX11_finding 1 = .ok (.iload_n 1, 1) := by decide +kernel
theorem dX11_finding_2 : decode cX11_finding 2 = .ok (.putfield 61, 3) := by decide +kernel
theorem dX11_finding_5 : decode cX11_finding 5 = .ok (.ldc2_w 64, 3) := by decide +kernel
theorem dX11_finding_8 : decode cX11_finding 8 = .ok (.iload_n 1, 1) := by decide +kernel
theorem dX11_finding_9 : decode cX11_finding 9 = .ok (.i2l, 1) := by decide +kernel
theorem dX11_finding_10 : decode cX11_finding 10 = .ok (.lsub, 1) := by decide +kernel
theorem dX11_finding_11 : decode cX11_finding 11 = .ok (.lreturn, 1) := by decide +kernel
theorem dX11_isRow_0 : decode cX11_isRow 0 = .ok (.iload_n 0, 1) := by decide +kernel
theorem dX11_isRow_1 : decode cX11_isRow 1 = .ok (.i2l, 1) := by decide +kernel
theorem dX11_isRow_2 : decode cX11_isRow 2 = .ok (.lconst 0, 1) := by decide +kernel
theorem dX11_isRow_3 : decode cX11_isRow 3 = .ok (.ldc2_w 66, 3) := by decide +kernel
theorem dX11_isRow_6 : decode cX11_isRow 6 = .ok (.invokestatic 68, 3) := by decide +kernel
theorem dX11_isRow_9 : decode cX11_isRow 9 = .ok (.ireturn, 1) := by decide +kernel
theorem dX11_row_0 : decode cX11_row 0 = .ok (.aload_n 0, 1) := by decide +kernel
theorem dX11_row_1 : decode cX11_row 1 = .ok (.iconst 0, 1) := by decide +kernel
theorem dX11_row_2 : decode cX11_row 2 = .ok (.putfield 57, 3) := by decide +kernel
theorem dX11_row_5 : decode cX11_row 5 = .ok (.iload_n 1, 1) := by decide +kernel
theorem dX11_row_6 : decode cX11_row 6 = .ok (.invokestatic 72, 3) := by decide +kernel
theorem dX11_row_9 : decode cX11_row 9 = .ok (.ifCond .eq 21, 3) := by decide +kernel
theorem dX11_row_12 : decode cX11_row 12 = .ok (.iload_n 2, 1) := by decide +kernel
theorem dX11_row_13 : decode cX11_row 13 = .ok (.i2l, 1) := by decide +kernel
theorem dX11_row_14 : decode cX11_row 14 = .ok (.lconst 0, 1) := by decide +kernel
theorem dX11_row_15 : decode cX11_row 15 = .ok (.ldc2_w 76, 3) := by decide +kernel
theorem dX11_row_18 : decode cX11_row 18 = .ok (.invokestatic 68, 3) := by decide +kernel
theorem dX11_row_21 : decode cX11_row 21 = .ok (.ifCond .eq 9, 3) := by decide +kernel
theorem dX11_row_24 : decode cX11_row 24 = .ok (.iload_n 3, 1) := by decide +kernel
theorem dX11_row_25 : decode cX11_row 25 = .ok (.bipush 40, 2) := by decide +kernel
theorem dX11_row_27 : decode cX11_row 27 = .ok (.if_icmp .le 7, 3) := by decide +kernel
theorem dX11_row_30 : decode cX11_row 30 = .ok (.ldc2_w 78, 3) := by decide +kernel
theorem dX11_row_33 : decode cX11_row 33 = .ok (.lreturn, 1) := by decide +kernel
theorem dX11_row_34 : decode cX11_row 34 = .ok (.aload_n 0, 1) := by decide +kernel
theorem dX11_row_35 : decode cX11_row 35 = .ok (.iconst 0, 1) := by decide +kernel
theorem dX11_row_36 : decode cX11_row 36 = .ok (.putfield 61, 3) := by decide +kernel
theorem dX11_row_39 : decode cX11_row 39 = .ok (.iload_n 3, 1) := by decide +kernel
theorem dX11_row_40 : decode cX11_row 40 = .ok (.ifCond .ge 9, 3) := by decide +kernel
theorem dX11_row_43 : decode cX11_row 43 = .ok (.aload_n 0, 1) := by decide +kernel
theorem dX11_row_44 : decode cX11_row 44 = .ok (.iconst 4, 1) := by decide +kernel
theorem dX11_row_45 : decode cX11_row 45 = .ok (.invokevirtual 80, 3) := by decide +kernel
theorem dX11_row_48 : decode cX11_row 48 = .ok (.lreturn, 1) := by decide +kernel
theorem dX11_row_49 : decode cX11_row 49 = .ok (.aload_n 0, 1) := by decide +kernel
theorem dX11_row_50 : decode cX11_row 50 = .ok (.getfield 9, 3) := by decide +kernel
theorem dX11_row_53 : decode cX11_row 53 = .ok (.iload_n 1, 1) := by decide +kernel
theorem dX11_row_54 : decode cX11_row 54 = .ok (.iload_n 2, 1) := by decide +kernel
theorem dX11_row_55 : decode cX11_row 55 = .ok (.iastore, 1) := by decide +kernel
theorem dX11_row_56 : decode cX11_row 56 = .ok (.aload_n 0, 1) := by decide +kernel
theorem dX11_row_57 : decode cX11_row 57 = .ok (.getfield 13, 3) := by decide +kernel
theorem dX11_row_60 : decode cX11_row 60 = .ok (.iload_n 1, 1) := by decide +kernel
theorem dX11_row_61 : decode cX11_row 61 = .ok (.iload_n 3, 1) := by decide +kernel
theorem dX11_row_62 : decode cX11_row 62 = .ok (.iastore, 1) := by decide +kernel
theorem dX11_row_63 : decode cX11_row 63 = .ok (.iconst 0, 1) := by decide +kernel
theorem dX11_row_64 : decode cX11_row 64 = .ok (.istore 4, 2) := by decide +kernel
theorem dX11_row_66 : decode cX11_row 66 = .ok (.iload 4, 2) := by decide +kernel
theorem dX11_row_68 : decode cX11_row 68 = .ok (.bipush 40, 2) := by decide +kernel
theorem dX11_row_70 : decode cX11_row 70 = .ok (.if_icmp .ge 22, 3) := by decide +kernel
theorem dX11_row_73 : decode cX11_row 73 = .ok (.aload_n 0, 1) := by decide +kernel
theorem dX11_row_74 : decode cX11_row 74 = .ok (.getfield 16, 3) := by decide +kernel
theorem dX11_row_77 : decode cX11_row 77 = .ok (.bipush 40, 2) := by decide +kernel
theorem dX11_row_79 : decode cX11_row 79 = .ok (.iload_n 1, 1) := by decide +kernel
theorem dX11_row_80 : decode cX11_row 80 = .ok (.imul, 1) := by decide +kernel
theorem dX11_row_81 : decode cX11_row 81 = .ok (.iload 4, 2) := by decide +kernel
theorem dX11_row_83 : decode cX11_row 83 = .ok (.iadd, 1) := by decide +kernel
theorem dX11_row_84 : decode cX11_row 84 = .ok (.iconst 0, 1) := by decide +kernel
theorem dX11_row_85 : decode cX11_row 85 = .ok (.iastore, 1) := by decide +kernel
theorem dX11_row_86 : decode cX11_row 86 = .ok (.iinc 4 1, 3) := by decide +kernel
theorem dX11_row_89 : decode cX11_row 89 = .ok (.goto (-23), 3) := by decide +kernel
theorem dX11_row_92 : decode cX11_row 92 = .ok (.iload_n 3, 1) := by decide +kernel
theorem dX11_row_93 : decode cX11_row 93 = .ok (.i2l, 1) := by decide +kernel
theorem dX11_row_94 : decode cX11_row 94 = .ok (.lreturn, 1) := by decide +kernel
theorem dX11_set_0 : decode cX11_set 0 = .ok (.aload_n 0, 1) := by decide +kernel
theorem dX11_set_1 : decode cX11_set 1 = .ok (.iconst 0, 1) := by decide +kernel
theorem dX11_set_2 : decode cX11_set 2 = .ok (.putfield 57, 3) := by decide +kernel
theorem dX11_set_5 : decode cX11_set 5 = .ok (.iload_n 1, 1) := by decide +kernel
theorem dX11_set_6 : decode cX11_set 6 = .ok (.invokestatic 72, 3) := by decide +kernel
theorem dX11_set_9 : decode cX11_set 9 = .ok (.ifCond .ne 7, 3) := by decide +kernel
theorem dX11_set_12 : decode cX11_set 12 = .ok (.ldc2_w 78, 3) := by decide +kernel
theorem dX11_set_15 : decode cX11_set 15 = .ok (.lreturn, 1) := by decide +kernel
theorem dX11_set_16 : decode cX11_set 16 = .ok (.aload_n 0, 1) := by decide +kernel
theorem dX11_set_17 : decode cX11_set 17 = .ok (.iconst 0, 1) := by decide +kernel
theorem dX11_set_18 : decode cX11_set 18 = .ok (.putfield 61, 3) := by decide +kernel
theorem dX11_set_21 : decode cX11_set 21 = .ok (.aload_n 0, 1) := by decide +kernel
theorem dX11_set_22 : decode cX11_set 22 = .ok (.getfield 9, 3) := by decide +kernel
theorem dX11_set_25 : decode cX11_set 25 = .ok (.iload_n 1, 1) := by decide +kernel
theorem dX11_set_26 : decode cX11_set 26 = .ok (.iaload, 1) := by decide +kernel
theorem dX11_set_27 : decode cX11_set 27 = .ok (.ifCond .ge 9, 3) := by decide +kernel
theorem dX11_set_30 : decode cX11_set 30 = .ok (.aload_n 0, 1) := by decide +kernel
theorem dX11_set_31 : decode cX11_set 31 = .ok (.iconst 1, 1) := by decide +kernel
theorem dX11_set_32 : decode cX11_set 32 = .ok (.invokevirtual 80, 3) := by decide +kernel
theorem dX11_set_35 : decode cX11_set 35 = .ok (.lreturn, 1) := by decide +kernel
theorem dX11_set_36 : decode cX11_set 36 = .ok (.iload_n 2, 1) := by decide +kernel
theorem dX11_set_37 : decode cX11_set 37 = .ok (.i2l, 1) := by decide +kernel
theorem dX11_set_38 : decode cX11_set 38 = .ok (.lconst 0, 1) := by decide +kernel
theorem dX11_set_39 : decode cX11_set 39 = .ok (.aload_n 0, 1) := by decide +kernel
theorem dX11_set_40 : decode cX11_set 40 = .ok (.getfield 13, 3) := by decide +kernel
theorem dX11_set_43 : decode cX11_set 43 = .ok (.iload_n 1, 1) := by decide +kernel
theorem dX11_set_44 : decode cX11_set 44 = .ok (.iaload, 1) := by decide +kernel
theorem dX11_set_45 : decode cX11_set 45 = .ok (.iconst 1, 1) := by decide +kernel
theorem dX11_set_46 : decode cX11_set 46 = .ok (.isub, 1) := by decide +kernel
theorem dX11_set_47 : decode cX11_set 47 = .ok (.i2l, 1) := by decide +kernel
theorem dX11_set_48 : decode cX11_set 48 = .ok (.invokestatic 68, 3) := by decide +kernel
theorem dX11_set_51 : decode cX11_set 51 = .ok (.ifCond .ne 9, 3) := by decide +kernel
theorem dX11_set_54 : decode cX11_set 54 = .ok (.aload_n 0, 1) := by decide +kernel
theorem dX11_set_55 : decode cX11_set 55 = .ok (.iconst 2, 1) := by decide +kernel
theorem dX11_set_56 : decode cX11_set 56 = .ok (.invokevirtual 80, 3) := by decide +kernel
theorem dX11_set_59 : decode cX11_set 59 = .ok (.lreturn, 1) := by decide +kernel
theorem dX11_set_60 : decode cX11_set 60 = .ok (.aload_n 0, 1) := by decide +kernel
theorem dX11_set_61 : decode cX11_set 61 = .ok (.getfield 16, 3) := by decide +kernel
theorem dX11_set_64 : decode cX11_set 64 = .ok (.bipush 40, 2) := by decide +kernel
theorem dX11_set_66 : decode cX11_set 66 = .ok (.iload_n 1, 1) := by decide +kernel
theorem dX11_set_67 : decode cX11_set 67 = .ok (.imul, 1) := by decide +kernel
theorem dX11_set_68 : decode cX11_set 68 = .ok (.iload_n 2, 1) := by decide +kernel
theorem dX11_set_69 : decode cX11_set 69 = .ok (.iadd, 1) := by decide +kernel
theorem dX11_set_70 : decode cX11_set 70 = .ok (.aload_n 0, 1) := by decide +kernel
theorem dX11_set_71 : decode cX11_set 71 = .ok (.getfield 9, 3) := by decide +kernel
theorem dX11_set_74 : decode cX11_set 74 = .ok (.iload_n 1, 1) := by decide +kernel
theorem dX11_set_75 : decode cX11_set 75 = .ok (.iaload, 1) := by decide +kernel
theorem dX11_set_76 : decode cX11_set 76 = .ok (.ifCond .ne 8, 3) := by decide +kernel
theorem dX11_set_79 : decode cX11_set 79 = .ok (.iload_n 3, 1) := by decide +kernel
theorem dX11_set_80 : decode cX11_set 80 = .ok (.i2b, 1) := by decide +kernel
theorem dX11_set_81 : decode cX11_set 81 = .ok (.goto 19, 3) := by decide +kernel
theorem dX11_set_84 : decode cX11_set 84 = .ok (.aload_n 0, 1) := by decide +kernel
theorem dX11_set_85 : decode cX11_set 85 = .ok (.getfield 9, 3) := by decide +kernel
theorem dX11_set_88 : decode cX11_set 88 = .ok (.iload_n 1, 1) := by decide +kernel
theorem dX11_set_89 : decode cX11_set 89 = .ok (.iaload, 1) := by decide +kernel
theorem dX11_set_90 : decode cX11_set 90 = .ok (.iconst 1, 1) := by decide +kernel
theorem dX11_set_91 : decode cX11_set 91 = .ok (.if_icmp .ne 8, 3) := by decide +kernel
theorem dX11_set_94 : decode cX11_set 94 = .ok (.iload_n 3, 1) := by decide +kernel
theorem dX11_set_95 : decode cX11_set 95 = .ok (.i2s, 1) := by decide +kernel
theorem dX11_set_96 : decode cX11_set 96 = .ok (.goto 4, 3) := by decide +kernel
theorem dX11_set_99 : decode cX11_set 99 = .ok (.iload_n 3, 1) := by decide +kernel
theorem dX11_set_100 : decode cX11_set 100 = .ok (.iastore, 1) := by decide +kernel
theorem dX11_set_101 : decode cX11_set 101 = .ok (.aload_n 0, 1) := by decide +kernel
theorem dX11_set_102 : decode cX11_set 102 = .ok (.getfield 16, 3) := by decide +kernel
theorem dX11_set_105 : decode cX11_set 105 = .ok (.bipush 40, 2) := by decide +kernel
theorem dX11_set_107 : decode cX11_set 107 = .ok (.iload_n 1, 1) := by decide +kernel
theorem dX11_set_108 : decode cX11_set 108 = .ok (.imul, 1) := by decide +kernel
theorem dX11_set_109 : decode cX11_set 109 = .ok (.iload_n 2, 1) := by decide +kernel
theorem dX11_set_110 : decode cX11_set 110 = .ok (.iadd, 1) := by decide +kernel
theorem dX11_set_111 : decode cX11_set 111 = .ok (.iaload, 1) := by decide +kernel
theorem dX11_set_112 : decode cX11_set 112 = .ok (.i2l, 1) := by decide +kernel
theorem dX11_set_113 : decode cX11_set 113 = .ok (.lreturn, 1) := by decide +kernel
theorem dX11_copy_0 : decode cX11_copy 0 = .ok (.aload_n 0, 1) := by decide +kernel
theorem dX11_copy_1 : decode cX11_copy 1 = .ok (.iconst 0, 1) := by decide +kernel
theorem dX11_copy_2 : decode cX11_copy 2 = .ok (.putfield 57, 3) := by decide +kernel
theorem dX11_copy_5 : decode cX11_copy 5 = .ok (.iload_n 1, 1) := by decide +kernel
theorem dX11_copy_6 : decode cX11_copy 6 = .ok (.invokestatic 72, 3) := by decide +kernel
theorem dX11_copy_9 : decode cX11_copy 9 = .ok (.ifCond .eq 10, 3) := by decide +kernel
theorem dX11_copy_12 : decode cX11_copy 12 = .ok (.iload_n 3, 1) := by decide +kernel
theorem dX11_copy_13 : decode cX11_copy 13 = .ok (.invokestatic 72, 3) := by decide +kernel
theorem dX11_copy_16 : decode cX11_copy 16 = .ok (.ifCond .ne 7, 3) := by decide +kernel
theorem dX11_copy_19 : decode cX11_copy 19 = .ok (.ldc2_w 78, 3) := by decide +kernel
theorem dX11_copy_22 : decode cX11_copy 22 = .ok (.lreturn, 1) := by decide +kernel
theorem dX11_copy_23 : decode cX11_copy 23 = .ok (.aload_n 0, 1) := by decide +kernel
theorem dX11_copy_24 : decode cX11_copy 24 = .ok (.iconst 0, 1) := by decide +kernel
theorem dX11_copy_25 : decode cX11_copy 25 = .ok (.putfield 61, 3) := by decide +kernel
theorem dX11_copy_28 : decode cX11_copy 28 = .ok (.aload_n 0, 1) := by decide +kernel
theorem dX11_copy_29 : decode cX11_copy 29 = .ok (.getfield 9, 3) := by decide +kernel
theorem dX11_copy_32 : decode cX11_copy 32 = .ok (.iload_n 1, 1) := by decide +kernel
theorem dX11_copy_33 : decode cX11_copy 33 = .ok (.iaload, 1) := by decide +kernel
theorem dX11_copy_34 : decode cX11_copy 34 = .ok (.ifCond .lt 12, 3) := by decide +kernel
theorem dX11_copy_37 : decode cX11_copy 37 = .ok (.aload_n 0, 1) := by decide +kernel
theorem dX11_copy_38 : decode cX11_copy 38 = .ok (.getfield 9, 3) := by decide +kernel
theorem dX11_copy_41 : decode cX11_copy 41 = .ok (.iload_n 3, 1) := by decide +kernel
theorem dX11_copy_42 : decode cX11_copy 42 = .ok (.iaload, 1) := by decide +kernel
theorem dX11_copy_43 : decode cX11_copy 43 = .ok (.ifCond .ge 9, 3) := by decide +kernel
theorem dX11_copy_46 : decode cX11_copy 46 = .ok (.aload_n 0, 1) := by decide +kernel
theorem dX11_copy_47 : decode cX11_copy 47 = .ok (.iconst 1, 1) := by decide +kernel
theorem dX11_copy_48 : decode cX11_copy 48 = .ok (.invokevirtual 80, 3) := by decide +kernel
theorem dX11_copy_51 : decode cX11_copy 51 = .ok (.lreturn, 1) := by decide +kernel
theorem dX11_copy_52 : decode cX11_copy 52 = .ok (.aload_n 0, 1) := by decide +kernel
theorem dX11_copy_53 : decode cX11_copy 53 = .ok (.getfield 9, 3) := by decide +kernel
theorem dX11_copy_56 : decode cX11_copy 56 = .ok (.iload_n 1, 1) := by decide +kernel
theorem dX11_copy_57 : decode cX11_copy 57 = .ok (.iaload, 1) := by decide +kernel
theorem dX11_copy_58 : decode cX11_copy 58 = .ok (.aload_n 0, 1) := by decide +kernel
theorem dX11_copy_59 : decode cX11_copy 59 = .ok (.getfield 9, 3) := by decide +kernel
theorem dX11_copy_62 : decode cX11_copy 62 = .ok (.iload_n 3, 1) := by decide +kernel
theorem dX11_copy_63 : decode cX11_copy 63 = .ok (.iaload, 1) := by decide +kernel
theorem dX11_copy_64 : decode cX11_copy 64 = .ok (.if_icmp .eq 9, 3) := by decide +kernel
theorem dX11_copy_67 : decode cX11_copy 67 = .ok (.aload_n 0, 1) := by decide +kernel
theorem dX11_copy_68 : decode cX11_copy 68 = .ok (.iconst 5, 1) := by decide +kernel
theorem dX11_copy_69 : decode cX11_copy 69 = .ok (.invokevirtual 80, 3) := by decide +kernel
theorem dX11_copy_72 : decode cX11_copy 72 = .ok (.lreturn, 1) := by decide +kernel
theorem dX11_copy_73 : decode cX11_copy 73 = .ok (.iload_n 2, 1) := by decide +kernel
theorem dX11_copy_74 : decode cX11_copy 74 = .ok (.ifCond .lt 48, 3) := by decide +kernel
theorem dX11_copy_77 : decode cX11_copy 77 = .ok (.iload 4, 2) := by decide +kernel
theorem dX11_copy_79 : decode cX11_copy 79 = .ok (.ifCond .lt 43, 3) := by decide +kernel
theorem dX11_copy_82 : decode cX11_copy 82 = .ok (.iload 5, 2) := by decide +kernel
theorem dX11_copy_84 : decode cX11_copy 84 = .ok (.ifCond .lt 38, 3) := by decide +kernel
theorem dX11_copy_87 : decode cX11_copy 87 = .ok (.iload_n 2, 1) := by decide +kernel
theorem dX11_copy_88 : decode cX11_copy 88 = .ok (.i2l, 1) := by decide +kernel
theorem dX11_copy_89 : decode cX11_copy 89 = .ok (.iload 5, 2) := by decide +kernel
theorem dX11_copy_91 : decode cX11_copy 91 = .ok (.i2l, 1) := by decide +kernel
theorem dX11_copy_92 : decode cX11_copy 92 = .ok (.ladd, 1) := by decide +kernel
theorem dX11_copy_93 : decode cX11_copy 93 = .ok (.aload_n 0, 1) := by decide +kernel
theorem dX11_copy_94 : decode cX11_copy 94 = .ok (.getfield 13, 3) := by decide +kernel
theorem dX11_copy_97 : decode cX11_copy 97 = .ok (.iload_n 1, 1) := by decide +kernel
theorem dX11_copy_98 : decode cX11_copy 98 = .ok (.iaload, 1) := by decide +kernel
theorem dX11_copy_99 : decode cX11_copy 99 = .ok (.i2l, 1) := by decide +kernel
theorem dX11_copy_100 : decode cX11_copy 100 = .ok (.lcmp, 1) := by decide +kernel
theorem dX11_copy_101 : decode cX11_copy 101 = .ok (.ifCond .gt 21, 3) := by decide +kernel
theorem dX11_copy_104 : decode cX11_copy 104 = .ok (.iload 4, 2) := by decide +kernel
theorem dX11_copy_106 : decode cX11_copy 106 = .ok (.i2l, 1) := by decide +kernel
theorem dX11_copy_107 : decode cX11_copy 107 = .ok (.iload 5, 2) := by decide +kernel
theorem dX11_copy_109 : decode cX11_copy 109 = .ok (.i2l, 1) := by decide +kernel
theorem dX11_copy_110 : decode cX11_copy 110 = .ok (.ladd, 1) := by decide +kernel
theorem dX11_copy_111 : decode cX11_copy 111 = .ok (.aload_n 0, 1) := by decide +kernel
theorem dX11_copy_112 : decode cX11_copy 112 = .ok (.getfield 13, 3) := by decide +kernel
theorem dX11_copy_115 : decode cX11_copy 115 = .ok (.iload_n 3, 1) := by decide +kernel
theorem dX11_copy_116 : decode cX11_copy 116 = .ok (.iaload, 1) := by decide +kernel
theorem dX11_copy_117 : decode cX11_copy 117 = .ok (.i2l, 1) := by decide +kernel
theorem dX11_copy_118 : decode cX11_copy 118 = .ok (.lcmp, 1) := by decide +kernel
theorem dX11_copy_119 : decode cX11_copy 119 = .ok (.ifCond .le 9, 3) := by decide +kernel
theorem dX11_copy_122 : decode cX11_copy 122 = .ok (.aload_n 0, 1) := by decide +kernel
theorem dX11_copy_123 : decode cX11_copy 123 = .ok (.iconst 2, 1) := by decide +kernel
theorem dX11_copy_124 : decode cX11_copy 124 = .ok (.invokevirtual 80, 3) := by decide +kernel
theorem dX11_copy_127 : decode cX11_copy 127 = .ok (.lreturn, 1) := by decide +kernel
theorem dX11_copy_128 : decode cX11_copy 128 = .ok (.iload_n 2, 1) := by decide +kernel
theorem dX11_copy_129 : decode cX11_copy 129 = .ok (.iload 4, 2) := by decide +kernel
theorem dX11_copy_131 : decode cX11_copy 131 = .ok (.if_icmp .lt 7, 3) := by decide +kernel
theorem dX11_copy_134 : decode cX11_copy 134 = .ok (.iconst 1, 1) := by decide +kernel
theorem dX11_copy_135 : decode cX11_copy 135 = .ok (.goto 4, 3) := by decide +kernel
theorem dX11_copy_138 : decode cX11_copy 138 = .ok (.iconst 0, 1) := by decide +kernel
theorem dX11_copy_139 : decode cX11_copy 139 = .ok (.istore 6, 2) := by decide +kernel
theorem dX11_copy_141 : decode cX11_copy 141 = .ok (.iconst 0, 1) := by decide +kernel
theorem dX11_copy_142 : decode cX11_copy 142 = .ok (.istore 7, 2) := by decide +kernel
theorem dX11_copy_144 : decode cX11_copy 144 = .ok (.iload 7, 2) := by decide +kernel
theorem dX11_copy_146 : decode cX11_copy 146 = .ok (.iload 5, 2) := by decide +kernel
theorem dX11_copy_148 : decode cX11_copy 148 = .ok (.if_icmp .ge 57, 3) := by decide +kernel
theorem dX11_copy_151 : decode cX11_copy 151 = .ok (.iload 6, 2) := by decide +kernel
theorem dX11_copy_153 : decode cX11_copy 153 = .ok (.ifCond .eq 8, 3) := by decide +kernel
theorem dX11_copy_156 : decode cX11_copy 156 = .ok (.iload 7, 2) := by decide +kernel
theorem dX11_copy_158 : decode cX11_copy 158 = .ok (.goto 10, 3) := by decide +kernel
theorem dX11_copy_161 : decode cX11_copy 161 = .ok (.iload 5, 2) := by decide +kernel
theorem dX11_copy_163 : decode cX11_copy 163 = .ok (.iconst 1, 1) := by decide +kernel
theorem dX11_copy_164 : decode cX11_copy 164 = .ok (.isub, 1) := by decide +kernel
theorem dX11_copy_165 : decode cX11_copy 165 = .ok (.iload 7, 2) := by decide +kernel
theorem dX11_copy_167 : decode cX11_copy 167 = .ok (.isub, 1) := by decide +kernel
theorem dX11_copy_168 : decode cX11_copy 168 = .ok (.istore 8, 2) := by decide +kernel
theorem dX11_copy_170 : decode cX11_copy 170 = .ok (.aload_n 0, 1) := by decide +kernel
theorem dX11_copy_171 : decode cX11_copy 171 = .ok (.getfield 16, 3) := by decide +kernel
theorem dX11_copy_174 : decode cX11_copy 174 = .ok (.bipush 40, 2) := by decide +kernel
theorem dX11_copy_176 : decode cX11_copy 176 = .ok (.iload_n 3, 1) := by decide +kernel
theorem dX11_copy_177 : decode cX11_copy 177 = .ok (.imul, 1) := by decide +kernel
theorem dX11_copy_178 : decode cX11_copy 178 = .ok (.iload 4, 2) := by decide +kernel
theorem dX11_copy_180 : decode cX11_copy 180 = .ok (.iadd, 1) := by decide +kernel
theorem dX11_copy_181 : decode cX11_copy 181 = .ok (.iload 8, 2) := by decide +kernel
theorem dX11_copy_183 : decode cX11_copy 183 = .ok (.iadd, 1) := by decide +kernel
theorem dX11_copy_184 : decode cX11_copy 184 = .ok (.aload_n 0, 1) := by decide +kernel
theorem dX11_copy_185 : decode cX11_copy 185 = .ok (.getfield 16, 3) := by decide +kernel
theorem dX11_copy_188 : decode cX11_copy 188 = .ok (.bipush 40, 2) := by decide +kernel
theorem dX11_copy_190 : decode cX11_copy 190 = .ok (.iload_n 1, 1) := by decide +kernel
theorem dX11_copy_191 : decode cX11_copy 191 = .ok (.imul, 1) := by decide +kernel
theorem dX11_copy_192 : decode cX11_copy 192 = .ok (.iload_n 2, 1) := by decide +kernel
theorem dX11_copy_193 : decode cX11_copy 193 = .ok (.iadd, 1) := by decide +kernel
theorem dX11_copy_194 : decode cX11_copy 194 = .ok (.iload 8, 2) := by decide +kernel
theorem dX11_copy_196 : decode cX11_copy 196 = .ok (.iadd, 1) := by decide +kernel
theorem dX11_copy_197 : decode cX11_copy 197 = .ok (.iaload, 1) := by decide +kernel
theorem dX11_copy_198 : decode cX11_copy 198 = .ok (.iastore, 1) := by decide +kernel
theorem dX11_copy_199 : decode cX11_copy 199 = .ok (.iinc 7 1, 3) := by decide +kernel
theorem dX11_copy_202 : decode cX11_copy 202 = .ok (.goto (-58), 3) := by decide +kernel
theorem dX11_copy_205 : decode cX11_copy 205 = .ok (.iload 5, 2) := by decide +kernel
theorem dX11_copy_207 : decode cX11_copy 207 = .ok (.i2l, 1) := by decide +kernel
theorem dX11_copy_208 : decode cX11_copy 208 = .ok (.lreturn, 1) := by decide +kernel
theorem dX11_drop_0 : decode cX11_drop 0 = .ok (.aload_n 0, 1) := by decide +kernel
theorem dX11_drop_1 : decode cX11_drop 1 = .ok (.iconst 0, 1) := by decide +kernel
theorem dX11_drop_2 : decode cX11_drop 2 = .ok (.putfield 57, 3) := by decide +kernel
theorem dX11_drop_5 : decode cX11_drop 5 = .ok (.iload_n 1, 1) := by decide +kernel
theorem dX11_drop_6 : decode cX11_drop 6 = .ok (.invokestatic 72, 3) := by decide +kernel
theorem dX11_drop_9 : decode cX11_drop 9 = .ok (.ifCond .ne 7, 3) := by decide +kernel
theorem dX11_drop_12 : decode cX11_drop 12 = .ok (.ldc2_w 78, 3) := by decide +kernel
theorem dX11_drop_15 : decode cX11_drop 15 = .ok (.lreturn, 1) := by decide +kernel
theorem dX11_drop_16 : decode cX11_drop 16 = .ok (.aload_n 0, 1) := by decide +kernel
theorem dX11_drop_17 : decode cX11_drop 17 = .ok (.iconst 0, 1) := by decide +kernel
theorem dX11_drop_18 : decode cX11_drop 18 = .ok (.putfield 61, 3) := by decide +kernel
theorem dX11_drop_21 : decode cX11_drop 21 = .ok (.aload_n 0, 1) := by decide +kernel
theorem dX11_drop_22 : decode cX11_drop 22 = .ok (.getfield 9, 3) := by decide +kernel
theorem dX11_drop_25 : decode cX11_drop 25 = .ok (.iload_n 1, 1) := by decide +kernel
theorem dX11_drop_26 : decode cX11_drop 26 = .ok (.iaload, 1) := by decide +kernel
theorem dX11_drop_27 : decode cX11_drop 27 = .ok (.ifCond .ge 9, 3) := by decide +kernel
theorem dX11_drop_30 : decode cX11_drop 30 = .ok (.aload_n 0, 1) := by decide +kernel
theorem dX11_drop_31 : decode cX11_drop 31 = .ok (.iconst 1, 1) := by decide +kernel
theorem dX11_drop_32 : decode cX11_drop 32 = .ok (.invokevirtual 80, 3) := by decide +kernel
theorem dX11_drop_35 : decode cX11_drop 35 = .ok (.lreturn, 1) := by decide +kernel
theorem dX11_drop_36 : decode cX11_drop 36 = .ok (.aload_n 0, 1) := by decide +kernel
theorem dX11_drop_37 : decode cX11_drop 37 = .ok (.getfield 9, 3) := by decide +kernel
theorem dX11_drop_40 : decode cX11_drop 40 = .ok (.iload_n 1, 1) := by decide +kernel
theorem dX11_drop_41 : decode cX11_drop 41 = .ok (.iconst (-1), 1) := by decide +kernel
theorem dX11_drop_42 : decode cX11_drop 42 = .ok (.iastore, 1) := by decide +kernel
theorem dX11_drop_43 : decode cX11_drop 43 = .ok (.aload_n 0, 1) := by decide +kernel
theorem dX11_drop_44 : decode cX11_drop 44 = .ok (.getfield 13, 3) := by decide +kernel
theorem dX11_drop_47 : decode cX11_drop 47 = .ok (.iload_n 1, 1) := by decide +kernel
theorem dX11_drop_48 : decode cX11_drop 48 = .ok (.iaload, 1) := by decide +kernel
theorem dX11_drop_49 : decode cX11_drop 49 = .ok (.i2l, 1) := by decide +kernel
theorem dX11_drop_50 : decode cX11_drop 50 = .ok (.lreturn, 1) := by decide +kernel
theorem dX11_feed_0 : decode cX11_feed 0 = .ok (.aload_n 0, 1) := by decide +kernel
theorem dX11_feed_1 : decode cX11_feed 1 = .ok (.iconst 0, 1) := by decide +kernel
theorem dX11_feed_2 : decode cX11_feed 2 = .ok (.putfield 57, 3) := by decide +kernel
theorem dX11_feed_5 : decode cX11_feed 5 = .ok (.iload_n 3, 1) := by decide +kernel
theorem dX11_feed_6 : decode cX11_feed 6 = .ok (.i2l, 1) := by decide +kernel
theorem dX11_feed_7 : decode cX11_feed 7 = .ok (.lconst 1, 1) := by decide +kernel
theorem dX11_feed_8 : decode cX11_feed 8 = .ok (.ldc2_w 84, 3) := by decide +kernel
theorem dX11_feed_11 : decode cX11_feed 11 = .ok (.invokestatic 68, 3) := by decide +kernel
theorem dX11_feed_14 : decode cX11_feed 14 = .ok (.ifCond .ne 7, 3) := by decide +kernel
theorem dX11_feed_17 : decode cX11_feed 17 = .ok (.ldc2_w 78, 3) := by decide +kernel
theorem dX11_feed_20 : decode cX11_feed 20 = .ok (.lreturn, 1) := by decide +kernel
theorem dX11_feed_21 : decode cX11_feed 21 = .ok (.aload_n 0, 1) := by decide +kernel
theorem dX11_feed_22 : decode cX11_feed 22 = .ok (.getfield 86, 3) := by decide +kernel
theorem dX11_feed_25 : decode cX11_feed 25 = .ok (.iload_n 3, 1) := by decide +kernel
theorem dX11_feed_26 : decode cX11_feed 26 = .ok (.iadd, 1) := by decide +kernel
theorem dX11_feed_27 : decode cX11_feed 27 = .ok (.sipush 400, 3) := by decide +kernel
theorem dX11_feed_30 : decode cX11_feed 30 = .ok (.if_icmp .le 7, 3) := by decide +kernel
theorem dX11_feed_33 : decode cX11_feed 33 = .ok (.ldc2_w 89, 3) := by decide +kernel
theorem dX11_feed_36 : decode cX11_feed 36 = .ok (.lreturn, 1) := by decide +kernel
theorem dX11_feed_37 : decode cX11_feed 37 = .ok (.iload_n 3, 1) := by decide +kernel
theorem dX11_feed_38 : decode cX11_feed 38 = .ok (.iconst 1, 1) := by decide +kernel
theorem dX11_feed_39 : decode cX11_feed 39 = .ok (.isub, 1) := by decide +kernel
theorem dX11_feed_40 : decode cX11_feed 40 = .ok (.istore 4, 2) := by decide +kernel
theorem dX11_feed_42 : decode cX11_feed 42 = .ok (.iload 4, 2) := by decide +kernel
theorem dX11_feed_44 : decode cX11_feed 44 = .ok (.ifCond .lt 40, 3) := by decide +kernel
theorem dX11_feed_47 : decode cX11_feed 47 = .ok (.aload_n 0, 1) := by decide +kernel
theorem dX11_feed_48 : decode cX11_feed 48 = .ok (.getfield 29, 3) := by decide +kernel
theorem dX11_feed_51 : decode cX11_feed 51 = .ok (.aload_n 0, 1) := by decide +kernel
theorem dX11_feed_52 : decode cX11_feed 52 = .ok (.getfield 86, 3) := by decide +kernel
theorem dX11_feed_55 : decode cX11_feed 55 = .ok (.lload_n 1, 1) := by decide +kernel
theorem dX11_feed_56 : decode cX11_feed 56 = .ok (.bipush 8, 2) := by decide +kernel
theorem dX11_feed_58 : decode cX11_feed 58 = .ok (.iload 4, 2) := by decide +kernel
theorem dX11_feed_60 : decode cX11_feed 60 = .ok (.imul, 1) := by decide +kernel
theorem dX11_feed_61 : decode cX11_feed 61 = .ok (.lshr, 1) := by decide +kernel
theorem dX11_feed_62 : decode cX11_feed 62 = .ok (.ldc2_w 91, 3) := by decide +kernel
theorem dX11_feed_65 : decode cX11_feed 65 = .ok (.land, 1) := by decide +kernel
theorem dX11_feed_66 : decode cX11_feed 66 = .ok (.l2i, 1) := by decide +kernel
theorem dX11_feed_67 : decode cX11_feed 67 = .ok (.iastore, 1) := by decide +kernel
theorem dX11_feed_68 : decode cX11_feed 68 = .ok (.aload_n 0, 1) := by decide +kernel
theorem dX11_feed_69 : decode cX11_feed 69 = .ok (.dup, 1) := by decide +kernel
theorem dX11_feed_70 : decode cX11_feed 70 = .ok (.getfield 86, 3) := by decide +kernel
theorem dX11_feed_73 : decode cX11_feed 73 = .ok (.iconst 1, 1) := by decide +kernel
theorem dX11_feed_74 : decode cX11_feed 74 = .ok (.iadd, 1) := by decide +kernel
theorem dX11_feed_75 : decode cX11_feed 75 = .ok (.putfield 86, 3) := by decide +kernel
theorem dX11_feed_78 : decode cX11_feed 78 = .ok (.iinc 4 (-1), 3) := by decide +kernel
theorem dX11_feed_81 : decode cX11_feed 81 = .ok (.goto (-39), 3) := by decide +kernel
theorem dX11_feed_84 : decode cX11_feed 84 = .ok (.aload_n 0, 1) := by decide +kernel
theorem dX11_feed_85 : decode cX11_feed 85 = .ok (.getfield 86, 3) := by decide +kernel
theorem dX11_feed_88 : decode cX11_feed 88 = .ok (.i2l, 1) := by decide +kernel
theorem dX11_feed_89 : decode cX11_feed 89 = .ok (.lreturn, 1) := by decide +kernel
theorem dX11_byteAt_0 : decode cX11_byteAt 0 = .ok (.iload_n 1, 1) := by decide +kernel
theorem dX11_byteAt_1 : decode cX11_byteAt 1 = .ok (.aload_n 0, 1) := by decide +kernel
theorem dX11_byteAt_2 : decode cX11_byteAt 2 = .ok (.getfield 93, 3) := by decide +kernel
theorem dX11_byteAt_5 : decode cX11_byteAt 5 = .ok (.if_icmp .ge 12, 3) := by decide +kernel
theorem dX11_byteAt_8 : decode cX11_byteAt 8 = .ok (.aload_n 0, 1) := by decide +kernel
theorem dX11_byteAt_9 : decode cX11_byteAt 9 = .ok (.getfield 29, 3) := by decide +kernel
theorem dX11_byteAt_12 : decode cX11_byteAt 12 = .ok (.iload_n 1, 1) := by decide +kernel
theorem dX11_byteAt_13 : decode cX11_byteAt 13 = .ok (.iaload, 1) := by decide +kernel
theorem dX11_byteAt_14 : decode cX11_byteAt 14 = .ok (.goto 5, 3) := by decide +kernel
theorem dX11_byteAt_17 : decode cX11_byteAt 17 = .ok (.ldc 96, 2) := by decide +kernel
theorem dX11_byteAt_19 : decode cX11_byteAt 19 = .ok (.ireturn, 1) := by decide +kernel
theorem dX11_isLetter_0 : decode cX11_isLetter 0 = .ok (.iload_n 0, 1) := by decide +kernel
theorem dX11_isLetter_1 : decode cX11_isLetter 1 = .ok (.bipush 97, 2) := by decide +kernel
theorem dX11_isLetter_3 : decode cX11_isLetter 3 = .ok (.if_icmp .lt 13, 3) := by decide +kernel
theorem dX11_isLetter_6 : decode cX11_isLetter 6 = .ok (.iload_n 0, 1) := by decide +kernel
theorem dX11_isLetter_7 : decode cX11_isLetter 7 = .ok (.bipush 122, 2) := by decide +kernel
theorem dX11_isLetter_9 : decode cX11_isLetter 9 = .ok (.if_icmp .gt 7, 3) := by decide +kernel
theorem dX11_isLetter_12 : decode cX11_isLetter 12 = .ok (.iconst 1, 1) := by decide +kernel
theorem dX11_isLetter_13 : decode cX11_isLetter 13 = .ok (.goto 4, 3) := by decide +kernel
theorem dX11_isLetter_16 : decode cX11_isLetter 16 = .ok (.iconst 0, 1) := by decide +kernel
theorem dX11_isLetter_17 : decode cX11_isLetter 17 = .ok (.ireturn, 1) := by decide +kernel
theorem dX11_isFigure_0 : decode cX11_isFigure 0 = .ok (.iload_n 0, 1) := by decide +kernel
