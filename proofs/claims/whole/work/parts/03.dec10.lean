theorem d_Mo_in_34 : decode c_Mo_in 34 = .ok (.invokevirtual 126, 3) := by decide +kernel
theorem d_Mo_in_37 : decode c_Mo_in 37 = .ok (.return_, 1) := by decide +kernel
theorem d_Mo_uniform_0 : decode c_Mo_uniform 0 = .ok (.aload_n 0, 1) := by decide +kernel
theorem d_Mo_uniform_1 : decode c_Mo_uniform 1 = .ok (.iload_n 1, 1) := by decide +kernel
theorem d_Mo_uniform_2 : decode c_Mo_uniform 2 = .ok (.ifCond .lt 9, 3) := by decide +kernel
theorem d_Mo_uniform_5 : decode c_Mo_uniform 5 = .ok (.iload_n 1, 1) := by decide +kernel
theorem d_Mo_uniform_6 : decode c_Mo_uniform 6 = .ok (.bipush 31, 2) := by decide +kernel
theorem d_Mo_uniform_8 : decode c_Mo_uniform 8 = .ok (.if_icmp .le 7, 3) := by decide +kernel
theorem d_Mo_uniform_11 : decode c_Mo_uniform 11 = .ok (.iconst 1, 1) := by decide +kernel
theorem d_Mo_uniform_12 : decode c_Mo_uniform 12 = .ok (.goto 4, 3) := by decide +kernel
theorem d_Mo_uniform_15 : decode c_Mo_uniform 15 = .ok (.iconst 0, 1) := by decide +kernel
theorem d_Mo_uniform_16 : decode c_Mo_uniform 16 = .ok (.invokevirtual 114, 3) := by decide +kernel
theorem d_Mo_uniform_19 : decode c_Mo_uniform 19 = .ok (.ifCond .ne 18, 3) := by decide +kernel
theorem d_Mo_uniform_22 : decode c_Mo_uniform 22 = .ok (.aload_n 0, 1) := by decide +kernel
theorem d_Mo_uniform_23 : decode c_Mo_uniform 23 = .ok (.aload_n 0, 1) := by decide +kernel
theorem d_Mo_uniform_24 : decode c_Mo_uniform 24 = .ok (.getfield 32, 3) := by decide +kernel
theorem d_Mo_uniform_27 : decode c_Mo_uniform 27 = .ok (.iload_n 1, 1) := by decide +kernel
theorem d_Mo_uniform_28 : decode c_Mo_uniform 28 = .ok (.iload_n 2, 1) := by decide +kernel
theorem d_Mo_uniform_29 : decode c_Mo_uniform 29 = .ok (.iload_n 3, 1) := by decide +kernel
theorem d_Mo_uniform_30 : decode c_Mo_uniform 30 = .ok (.iload 4, 2) := by decide +kernel
theorem d_Mo_uniform_32 : decode c_Mo_uniform 32 = .ok (.iload 5, 2) := by decide +kernel
theorem d_Mo_uniform_34 : decode c_Mo_uniform 34 = .ok (.invokevirtual 126, 3) := by decide +kernel
theorem d_Mo_uniform_37 : decode c_Mo_uniform 37 = .ok (.return_, 1) := by decide +kernel
theorem d_Mo_texture_0 : decode c_Mo_texture 0 = .ok (.aload_n 0, 1) := by decide +kernel
theorem d_Mo_texture_1 : decode c_Mo_texture 1 = .ok (.iload_n 1, 1) := by decide +kernel
theorem d_Mo_texture_2 : decode c_Mo_texture 2 = .ok (.ifCond .lt 8, 3) := by decide +kernel
theorem d_Mo_texture_5 : decode c_Mo_texture 5 = .ok (.iload_n 1, 1) := by decide +kernel
theorem d_Mo_texture_6 : decode c_Mo_texture 6 = .ok (.iconst 3, 1) := by decide +kernel
theorem d_Mo_texture_7 : decode c_Mo_texture 7 = .ok (.if_icmp .le 7, 3) := by decide +kernel
theorem d_Mo_texture_10 : decode c_Mo_texture 10 = .ok (.iconst 1, 1) := by decide +kernel
theorem d_Mo_texture_11 : decode c_Mo_texture 11 = .ok (.goto 4, 3) := by decide +kernel
theorem d_Mo_texture_14 : decode c_Mo_texture 14 = .ok (.iconst 0, 1) := by decide +kernel
theorem d_Mo_texture_15 : decode c_Mo_texture 15 = .ok (.invokevirtual 114, 3) := by decide +kernel
theorem d_Mo_texture_18 : decode c_Mo_texture 18 = .ok (.ifCond .ne 18, 3) := by decide +kernel
theorem d_Mo_texture_21 : decode c_Mo_texture 21 = .ok (.aload_n 0, 1) := by decide +kernel
theorem d_Mo_texture_22 : decode c_Mo_texture 22 = .ok (.aload_n 0, 1) := by decide +kernel
theorem d_Mo_texture_23 : decode c_Mo_texture 23 = .ok (.getfield 35, 3) := by decide +kernel
theorem d_Mo_texture_26 : decode c_Mo_texture 26 = .ok (.iload_n 1, 1) := by decide +kernel
theorem d_Mo_texture_27 : decode c_Mo_texture 27 = .ok (.iload_n 2, 1) := by decide +kernel
theorem d_Mo_texture_28 : decode c_Mo_texture 28 = .ok (.iload_n 3, 1) := by decide +kernel
theorem d_Mo_texture_29 : decode c_Mo_texture 29 = .ok (.iload 4, 2) := by decide +kernel
theorem d_Mo_texture_31 : decode c_Mo_texture 31 = .ok (.iload 5, 2) := by decide +kernel
theorem d_Mo_texture_33 : decode c_Mo_texture 33 = .ok (.invokevirtual 126, 3) := by decide +kernel
theorem d_Mo_texture_36 : decode c_Mo_texture 36 = .ok (.return_, 1) := by decide +kernel
theorem d_Mo_product_0 : decode c_Mo_product 0 = .ok (.iload_n 0, 1) := by decide +kernel
theorem d_Mo_product_1 : decode c_Mo_product 1 = .ok (.i2l, 1) := by decide +kernel
theorem d_Mo_product_2 : decode c_Mo_product 2 = .ok (.iload_n 1, 1) := by decide +kernel
theorem d_Mo_product_3 : decode c_Mo_product 3 = .ok (.i2l, 1) := by decide +kernel
theorem d_Mo_product_4 : decode c_Mo_product 4 = .ok (.lmul, 1) := by decide +kernel
theorem d_Mo_product_5 : decode c_Mo_product 5 = .ok (.bipush 16, 2) := by decide +kernel
theorem d_Mo_product_7 : decode c_Mo_product 7 = .ok (.lshr, 1) := by decide +kernel
theorem d_Mo_product_8 : decode c_Mo_product 8 = .ok (.l2i, 1) := by decide +kernel
theorem d_Mo_product_9 : decode c_Mo_product 9 = .ok (.ireturn, 1) := by decide +kernel
theorem d_Mo_oneBy_0 : decode c_Mo_oneBy 0 = .ok (.iload_n 0, 1) := by decide +kernel
theorem d_Mo_oneBy_1 : decode c_Mo_oneBy 1 = .ok (.ifCond .ne 6, 3) := by decide +kernel
theorem d_Mo_oneBy_4 : decode c_Mo_oneBy 4 = .ok (.ldc 130, 2) := by decide +kernel
theorem d_Mo_oneBy_6 : decode c_Mo_oneBy 6 = .ok (.ireturn, 1) := by decide +kernel
theorem d_Mo_oneBy_7 : decode c_Mo_oneBy 7 = .ok (.ldc2_w 131, 3) := by decide +kernel
theorem d_Mo_oneBy_10 : decode c_Mo_oneBy 10 = .ok (.iload_n 0, 1) := by decide +kernel
theorem d_Mo_oneBy_11 : decode c_Mo_oneBy 11 = .ok (.i2l, 1) := by decide +kernel
theorem d_Mo_oneBy_12 : decode c_Mo_oneBy 12 = .ok (.ldiv, 1) := by decide +kernel
theorem d_Mo_oneBy_13 : decode c_Mo_oneBy 13 = .ok (.lstore_n 1, 1) := by decide +kernel
theorem d_Mo_oneBy_14 : decode c_Mo_oneBy 14 = .ok (.ldc2_w 131, 3) := by decide +kernel
theorem d_Mo_oneBy_17 : decode c_Mo_oneBy 17 = .ok (.iload_n 0, 1) := by decide +kernel
theorem d_Mo_oneBy_18 : decode c_Mo_oneBy 18 = .ok (.i2l, 1) := by decide +kernel
theorem d_Mo_oneBy_19 : decode c_Mo_oneBy 19 = .ok (.lrem, 1) := by decide +kernel
theorem d_Mo_oneBy_20 : decode c_Mo_oneBy 20 = .ok (.lconst 0, 1) := by decide +kernel
theorem d_Mo_oneBy_21 : decode c_Mo_oneBy 21 = .ok (.lcmp, 1) := by decide +kernel
theorem d_Mo_oneBy_22 : decode c_Mo_oneBy 22 = .ok (.ifCond .eq 13, 3) := by decide +kernel
theorem d_Mo_oneBy_25 : decode c_Mo_oneBy 25 = .ok (.iload_n 0, 1) := by decide +kernel
theorem d_Mo_oneBy_26 : decode c_Mo_oneBy 26 = .ok (.ifCond .ge 9, 3) := by decide +kernel
theorem d_Mo_oneBy_29 : decode c_Mo_oneBy 29 = .ok (.lload_n 1, 1) := by decide +kernel
theorem d_Mo_oneBy_30 : decode c_Mo_oneBy 30 = .ok (.lconst 1, 1) := by decide +kernel
theorem d_Mo_oneBy_31 : decode c_Mo_oneBy 31 = .ok (.lsub, 1) := by decide +kernel
theorem d_Mo_oneBy_32 : decode c_Mo_oneBy 32 = .ok (.goto 4, 3) := by decide +kernel
theorem d_Mo_oneBy_35 : decode c_Mo_oneBy 35 = .ok (.lload_n 1, 1) := by decide +kernel
theorem d_Mo_oneBy_36 : decode c_Mo_oneBy 36 = .ok (.lstore_n 1, 1) := by decide +kernel
theorem d_Mo_oneBy_37 : decode c_Mo_oneBy 37 = .ok (.lload_n 1, 1) := by decide +kernel
theorem d_Mo_oneBy_38 : decode c_Mo_oneBy 38 = .ok (.ldc2_w 133, 3) := by decide +kernel
theorem d_Mo_oneBy_41 : decode c_Mo_oneBy 41 = .ok (.lcmp, 1) := by decide +kernel
theorem d_Mo_oneBy_42 : decode c_Mo_oneBy 42 = .ok (.ifCond .le 8, 3) := by decide +kernel
theorem d_Mo_oneBy_45 : decode c_Mo_oneBy 45 = .ok (.ldc 130, 2) := by decide +kernel
theorem d_Mo_oneBy_47 : decode c_Mo_oneBy 47 = .ok (.goto 18, 3) := by decide +kernel
theorem d_Mo_oneBy_50 : decode c_Mo_oneBy 50 = .ok (.lload_n 1, 1) := by decide +kernel
theorem d_Mo_oneBy_51 : decode c_Mo_oneBy 51 = .ok (.ldc2_w 135, 3) := by decide +kernel
theorem d_Mo_oneBy_54 : decode c_Mo_oneBy 54 = .ok (.lcmp, 1) := by decide +kernel
theorem d_Mo_oneBy_55 : decode c_Mo_oneBy 55 = .ok (.ifCond .ge 8, 3) := by decide +kernel
theorem d_Mo_oneBy_58 : decode c_Mo_oneBy 58 = .ok (.ldc 137, 2) := by decide +kernel
theorem d_Mo_oneBy_60 : decode c_Mo_oneBy 60 = .ok (.goto 5, 3) := by decide +kernel
theorem d_Mo_oneBy_63 : decode c_Mo_oneBy 63 = .ok (.lload_n 1, 1) := by decide +kernel
theorem d_Mo_oneBy_64 : decode c_Mo_oneBy 64 = .ok (.l2i, 1) := by decide +kernel
theorem d_Mo_oneBy_65 : decode c_Mo_oneBy 65 = .ok (.ireturn, 1) := by decide +kernel
theorem d_Mo_greatest_0 : decode c_Mo_greatest 0 = .ok (.lconst 0, 1) := by decide +kernel
theorem d_Mo_greatest_1 : decode c_Mo_greatest 1 = .ok (.lstore_n 2, 1) := by decide +kernel
theorem d_Mo_greatest_2 : decode c_Mo_greatest 2 = .ok (.ldc2_w 138, 3) := by decide +kernel
theorem d_Mo_greatest_5 : decode c_Mo_greatest 5 = .ok (.lstore 4, 2) := by decide +kernel
theorem d_Mo_greatest_7 : decode c_Mo_greatest 7 = .ok (.lload 4, 2) := by decide +kernel
theorem d_Mo_greatest_9 : decode c_Mo_greatest 9 = .ok (.lconst 0, 1) := by decide +kernel
theorem d_Mo_greatest_10 : decode c_Mo_greatest 10 = .ok (.lcmp, 1) := by decide +kernel
theorem d_Mo_greatest_11 : decode c_Mo_greatest 11 = .ok (.ifCond .le 35, 3) := by decide +kernel
theorem d_Mo_greatest_14 : decode c_Mo_greatest 14 = .ok (.lload_n 2, 1) := by decide +kernel
theorem d_Mo_greatest_15 : decode c_Mo_greatest 15 = .ok (.lload 4, 2) := by decide +kernel
theorem d_Mo_greatest_17 : decode c_Mo_greatest 17 = .ok (.ladd, 1) := by decide +kernel
theorem d_Mo_greatest_18 : decode c_Mo_greatest 18 = .ok (.lload_n 2, 1) := by decide +kernel
theorem d_Mo_greatest_19 : decode c_Mo_greatest 19 = .ok (.lload 4, 2) := by decide +kernel
theorem d_Mo_greatest_21 : decode c_Mo_greatest 21 = .ok (.ladd, 1) := by decide +kernel
theorem d_Mo_greatest_22 : decode c_Mo_greatest 22 = .ok (.lmul, 1) := by decide +kernel
theorem d_Mo_greatest_23 : decode c_Mo_greatest 23 = .ok (.lload_n 0, 1) := by decide +kernel
theorem d_Mo_greatest_24 : decode c_Mo_greatest 24 = .ok (.lcmp, 1) := by decide +kernel
theorem d_Mo_greatest_25 : decode c_Mo_greatest 25 = .ok (.ifCond .gt 10, 3) := by decide +kernel
theorem d_Mo_greatest_28 : decode c_Mo_greatest 28 = .ok (.lload_n 2, 1) := by decide +kernel
theorem d_Mo_greatest_29 : decode c_Mo_greatest 29 = .ok (.lload 4, 2) := by decide +kernel
theorem d_Mo_greatest_31 : decode c_Mo_greatest 31 = .ok (.ladd, 1) := by decide +kernel
theorem d_Mo_greatest_32 : decode c_Mo_greatest 32 = .ok (.goto 4, 3) := by decide +kernel
theorem d_Mo_greatest_35 : decode c_Mo_greatest 35 = .ok (.lload_n 2, 1) := by decide +kernel
theorem d_Mo_greatest_36 : decode c_Mo_greatest 36 = .ok (.lstore_n 2, 1) := by decide +kernel
theorem d_Mo_greatest_37 : decode c_Mo_greatest 37 = .ok (.lload 4, 2) := by decide +kernel
theorem d_Mo_greatest_39 : decode c_Mo_greatest 39 = .ok (.iconst 1, 1) := by decide +kernel
theorem d_Mo_greatest_40 : decode c_Mo_greatest 40 = .ok (.lshr, 1) := by decide +kernel
theorem d_Mo_greatest_41 : decode c_Mo_greatest 41 = .ok (.lstore 4, 2) := by decide +kernel
theorem d_Mo_greatest_43 : decode c_Mo_greatest 43 = .ok (.goto (-36), 3) := by decide +kernel
theorem d_Mo_greatest_46 : decode c_Mo_greatest 46 = .ok (.lload_n 2, 1) := by decide +kernel
theorem d_Mo_greatest_47 : decode c_Mo_greatest 47 = .ok (.l2i, 1) := by decide +kernel
theorem d_Mo_greatest_48 : decode c_Mo_greatest 48 = .ok (.ireturn, 1) := by decide +kernel
theorem d_Mo_take_0 : decode c_Mo_take 0 = .ok (.iload_n 1, 1) := by decide +kernel
theorem d_Mo_take_1 : decode c_Mo_take 1 = .ok (.iconst 2, 1) := by decide +kernel
theorem d_Mo_take_2 : decode c_Mo_take 2 = .ok (.ishr, 1) := by decide +kernel
theorem d_Mo_take_3 : decode c_Mo_take 3 = .ok (.bipush 31, 2) := by decide +kernel
theorem d_Mo_take_5 : decode c_Mo_take 5 = .ok (.iand, 1) := by decide +kernel
theorem d_Mo_take_6 : decode c_Mo_take 6 = .ok (.istore_n 3, 1) := by decide +kernel
theorem d_Mo_take_7 : decode c_Mo_take 7 = .ok (.iconst 0, 1) := by decide +kernel
theorem d_Mo_take_8 : decode c_Mo_take 8 = .ok (.istore 4, 2) := by decide +kernel
theorem d_Mo_take_10 : decode c_Mo_take 10 = .ok (.iload 4, 2) := by decide +kernel
theorem d_Mo_take_12 : decode c_Mo_take 12 = .ok (.iconst 4, 1) := by decide +kernel
theorem d_Mo_take_13 : decode c_Mo_take 13 = .ok (.if_icmp .ge 123, 3) := by decide +kernel
theorem d_Mo_take_16 : decode c_Mo_take 16 = .ok (.iconst 4, 1) := by decide +kernel
theorem d_Mo_take_17 : decode c_Mo_take 17 = .ok (.iload_n 3, 1) := by decide +kernel
theorem d_Mo_take_18 : decode c_Mo_take 18 = .ok (.imul, 1) := by decide +kernel
theorem d_Mo_take_19 : decode c_Mo_take 19 = .ok (.iload_n 1, 1) := by decide +kernel
theorem d_Mo_take_20 : decode c_Mo_take 20 = .ok (.bipush 7, 2) := by decide +kernel
theorem d_Mo_take_22 : decode c_Mo_take 22 = .ok (.iconst 2, 1) := by decide +kernel
theorem d_Mo_take_23 : decode c_Mo_take 23 = .ok (.iload 4, 2) := by decide +kernel
theorem d_Mo_take_25 : decode c_Mo_take 25 = .ok (.imul, 1) := by decide +kernel
theorem d_Mo_take_26 : decode c_Mo_take 26 = .ok (.iadd, 1) := by decide +kernel
theorem d_Mo_take_27 : decode c_Mo_take 27 = .ok (.ishr, 1) := by decide +kernel
theorem d_Mo_take_28 : decode c_Mo_take 28 = .ok (.iconst 3, 1) := by decide +kernel
theorem d_Mo_take_29 : decode c_Mo_take 29 = .ok (.iand, 1) := by decide +kernel
theorem d_Mo_take_30 : decode c_Mo_take 30 = .ok (.iadd, 1) := by decide +kernel
theorem d_Mo_take_31 : decode c_Mo_take 31 = .ok (.istore 5, 2) := by decide +kernel
theorem d_Mo_take_33 : decode c_Mo_take 33 = .ok (.iconst 0, 1) := by decide +kernel
theorem d_Mo_take_34 : decode c_Mo_take 34 = .ok (.istore 6, 2) := by decide +kernel
theorem d_Mo_take_36 : decode c_Mo_take 36 = .ok (.iload_n 1, 1) := by decide +kernel
theorem d_Mo_take_37 : decode c_Mo_take 37 = .ok (.iconst 3, 1) := by decide +kernel
theorem d_Mo_take_38 : decode c_Mo_take 38 = .ok (.iand, 1) := by decide +kernel
theorem d_Mo_take_39 : decode c_Mo_take 39 = .ok (.tableswitch 61 0 2 #[25, 37, 49], 25) := by decide +kernel
theorem d_Mo_take_64 : decode c_Mo_take 64 = .ok (.aload_n 0, 1) := by decide +kernel
theorem d_Mo_take_65 : decode c_Mo_take 65 = .ok (.getfield 23, 3) := by decide +kernel
theorem d_Mo_take_68 : decode c_Mo_take 68 = .ok (.iload 5, 2) := by decide +kernel
theorem d_Mo_take_70 : decode c_Mo_take 70 = .ok (.iaload, 1) := by decide +kernel
theorem d_Mo_take_71 : decode c_Mo_take 71 = .ok (.istore 6, 2) := by decide +kernel
theorem d_Mo_take_73 : decode c_Mo_take 73 = .ok (.goto 27, 3) := by decide +kernel
theorem d_Mo_take_76 : decode c_Mo_take 76 = .ok (.aload_n 0, 1) := by decide +kernel
theorem d_Mo_take_77 : decode c_Mo_take 77 = .ok (.getfield 26, 3) := by decide +kernel
theorem d_Mo_take_80 : decode c_Mo_take 80 = .ok (.iload 5, 2) := by decide +kernel
theorem d_Mo_take_82 : decode c_Mo_take 82 = .ok (.iaload, 1) := by decide +kernel
theorem d_Mo_take_83 : decode c_Mo_take 83 = .ok (.istore 6, 2) := by decide +kernel
theorem d_Mo_take_85 : decode c_Mo_take 85 = .ok (.goto 15, 3) := by decide +kernel
theorem d_Mo_take_88 : decode c_Mo_take 88 = .ok (.aload_n 0, 1) := by decide +kernel
theorem d_Mo_take_89 : decode c_Mo_take 89 = .ok (.getfield 32, 3) := by decide +kernel
theorem d_Mo_take_92 : decode c_Mo_take 92 = .ok (.iload 5, 2) := by decide +kernel
theorem d_Mo_take_94 : decode c_Mo_take 94 = .ok (.iaload, 1) := by decide +kernel
theorem d_Mo_take_95 : decode c_Mo_take 95 = .ok (.istore 6, 2) := by decide +kernel
theorem d_Mo_take_97 : decode c_Mo_take 97 = .ok (.goto 3, 3) := by decide +kernel
theorem d_Mo_take_100 : decode c_Mo_take 100 = .ok (.aload_n 0, 1) := by decide +kernel
theorem d_Mo_take_101 : decode c_Mo_take 101 = .ok (.getfield 38, 3) := by decide +kernel
theorem d_Mo_take_104 : decode c_Mo_take 104 = .ok (.iconst 4, 1) := by decide +kernel
theorem d_Mo_take_105 : decode c_Mo_take 105 = .ok (.iload_n 2, 1) := by decide +kernel
theorem d_Mo_take_106 : decode c_Mo_take 106 = .ok (.imul, 1) := by decide +kernel
theorem d_Mo_take_107 : decode c_Mo_take 107 = .ok (.iload 4, 2) := by decide +kernel
theorem d_Mo_take_109 : decode c_Mo_take 109 = .ok (.iadd, 1) := by decide +kernel
theorem d_Mo_take_110 : decode c_Mo_take 110 = .ok (.iload_n 1, 1) := by decide +kernel
theorem d_Mo_take_111 : decode c_Mo_take 111 = .ok (.bipush 15, 2) := by decide +kernel
theorem d_Mo_take_113 : decode c_Mo_take 113 = .ok (.ishr, 1) := by decide +kernel
theorem d_Mo_take_114 : decode c_Mo_take 114 = .ok (.iconst 1, 1) := by decide +kernel
theorem d_Mo_take_115 : decode c_Mo_take 115 = .ok (.iand, 1) := by decide +kernel
theorem d_Mo_take_116 : decode c_Mo_take 116 = .ok (.iconst 1, 1) := by decide +kernel
theorem d_Mo_take_117 : decode c_Mo_take 117 = .ok (.if_icmp .ne 10, 3) := by decide +kernel
theorem d_Mo_take_120 : decode c_Mo_take 120 = .ok (.iconst 0, 1) := by decide +kernel
theorem d_Mo_take_121 : decode c_Mo_take 121 = .ok (.iload 6, 2) := by decide +kernel
theorem d_Mo_take_123 : decode c_Mo_take 123 = .ok (.isub, 1) := by decide +kernel
theorem d_Mo_take_124 : decode c_Mo_take 124 = .ok (.goto 5, 3) := by decide +kernel
theorem d_Mo_take_127 : decode c_Mo_take 127 = .ok (.iload 6, 2) := by decide +kernel
theorem d_Mo_take_129 : decode c_Mo_take 129 = .ok (.iastore, 1) := by decide +kernel
theorem d_Mo_take_130 : decode c_Mo_take 130 = .ok (.iinc 4 1, 3) := by decide +kernel
theorem d_Mo_take_133 : decode c_Mo_take 133 = .ok (.goto (-123), 3) := by decide +kernel
theorem d_Mo_take_136 : decode c_Mo_take 136 = .ok (.return_, 1) := by decide +kernel
theorem d_Mo_word_0 : decode c_Mo_word 0 = .ok (.iload_n 1, 1) := by decide +kernel
theorem d_Mo_word_1 : decode c_Mo_word 1 = .ok (.ifCond .lt 19, 3) := by decide +kernel
theorem d_Mo_word_4 : decode c_Mo_word 4 = .ok (.iload_n 1, 1) := by decide +kernel
theorem d_Mo_word_5 : decode c_Mo_word 5 = .ok (.sipush 1024, 3) := by decide +kernel
theorem d_Mo_word_8 : decode c_Mo_word 8 = .ok (.if_icmp .ge 12, 3) := by decide +kernel
theorem d_Mo_word_11 : decode c_Mo_word 11 = .ok (.aload_n 0, 1) := by decide +kernel
theorem d_Mo_word_12 : decode c_Mo_word 12 = .ok (.getfield 7, 3) := by decide +kernel
theorem d_Mo_word_15 : decode c_Mo_word 15 = .ok (.iload_n 1, 1) := by decide +kernel
theorem d_Mo_word_16 : decode c_Mo_word 16 = .ok (.iaload, 1) := by decide +kernel
theorem d_Mo_word_17 : decode c_Mo_word 17 = .ok (.goto 4, 3) := by decide +kernel
theorem d_Mo_word_20 : decode c_Mo_word 20 = .ok (.iconst 0, 1) := by decide +kernel
theorem d_Mo_word_21 : decode c_Mo_word 21 = .ok (.ireturn, 1) := by decide +kernel
theorem d_Mo_more_0 : decode c_Mo_more 0 = .ok (.aload_n 0, 1) := by decide +kernel
theorem d_Mo_more_1 : decode c_Mo_more 1 = .ok (.getfield 38, 3) := by decide +kernel
theorem d_Mo_more_4 : decode c_Mo_more 4 = .ok (.iload_n 2, 1) := by decide +kernel
theorem d_Mo_more_5 : decode c_Mo_more 5 = .ok (.iaload, 1) := by decide +kernel
theorem d_Mo_more_6 : decode c_Mo_more 6 = .ok (.istore_n 3, 1) := by decide +kernel
theorem d_Mo_more_7 : decode c_Mo_more 7 = .ok (.aload_n 0, 1) := by decide +kernel
theorem d_Mo_more_8 : decode c_Mo_more 8 = .ok (.getfield 38, 3) := by decide +kernel
theorem d_Mo_more_11 : decode c_Mo_more 11 = .ok (.iconst 4, 1) := by decide +kernel
theorem d_Mo_more_12 : decode c_Mo_more 12 = .ok (.iload_n 2, 1) := by decide +kernel
theorem d_Mo_more_13 : decode c_Mo_more 13 = .ok (.iadd, 1) := by decide +kernel
theorem d_Mo_more_14 : decode c_Mo_more 14 = .ok (.iaload, 1) := by decide +kernel
theorem d_Mo_more_15 : decode c_Mo_more 15 = .ok (.istore 4, 2) := by decide +kernel
theorem d_Mo_more_17 : decode c_Mo_more 17 = .ok (.aload_n 0, 1) := by decide +kernel
theorem d_Mo_more_18 : decode c_Mo_more 18 = .ok (.getfield 38, 3) := by decide +kernel
theorem d_Mo_more_21 : decode c_Mo_more 21 = .ok (.iconst 0, 1) := by decide +kernel
theorem d_Mo_more_22 : decode c_Mo_more 22 = .ok (.iaload, 1) := by decide +kernel
theorem d_Mo_more_23 : decode c_Mo_more 23 = .ok (.bipush 16, 2) := by decide +kernel
theorem d_Mo_more_25 : decode c_Mo_more 25 = .ok (.ishr, 1) := by decide +kernel
theorem d_Mo_more_26 : decode c_Mo_more 26 = .ok (.istore 5, 2) := by decide +kernel
theorem d_Mo_more_28 : decode c_Mo_more 28 = .ok (.iload_n 1, 1) := by decide +kernel
theorem d_Mo_more_29 : decode c_Mo_more 29 = .ok (.tableswitch 244 22 40 #[91, 154, 159, 164, 169, 173, 181, 189, 197, 225, 244, 244, 244, 244, 244, 244, 244, 234, 239], 91) := by decide +kernel
theorem d_Mo_more_120 : decode c_Mo_more 120 = .ok (.iload_n 2, 1) := by decide +kernel
theorem d_Mo_more_121 : decode c_Mo_more 121 = .ok (.iconst 1, 1) := by decide +kernel
theorem d_Mo_more_122 : decode c_Mo_more 122 = .ok (.iadd, 1) := by decide +kernel
theorem d_Mo_more_123 : decode c_Mo_more 123 = .ok (.iconst 3, 1) := by decide +kernel
theorem d_Mo_more_124 : decode c_Mo_more 124 = .ok (.irem, 1) := by decide +kernel
theorem d_Mo_more_125 : decode c_Mo_more 125 = .ok (.istore 6, 2) := by decide +kernel
theorem d_Mo_more_127 : decode c_Mo_more 127 = .ok (.iload_n 2, 1) := by decide +kernel
theorem d_Mo_more_128 : decode c_Mo_more 128 = .ok (.iconst 2, 1) := by decide +kernel
theorem d_Mo_more_129 : decode c_Mo_more 129 = .ok (.iadd, 1) := by decide +kernel
theorem d_Mo_more_130 : decode c_Mo_more 130 = .ok (.iconst 3, 1) := by decide +kernel
theorem d_Mo_more_131 : decode c_Mo_more 131 = .ok (.irem, 1) := by decide +kernel
theorem d_Mo_more_132 : decode c_Mo_more 132 = .ok (.istore 7, 2) := by decide +kernel
theorem d_Mo_more_134 : decode c_Mo_more 134 = .ok (.iload_n 2, 1) := by decide +kernel
theorem d_Mo_more_135 : decode c_Mo_more 135 = .ok (.iconst 3, 1) := by decide +kernel
theorem d_Mo_more_136 : decode c_Mo_more 136 = .ok (.if_icmp .ne 7, 3) := by decide +kernel
theorem d_Mo_more_139 : decode c_Mo_more 139 = .ok (.iconst 0, 1) := by decide +kernel
theorem d_Mo_more_140 : decode c_Mo_more 140 = .ok (.goto 42, 3) := by decide +kernel
theorem d_Mo_more_143 : decode c_Mo_more 143 = .ok (.aload_n 0, 1) := by decide +kernel
theorem d_Mo_more_144 : decode c_Mo_more 144 = .ok (.getfield 38, 3) := by decide +kernel
theorem d_Mo_more_147 : decode c_Mo_more 147 = .ok (.iload 6, 2) := by decide +kernel
theorem d_Mo_more_149 : decode c_Mo_more 149 = .ok (.iaload, 1) := by decide +kernel
