theorem d_Fi_product_0 : decode c_Fi_product 0 = .ok (.iload_n 0, 1) := by decide +kernel
theorem d_Fi_product_1 : decode c_Fi_product 1 = .ok (.i2l, 1) := by decide +kernel
theorem d_Fi_product_2 : decode c_Fi_product 2 = .ok (.iload_n 1, 1) := by decide +kernel
theorem d_Fi_product_3 : decode c_Fi_product 3 = .ok (.i2l, 1) := by decide +kernel
theorem d_Fi_product_4 : decode c_Fi_product 4 = .ok (.lmul, 1) := by decide +kernel
theorem d_Fi_product_5 : decode c_Fi_product 5 = .ok (.bipush 16, 2) := by decide +kernel
theorem d_Fi_product_7 : decode c_Fi_product 7 = .ok (.lshr, 1) := by decide +kernel
theorem d_Fi_product_8 : decode c_Fi_product 8 = .ok (.l2i, 1) := by decide +kernel
theorem d_Fi_product_9 : decode c_Fi_product 9 = .ok (.ireturn, 1) := by decide +kernel
theorem d_Ma_floorDiv_0 : decode c_Ma_floorDiv 0 = .ok (.lload_n 0, 1) := by decide +kernel
theorem d_Ma_floorDiv_1 : decode c_Ma_floorDiv 1 = .ok (.lload_n 2, 1) := by decide +kernel
theorem d_Ma_floorDiv_2 : decode c_Ma_floorDiv 2 = .ok (.ldiv, 1) := by decide +kernel
theorem d_Ma_floorDiv_3 : decode c_Ma_floorDiv 3 = .ok (.lstore 4, 2) := by decide +kernel
theorem d_Ma_floorDiv_5 : decode c_Ma_floorDiv 5 = .ok (.lload_n 0, 1) := by decide +kernel
theorem d_Ma_floorDiv_6 : decode c_Ma_floorDiv 6 = .ok (.lload_n 2, 1) := by decide +kernel
theorem d_Ma_floorDiv_7 : decode c_Ma_floorDiv 7 = .ok (.lxor, 1) := by decide +kernel
theorem d_Ma_floorDiv_8 : decode c_Ma_floorDiv 8 = .ok (.lconst 0, 1) := by decide +kernel
theorem d_Ma_floorDiv_9 : decode c_Ma_floorDiv 9 = .ok (.lcmp, 1) := by decide +kernel
theorem d_Ma_floorDiv_10 : decode c_Ma_floorDiv 10 = .ok (.ifCond .ge 17, 3) := by decide +kernel
theorem d_Ma_floorDiv_13 : decode c_Ma_floorDiv 13 = .ok (.lload 4, 2) := by decide +kernel
theorem d_Ma_floorDiv_15 : decode c_Ma_floorDiv 15 = .ok (.lload_n 2, 1) := by decide +kernel
theorem d_Ma_floorDiv_16 : decode c_Ma_floorDiv 16 = .ok (.lmul, 1) := by decide +kernel
theorem d_Ma_floorDiv_17 : decode c_Ma_floorDiv 17 = .ok (.lload_n 0, 1) := by decide +kernel
theorem d_Ma_floorDiv_18 : decode c_Ma_floorDiv 18 = .ok (.lcmp, 1) := by decide +kernel
theorem d_Ma_floorDiv_19 : decode c_Ma_floorDiv 19 = .ok (.ifCond .eq 8, 3) := by decide +kernel
theorem d_Ma_floorDiv_22 : decode c_Ma_floorDiv 22 = .ok (.lload 4, 2) := by decide +kernel
theorem d_Ma_floorDiv_24 : decode c_Ma_floorDiv 24 = .ok (.lconst 1, 1) := by decide +kernel
theorem d_Ma_floorDiv_25 : decode c_Ma_floorDiv 25 = .ok (.lsub, 1) := by decide +kernel
theorem d_Ma_floorDiv_26 : decode c_Ma_floorDiv 26 = .ok (.lreturn, 1) := by decide +kernel
theorem d_Ma_floorDiv_27 : decode c_Ma_floorDiv 27 = .ok (.lload 4, 2) := by decide +kernel
theorem d_Ma_floorDiv_29 : decode c_Ma_floorDiv 29 = .ok (.lreturn, 1) := by decide +kernel
theorem d_Ma_min_JJJ_0 : decode c_Ma_min_JJJ 0 = .ok (.lload_n 0, 1) := by decide +kernel
theorem d_Ma_min_JJJ_1 : decode c_Ma_min_JJJ 1 = .ok (.lload_n 2, 1) := by decide +kernel
theorem d_Ma_min_JJJ_2 : decode c_Ma_min_JJJ 2 = .ok (.lcmp, 1) := by decide +kernel
theorem d_Ma_min_JJJ_3 : decode c_Ma_min_JJJ 3 = .ok (.ifCond .gt 7, 3) := by decide +kernel
theorem d_Ma_min_JJJ_6 : decode c_Ma_min_JJJ 6 = .ok (.lload_n 0, 1) := by decide +kernel
theorem d_Ma_min_JJJ_7 : decode c_Ma_min_JJJ 7 = .ok (.goto 4, 3) := by decide +kernel
theorem d_Ma_min_JJJ_10 : decode c_Ma_min_JJJ 10 = .ok (.lload_n 2, 1) := by decide +kernel
theorem d_Ma_min_JJJ_11 : decode c_Ma_min_JJJ 11 = .ok (.lreturn, 1) := by decide +kernel
theorem d_Ma_max_JJJ_0 : decode c_Ma_max_JJJ 0 = .ok (.lload_n 0, 1) := by decide +kernel
theorem d_Ma_max_JJJ_1 : decode c_Ma_max_JJJ 1 = .ok (.lload_n 2, 1) := by decide +kernel
theorem d_Ma_max_JJJ_2 : decode c_Ma_max_JJJ 2 = .ok (.lcmp, 1) := by decide +kernel
theorem d_Ma_max_JJJ_3 : decode c_Ma_max_JJJ 3 = .ok (.ifCond .lt 7, 3) := by decide +kernel
theorem d_Ma_max_JJJ_6 : decode c_Ma_max_JJJ 6 = .ok (.lload_n 0, 1) := by decide +kernel
theorem d_Ma_max_JJJ_7 : decode c_Ma_max_JJJ 7 = .ok (.goto 4, 3) := by decide +kernel
theorem d_Ma_max_JJJ_10 : decode c_Ma_max_JJJ 10 = .ok (.lload_n 2, 1) := by decide +kernel
theorem d_Ma_max_JJJ_11 : decode c_Ma_max_JJJ 11 = .ok (.lreturn, 1) := by decide +kernel
theorem d_Fi_reciprocal_0 : decode c_Fi_reciprocal 0 = .ok (.iload_n 0, 1) := by decide +kernel
theorem d_Fi_reciprocal_1 : decode c_Fi_reciprocal 1 = .ok (.ifCond .ne 6, 3) := by decide +kernel
theorem d_Fi_reciprocal_4 : decode c_Fi_reciprocal 4 = .ok (.ldc 9, 2) := by decide +kernel
theorem d_Fi_reciprocal_6 : decode c_Fi_reciprocal 6 = .ok (.ireturn, 1) := by decide +kernel
theorem d_Fi_reciprocal_7 : decode c_Fi_reciprocal 7 = .ok (.ldc2_w 10, 3) := by decide +kernel
theorem d_Fi_reciprocal_10 : decode c_Fi_reciprocal 10 = .ok (.iload_n 0, 1) := by decide +kernel
theorem d_Fi_reciprocal_11 : decode c_Fi_reciprocal 11 = .ok (.i2l, 1) := by decide +kernel
theorem d_Fi_reciprocal_12 : decode c_Fi_reciprocal 12 = .ok (.invokestatic 12, 3) := by decide +kernel
theorem d_Fi_reciprocal_15 : decode c_Fi_reciprocal 15 = .ok (.lstore_n 1, 1) := by decide +kernel
theorem d_Fi_reciprocal_16 : decode c_Fi_reciprocal 16 = .ok (.ldc2_w 18, 3) := by decide +kernel
theorem d_Fi_reciprocal_19 : decode c_Fi_reciprocal 19 = .ok (.ldc2_w 20, 3) := by decide +kernel
theorem d_Fi_reciprocal_22 : decode c_Fi_reciprocal 22 = .ok (.lload_n 1, 1) := by decide +kernel
theorem d_Fi_reciprocal_23 : decode c_Fi_reciprocal 23 = .ok (.invokestatic 22, 3) := by decide +kernel
theorem d_Fi_reciprocal_26 : decode c_Fi_reciprocal 26 = .ok (.invokestatic 25, 3) := by decide +kernel
theorem d_Fi_reciprocal_29 : decode c_Fi_reciprocal 29 = .ok (.l2i, 1) := by decide +kernel
theorem d_Fi_reciprocal_30 : decode c_Fi_reciprocal 30 = .ok (.ireturn, 1) := by decide +kernel
theorem d_Fi_root_0 : decode c_Fi_root 0 = .ok (.lconst 0, 1) := by decide +kernel
theorem d_Fi_root_1 : decode c_Fi_root 1 = .ok (.lstore_n 2, 1) := by decide +kernel
theorem d_Fi_root_2 : decode c_Fi_root 2 = .ok (.ldc2_w 36, 3) := by decide +kernel
theorem d_Fi_root_5 : decode c_Fi_root 5 = .ok (.lstore 4, 2) := by decide +kernel
theorem d_Fi_root_7 : decode c_Fi_root 7 = .ok (.lload 4, 2) := by decide +kernel
theorem d_Fi_root_9 : decode c_Fi_root 9 = .ok (.lconst 0, 1) := by decide +kernel
theorem d_Fi_root_10 : decode c_Fi_root 10 = .ok (.lcmp, 1) := by decide +kernel
theorem d_Fi_root_11 : decode c_Fi_root 11 = .ok (.ifCond .le 31, 3) := by decide +kernel
theorem d_Fi_root_14 : decode c_Fi_root 14 = .ok (.lload_n 2, 1) := by decide +kernel
theorem d_Fi_root_15 : decode c_Fi_root 15 = .ok (.lload 4, 2) := by decide +kernel
theorem d_Fi_root_17 : decode c_Fi_root 17 = .ok (.ladd, 1) := by decide +kernel
theorem d_Fi_root_18 : decode c_Fi_root 18 = .ok (.lstore 6, 2) := by decide +kernel
theorem d_Fi_root_20 : decode c_Fi_root 20 = .ok (.lload 6, 2) := by decide +kernel
theorem d_Fi_root_22 : decode c_Fi_root 22 = .ok (.lload 6, 2) := by decide +kernel
theorem d_Fi_root_24 : decode c_Fi_root 24 = .ok (.lmul, 1) := by decide +kernel
theorem d_Fi_root_25 : decode c_Fi_root 25 = .ok (.lload_n 0, 1) := by decide +kernel
theorem d_Fi_root_26 : decode c_Fi_root 26 = .ok (.lcmp, 1) := by decide +kernel
theorem d_Fi_root_27 : decode c_Fi_root 27 = .ok (.ifCond .gt 6, 3) := by decide +kernel
theorem d_Fi_root_30 : decode c_Fi_root 30 = .ok (.lload 6, 2) := by decide +kernel
theorem d_Fi_root_32 : decode c_Fi_root 32 = .ok (.lstore_n 2, 1) := by decide +kernel
theorem d_Fi_root_33 : decode c_Fi_root 33 = .ok (.lload 4, 2) := by decide +kernel
theorem d_Fi_root_35 : decode c_Fi_root 35 = .ok (.iconst 1, 1) := by decide +kernel
theorem d_Fi_root_36 : decode c_Fi_root 36 = .ok (.lshr, 1) := by decide +kernel
theorem d_Fi_root_37 : decode c_Fi_root 37 = .ok (.lstore 4, 2) := by decide +kernel
theorem d_Fi_root_39 : decode c_Fi_root 39 = .ok (.goto (-32), 3) := by decide +kernel
theorem d_Fi_root_42 : decode c_Fi_root 42 = .ok (.lload_n 2, 1) := by decide +kernel
theorem d_Fi_root_43 : decode c_Fi_root 43 = .ok (.l2i, 1) := by decide +kernel
theorem d_Fi_root_44 : decode c_Fi_root 44 = .ok (.ireturn, 1) := by decide +kernel
theorem d_Fi_rootOfReciprocal_0 : decode c_Fi_rootOfReciprocal 0 = .ok (.iload_n 0, 1) := by decide +kernel
theorem d_Fi_rootOfReciprocal_1 : decode c_Fi_rootOfReciprocal 1 = .ok (.ifCond .le 15, 3) := by decide +kernel
theorem d_Fi_rootOfReciprocal_4 : decode c_Fi_rootOfReciprocal 4 = .ok (.ldc2_w 28, 3) := by decide +kernel
theorem d_Fi_rootOfReciprocal_7 : decode c_Fi_rootOfReciprocal 7 = .ok (.iload_n 0, 1) := by decide +kernel
theorem d_Fi_rootOfReciprocal_8 : decode c_Fi_rootOfReciprocal 8 = .ok (.i2l, 1) := by decide +kernel
theorem d_Fi_rootOfReciprocal_9 : decode c_Fi_rootOfReciprocal 9 = .ok (.ldiv, 1) := by decide +kernel
theorem d_Fi_rootOfReciprocal_10 : decode c_Fi_rootOfReciprocal 10 = .ok (.invokestatic 30, 3) := by decide +kernel
theorem d_Fi_rootOfReciprocal_13 : decode c_Fi_rootOfReciprocal 13 = .ok (.goto 5, 3) := by decide +kernel
theorem d_Fi_rootOfReciprocal_16 : decode c_Fi_rootOfReciprocal 16 = .ok (.ldc 9, 2) := by decide +kernel
theorem d_Fi_rootOfReciprocal_18 : decode c_Fi_rootOfReciprocal 18 = .ok (.ireturn, 1) := by decide +kernel
theorem d_Fi_rootOf_0 : decode c_Fi_rootOf 0 = .ok (.iload_n 0, 1) := by decide +kernel
theorem d_Fi_rootOf_1 : decode c_Fi_rootOf 1 = .ok (.ifCond .le 15, 3) := by decide +kernel
theorem d_Fi_rootOf_4 : decode c_Fi_rootOf 4 = .ok (.iload_n 0, 1) := by decide +kernel
theorem d_Fi_rootOf_5 : decode c_Fi_rootOf 5 = .ok (.i2l, 1) := by decide +kernel
theorem d_Fi_rootOf_6 : decode c_Fi_rootOf 6 = .ok (.ldc2_w 34, 3) := by decide +kernel
theorem d_Fi_rootOf_9 : decode c_Fi_rootOf 9 = .ok (.lmul, 1) := by decide +kernel
theorem d_Fi_rootOf_10 : decode c_Fi_rootOf 10 = .ok (.invokestatic 30, 3) := by decide +kernel
theorem d_Fi_rootOf_13 : decode c_Fi_rootOf 13 = .ok (.goto 4, 3) := by decide +kernel
theorem d_Fi_rootOf_16 : decode c_Fi_rootOf 16 = .ok (.iconst 0, 1) := by decide +kernel
theorem d_Fi_rootOf_17 : decode c_Fi_rootOf 17 = .ok (.ireturn, 1) := by decide +kernel
theorem d_Fi_withoutSign_0 : decode c_Fi_withoutSign 0 = .ok (.iload_n 0, 1) := by decide +kernel
theorem d_Fi_withoutSign_1 : decode c_Fi_withoutSign 1 = .ok (.ldc 38, 2) := by decide +kernel
theorem d_Fi_withoutSign_3 : decode c_Fi_withoutSign 3 = .ok (.if_icmp .ne 6, 3) := by decide +kernel
theorem d_Fi_withoutSign_6 : decode c_Fi_withoutSign 6 = .ok (.ldc 9, 2) := by decide +kernel
theorem d_Fi_withoutSign_8 : decode c_Fi_withoutSign 8 = .ok (.ireturn, 1) := by decide +kernel
theorem d_Fi_withoutSign_9 : decode c_Fi_withoutSign 9 = .ok (.iload_n 0, 1) := by decide +kernel
theorem d_Fi_withoutSign_10 : decode c_Fi_withoutSign 10 = .ok (.ifCond .ge 8, 3) := by decide +kernel
theorem d_Fi_withoutSign_13 : decode c_Fi_withoutSign 13 = .ok (.iload_n 0, 1) := by decide +kernel
theorem d_Fi_withoutSign_14 : decode c_Fi_withoutSign 14 = .ok (.ineg, 1) := by decide +kernel
theorem d_Fi_withoutSign_15 : decode c_Fi_withoutSign 15 = .ok (.goto 4, 3) := by decide +kernel
theorem d_Fi_withoutSign_18 : decode c_Fi_withoutSign 18 = .ok (.iload_n 0, 1) := by decide +kernel
theorem d_Fi_withoutSign_19 : decode c_Fi_withoutSign 19 = .ok (.ireturn, 1) := by decide +kernel
theorem d_Fi_truth_0 : decode c_Fi_truth 0 = .ok (.iload_n 0, 1) := by decide +kernel
theorem d_Fi_truth_1 : decode c_Fi_truth 1 = .ok (.ifCond .eq 8, 3) := by decide +kernel
theorem d_Fi_truth_4 : decode c_Fi_truth 4 = .ok (.ldc 39, 2) := by decide +kernel
theorem d_Fi_truth_6 : decode c_Fi_truth 6 = .ok (.goto 4, 3) := by decide +kernel
theorem d_Fi_truth_9 : decode c_Fi_truth 9 = .ok (.iconst 0, 1) := by decide +kernel
theorem d_Fi_truth_10 : decode c_Fi_truth 10 = .ok (.ireturn, 1) := by decide +kernel
theorem d_Ma_min_0 : decode c_Ma_min 0 = .ok (.iload_n 0, 1) := by decide +kernel
theorem d_Ma_min_1 : decode c_Ma_min 1 = .ok (.iload_n 1, 1) := by decide +kernel
theorem d_Ma_min_2 : decode c_Ma_min 2 = .ok (.if_icmp .gt 7, 3) := by decide +kernel
theorem d_Ma_min_5 : decode c_Ma_min 5 = .ok (.iload_n 0, 1) := by decide +kernel
theorem d_Ma_min_6 : decode c_Ma_min 6 = .ok (.goto 4, 3) := by decide +kernel
theorem d_Ma_min_9 : decode c_Ma_min 9 = .ok (.iload_n 1, 1) := by decide +kernel
theorem d_Ma_min_10 : decode c_Ma_min 10 = .ok (.ireturn, 1) := by decide +kernel
theorem d_Ma_max_0 : decode c_Ma_max 0 = .ok (.iload_n 0, 1) := by decide +kernel
theorem d_Ma_max_1 : decode c_Ma_max 1 = .ok (.iload_n 1, 1) := by decide +kernel
theorem d_Ma_max_2 : decode c_Ma_max 2 = .ok (.if_icmp .lt 7, 3) := by decide +kernel
theorem d_Ma_max_5 : decode c_Ma_max 5 = .ok (.iload_n 0, 1) := by decide +kernel
theorem d_Ma_max_6 : decode c_Ma_max 6 = .ok (.goto 4, 3) := by decide +kernel
theorem d_Ma_max_9 : decode c_Ma_max 9 = .ok (.iload_n 1, 1) := by decide +kernel
theorem d_Ma_max_10 : decode c_Ma_max 10 = .ok (.ireturn, 1) := by decide +kernel
theorem d_Fi_keptWithin_0 : decode c_Fi_keptWithin 0 = .ok (.iconst 0, 1) := by decide +kernel
theorem d_Fi_keptWithin_1 : decode c_Fi_keptWithin 1 = .ok (.ldc 39, 2) := by decide +kernel
theorem d_Fi_keptWithin_3 : decode c_Fi_keptWithin 3 = .ok (.iload_n 0, 1) := by decide +kernel
theorem d_Fi_keptWithin_4 : decode c_Fi_keptWithin 4 = .ok (.invokestatic 40, 3) := by decide +kernel
theorem d_Fi_keptWithin_7 : decode c_Fi_keptWithin 7 = .ok (.invokestatic 43, 3) := by decide +kernel
theorem d_Fi_keptWithin_10 : decode c_Fi_keptWithin 10 = .ok (.ireturn, 1) := by decide +kernel
theorem d_Ki_sources_0 : decode c_Ki_sources 0 = .ok (.iload_n 0, 1) := by decide +kernel
theorem d_Ki_sources_1 : decode c_Ki_sources 1 = .ok (.ifCond .lt 19, 3) := by decide +kernel
theorem d_Ki_sources_4 : decode c_Ki_sources 4 = .ok (.iload_n 0, 1) := by decide +kernel
theorem d_Ki_sources_5 : decode c_Ki_sources 5 = .ok (.getstatic 7, 3) := by decide +kernel
theorem d_Ki_sources_8 : decode c_Ki_sources 8 = .ok (.arraylength, 1) := by decide +kernel
theorem d_Ki_sources_9 : decode c_Ki_sources 9 = .ok (.if_icmp .ge 11, 3) := by decide +kernel
theorem d_Ki_sources_12 : decode c_Ki_sources 12 = .ok (.getstatic 7, 3) := by decide +kernel
theorem d_Ki_sources_15 : decode c_Ki_sources 15 = .ok (.iload_n 0, 1) := by decide +kernel
theorem d_Ki_sources_16 : decode c_Ki_sources 16 = .ok (.iaload, 1) := by decide +kernel
theorem d_Ki_sources_17 : decode c_Ki_sources 17 = .ok (.goto 4, 3) := by decide +kernel
theorem d_Ki_sources_20 : decode c_Ki_sources 20 = .ok (.iconst 0, 1) := by decide +kernel
theorem d_Ki_sources_21 : decode c_Ki_sources 21 = .ok (.ireturn, 1) := by decide +kernel
theorem d_Ki_hasTarget_0 : decode c_Ki_hasTarget 0 = .ok (.iload_n 0, 1) := by decide +kernel
theorem d_Ki_hasTarget_1 : decode c_Ki_hasTarget 1 = .ok (.ifCond .eq 19, 3) := by decide +kernel
theorem d_Ki_hasTarget_4 : decode c_Ki_hasTarget 4 = .ok (.iload_n 0, 1) := by decide +kernel
theorem d_Ki_hasTarget_5 : decode c_Ki_hasTarget 5 = .ok (.bipush 34, 2) := by decide +kernel
theorem d_Ki_hasTarget_7 : decode c_Ki_hasTarget 7 = .ok (.if_icmp .lt 9, 3) := by decide +kernel
theorem d_Ki_hasTarget_10 : decode c_Ki_hasTarget 10 = .ok (.iload_n 0, 1) := by decide +kernel
theorem d_Ki_hasTarget_11 : decode c_Ki_hasTarget 11 = .ok (.bipush 38, 2) := by decide +kernel
theorem d_Ki_hasTarget_13 : decode c_Ki_hasTarget 13 = .ok (.if_icmp .le 7, 3) := by decide +kernel
theorem d_Ki_hasTarget_16 : decode c_Ki_hasTarget 16 = .ok (.iconst 1, 1) := by decide +kernel
theorem d_Ki_hasTarget_17 : decode c_Ki_hasTarget 17 = .ok (.goto 4, 3) := by decide +kernel
theorem d_Ki_hasTarget_20 : decode c_Ki_hasTarget 20 = .ok (.iconst 0, 1) := by decide +kernel
theorem d_Ki_hasTarget_21 : decode c_Ki_hasTarget 21 = .ok (.ireturn, 1) := by decide +kernel
theorem d_Ki_goes_0 : decode c_Ki_goes 0 = .ok (.iload_n 0, 1) := by decide +kernel
theorem d_Ki_goes_1 : decode c_Ki_goes 1 = .ok (.bipush 36, 2) := by decide +kernel
theorem d_Ki_goes_3 : decode c_Ki_goes 3 = .ok (.if_icmp .eq 9, 3) := by decide +kernel
theorem d_Ki_goes_6 : decode c_Ki_goes 6 = .ok (.iload_n 0, 1) := by decide +kernel
theorem d_Ki_goes_7 : decode c_Ki_goes 7 = .ok (.bipush 37, 2) := by decide +kernel
theorem d_Ki_goes_9 : decode c_Ki_goes 9 = .ok (.if_icmp .ne 7, 3) := by decide +kernel
theorem d_Ki_goes_12 : decode c_Ki_goes 12 = .ok (.iconst 1, 1) := by decide +kernel
theorem d_Ki_goes_13 : decode c_Ki_goes 13 = .ok (.goto 4, 3) := by decide +kernel
theorem d_Ki_goes_16 : decode c_Ki_goes 16 = .ok (.iconst 0, 1) := by decide +kernel
theorem d_Ki_goes_17 : decode c_Ki_goes 17 = .ok (.ireturn, 1) := by decide +kernel
theorem d_Ki_readsTexture_0 : decode c_Ki_readsTexture 0 = .ok (.iload_n 0, 1) := by decide +kernel
theorem d_Ki_readsTexture_1 : decode c_Ki_readsTexture 1 = .ok (.bipush 32, 2) := by decide +kernel
theorem d_Ki_readsTexture_3 : decode c_Ki_readsTexture 3 = .ok (.if_icmp .eq 9, 3) := by decide +kernel
theorem d_Ki_readsTexture_6 : decode c_Ki_readsTexture 6 = .ok (.iload_n 0, 1) := by decide +kernel
theorem d_Ki_readsTexture_7 : decode c_Ki_readsTexture 7 = .ok (.bipush 33, 2) := by decide +kernel
theorem d_Ki_readsTexture_9 : decode c_Ki_readsTexture 9 = .ok (.if_icmp .ne 7, 3) := by decide +kernel
theorem d_Ki_readsTexture_12 : decode c_Ki_readsTexture 12 = .ok (.iconst 1, 1) := by decide +kernel
theorem d_Ki_readsTexture_13 : decode c_Ki_readsTexture 13 = .ok (.goto 4, 3) := by decide +kernel
theorem d_Ki_readsTexture_16 : decode c_Ki_readsTexture 16 = .ok (.iconst 0, 1) := by decide +kernel
theorem d_Ki_readsTexture_17 : decode c_Ki_readsTexture 17 = .ok (.ireturn, 1) := by decide +kernel
theorem d_So_file_0 : decode c_So_file 0 = .ok (.iload_n 0, 1) := by decide +kernel
theorem d_So_file_1 : decode c_So_file 1 = .ok (.iconst 3, 1) := by decide +kernel
theorem d_So_file_2 : decode c_So_file 2 = .ok (.iand, 1) := by decide +kernel
theorem d_So_file_3 : decode c_So_file 3 = .ok (.ireturn, 1) := by decide +kernel
theorem d_So_number_0 : decode c_So_number 0 = .ok (.iload_n 0, 1) := by decide +kernel
theorem d_So_number_1 : decode c_So_number 1 = .ok (.iconst 2, 1) := by decide +kernel
theorem d_So_number_2 : decode c_So_number 2 = .ok (.ishr, 1) := by decide +kernel
theorem d_So_number_3 : decode c_So_number 3 = .ok (.bipush 31, 2) := by decide +kernel
theorem d_So_number_5 : decode c_So_number 5 = .ok (.iand, 1) := by decide +kernel
theorem d_So_number_6 : decode c_So_number 6 = .ok (.ireturn, 1) := by decide +kernel
theorem d_So_picks_0 : decode c_So_picks 0 = .ok (.iload_n 0, 1) := by decide +kernel
theorem d_So_picks_1 : decode c_So_picks 1 = .ok (.bipush 7, 2) := by decide +kernel
theorem d_So_picks_3 : decode c_So_picks 3 = .ok (.ishr, 1) := by decide +kernel
theorem d_So_picks_4 : decode c_So_picks 4 = .ok (.sipush 255, 3) := by decide +kernel
theorem d_So_picks_7 : decode c_So_picks 7 = .ok (.iand, 1) := by decide +kernel
theorem d_So_picks_8 : decode c_So_picks 8 = .ok (.ireturn, 1) := by decide +kernel
theorem d_So_isNegated_0 : decode c_So_isNegated 0 = .ok (.iload_n 0, 1) := by decide +kernel
theorem d_So_isNegated_1 : decode c_So_isNegated 1 = .ok (.bipush 15, 2) := by decide +kernel
theorem d_So_isNegated_3 : decode c_So_isNegated 3 = .ok (.ishr, 1) := by decide +kernel
theorem d_So_isNegated_4 : decode c_So_isNegated 4 = .ok (.iconst 1, 1) := by decide +kernel
theorem d_So_isNegated_5 : decode c_So_isNegated 5 = .ok (.iand, 1) := by decide +kernel
theorem d_So_isNegated_6 : decode c_So_isNegated 6 = .ok (.ifCond .eq 7, 3) := by decide +kernel
theorem d_So_isNegated_9 : decode c_So_isNegated 9 = .ok (.iconst 1, 1) := by decide +kernel
theorem d_So_isNegated_10 : decode c_So_isNegated 10 = .ok (.goto 4, 3) := by decide +kernel
theorem d_So_isNegated_13 : decode c_So_isNegated 13 = .ok (.iconst 0, 1) := by decide +kernel
theorem d_So_isNegated_14 : decode c_So_isNegated 14 = .ok (.ireturn, 1) := by decide +kernel
theorem d_Ta_file_0 : decode c_Ta_file 0 = .ok (.iload_n 0, 1) := by decide +kernel
theorem d_Ta_file_1 : decode c_Ta_file 1 = .ok (.bipush 6, 2) := by decide +kernel
theorem d_Ta_file_3 : decode c_Ta_file 3 = .ok (.ishr, 1) := by decide +kernel
theorem d_Ta_file_4 : decode c_Ta_file 4 = .ok (.iconst 3, 1) := by decide +kernel
theorem d_Ta_file_5 : decode c_Ta_file 5 = .ok (.iand, 1) := by decide +kernel
theorem d_Ta_file_6 : decode c_Ta_file 6 = .ok (.ireturn, 1) := by decide +kernel
theorem d_Ta_number_0 : decode c_Ta_number 0 = .ok (.iload_n 0, 1) := by decide +kernel
theorem d_Ta_number_1 : decode c_Ta_number 1 = .ok (.bipush 8, 2) := by decide +kernel
theorem d_Ta_number_3 : decode c_Ta_number 3 = .ok (.ishr, 1) := by decide +kernel
theorem d_Ta_number_4 : decode c_Ta_number 4 = .ok (.bipush 15, 2) := by decide +kernel
theorem d_Ta_number_6 : decode c_Ta_number 6 = .ok (.iand, 1) := by decide +kernel
theorem d_Ta_number_7 : decode c_Ta_number 7 = .ok (.ireturn, 1) := by decide +kernel
theorem d_Ta_setsAny_0 : decode c_Ta_setsAny 0 = .ok (.iload_n 0, 1) := by decide +kernel
theorem d_Ta_setsAny_1 : decode c_Ta_setsAny 1 = .ok (.bipush 12, 2) := by decide +kernel
theorem d_Ta_setsAny_3 : decode c_Ta_setsAny 3 = .ok (.ishr, 1) := by decide +kernel
theorem d_Ta_setsAny_4 : decode c_Ta_setsAny 4 = .ok (.bipush 15, 2) := by decide +kernel
theorem d_Ta_setsAny_6 : decode c_Ta_setsAny 6 = .ok (.iand, 1) := by decide +kernel
theorem d_Ta_setsAny_7 : decode c_Ta_setsAny 7 = .ok (.ifCond .eq 7, 3) := by decide +kernel
theorem d_Ta_setsAny_10 : decode c_Ta_setsAny 10 = .ok (.iconst 1, 1) := by decide +kernel
theorem d_Ta_setsAny_11 : decode c_Ta_setsAny 11 = .ok (.goto 4, 3) := by decide +kernel
theorem d_Ta_setsAny_14 : decode c_Ta_setsAny 14 = .ok (.iconst 0, 1) := by decide +kernel
theorem d_Ta_setsAny_15 : decode c_Ta_setsAny 15 = .ok (.ireturn, 1) := by decide +kernel
theorem d_Ta_sets_0 : decode c_Ta_sets 0 = .ok (.iload_n 0, 1) := by decide +kernel
theorem d_Ta_sets_1 : decode c_Ta_sets 1 = .ok (.bipush 12, 2) := by decide +kernel
theorem d_Ta_sets_3 : decode c_Ta_sets 3 = .ok (.iload_n 1, 1) := by decide +kernel
theorem d_Ta_sets_4 : decode c_Ta_sets 4 = .ok (.iadd, 1) := by decide +kernel
theorem d_Ta_sets_5 : decode c_Ta_sets 5 = .ok (.ishr, 1) := by decide +kernel
theorem d_Ta_sets_6 : decode c_Ta_sets 6 = .ok (.iconst 1, 1) := by decide +kernel
theorem d_Ta_sets_7 : decode c_Ta_sets 7 = .ok (.iand, 1) := by decide +kernel
theorem d_Ta_sets_8 : decode c_Ta_sets 8 = .ok (.ifCond .eq 7, 3) := by decide +kernel
theorem d_Ta_sets_11 : decode c_Ta_sets 11 = .ok (.iconst 1, 1) := by decide +kernel
