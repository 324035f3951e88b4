theorem d_Fi_product_0 : decode c_Fi_product 0 = .ok (.iload_n 0, 1) := by decide +kernel
theorem d_Fi_product_1 : decode c_Fi_product 1 = .ok (.i2l, 1) := by decide +kernel
theorem d_Fi_product_2 : decode c_Fi_product 2 = .ok (.iload_n 1, 1) := by decide +kernel
theorem d_Fi_product_3 : decode c_Fi_product 3 = .ok (.i2l, 1) := by decide +kernel
theorem d_Fi_product_4 : decode c_Fi_product 4 = .ok (.lmul, 1) := by decide +kernel
theorem d_Fi_product_5 : decode c_Fi_product 5 = .ok (.bipush 16, 2) := by decide +kernel
theorem d_Fi_product_7 : decode c_Fi_product 7 = .ok (.lshr, 1) := by decide +kernel
theorem d_Fi_product_8 : decode c_Fi_product 8 = .ok (.l2i, 1) := by decide +kernel
theorem d_Fi_product_9 : decode c_Fi_product 9 = .ok (.ireturn, 1) := by decide +kernel
theorem d_Fi_root_0 : decode c_Fi_root 0 = .ok (.lconst 0, 1) := by decide +kernel
theorem d_Fi_root_1 : decode c_Fi_root 1 = .ok (.lstore_n 2, 1) := by decide +kernel
theorem d_Fi_root_2 : decode c_Fi_root 2 = .ok (.ldc2_w 36, 3) := by decide +kernel
theorem d_Fi_root_5 : decode c_Fi_root 5 = .ok (.lstore 4, 2) := by decide +kernel
theorem d_Fi_root_7 : decode c_Fi_root 7 = .ok (.lload 4, 2) := by decide +kernel
theorem d_Fi_root_9 : decode c_Fi_root 9 = .ok (.lconst 0, 1) := by decide +kernel
theorem d_Fi_root_10 : decode c_Fi_root 10 = .ok (.lcmp, 1) := by decide +kernel
theorem d_Fi_root_11 : decode c_Fi_root 11 = .ok (.ifCond .le 31, 3) := by decide +kernel
theorem d_Fi_root_14 : decode c_Fi_root 14 = .ok (.lload_n 2, 1) := by decide +kernel
theorem d_Fi_root_15 : decode c_Fi_root 15 = .ok (.lload 4, 2) := by decide +kernel
theorem d_Fi_root_17 : decode c_Fi_root 17 = .ok (.ladd, 1) := by decide +kernel
theorem d_Fi_root_18 : decode c_Fi_root 18 = .ok (.lstore 6, 2) := by decide +kernel
theorem d_Fi_root_20 : decode c_Fi_root 20 = .ok (.lload 6, 2) := by decide +kernel
theorem d_Fi_root_22 : decode c_Fi_root 22 = .ok (.lload 6, 2) := by decide +kernel
theorem d_Fi_root_24 : decode c_Fi_root 24 = .ok (.lmul, 1) := by decide +kernel
theorem d_Fi_root_25 : decode c_Fi_root 25 = .ok (.lload_n 0, 1) := by decide +kernel
theorem d_Fi_root_26 : decode c_Fi_root 26 = .ok (.lcmp, 1) := by decide +kernel
theorem d_Fi_root_27 : decode c_Fi_root 27 = .ok (.ifCond .gt 6, 3) := by decide +kernel
theorem d_Fi_root_30 : decode c_Fi_root 30 = .ok (.lload 6, 2) := by decide +kernel
theorem d_Fi_root_32 : decode c_Fi_root 32 = .ok (.lstore_n 2, 1) := by decide +kernel
theorem d_Fi_root_33 : decode c_Fi_root 33 = .ok (.lload 4, 2) := by decide +kernel
theorem d_Fi_root_35 : decode c_Fi_root 35 = .ok (.iconst 1, 1) := by decide +kernel
theorem d_Fi_root_36 : decode c_Fi_root 36 = .ok (.lshr, 1) := by decide +kernel
theorem d_Fi_root_37 : decode c_Fi_root 37 = .ok (.lstore 4, 2) := by decide +kernel
theorem d_Fi_root_39 : decode c_Fi_root 39 = .ok (.goto (-32), 3) := by decide +kernel
theorem d_Fi_root_42 : decode c_Fi_root 42 = .ok (.lload_n 2, 1) := by decide +kernel
theorem d_Fi_root_43 : decode c_Fi_root 43 = .ok (.l2i, 1) := by decide +kernel
theorem d_Fi_root_44 : decode c_Fi_root 44 = .ok (.ireturn, 1) := by decide +kernel
theorem d_Ve_hasPart_0 : decode c_Ve_hasPart 0 = .ok (.iload_n 1, 1) := by decide +kernel
theorem d_Ve_hasPart_1 : decode c_Ve_hasPart 1 = .ok (.ifCond .lt 24, 3) := by decide +kernel
theorem d_Ve_hasPart_4 : decode c_Ve_hasPart 4 = .ok (.iload_n 1, 1) := by decide +kernel
theorem d_Ve_hasPart_5 : decode c_Ve_hasPart 5 = .ok (.aload_n 0, 1) := by decide +kernel
theorem d_Ve_hasPart_6 : decode c_Ve_hasPart 6 = .ok (.getfield 13, 3) := by decide +kernel
theorem d_Ve_hasPart_9 : decode c_Ve_hasPart 9 = .ok (.if_icmp .ge 16, 3) := by decide +kernel
theorem d_Ve_hasPart_12 : decode c_Ve_hasPart 12 = .ok (.iload_n 2, 1) := by decide +kernel
theorem d_Ve_hasPart_13 : decode c_Ve_hasPart 13 = .ok (.ifCond .lt 12, 3) := by decide +kernel
theorem d_Ve_hasPart_16 : decode c_Ve_hasPart 16 = .ok (.iload_n 2, 1) := by decide +kernel
theorem d_Ve_hasPart_17 : decode c_Ve_hasPart 17 = .ok (.iconst 4, 1) := by decide +kernel
theorem d_Ve_hasPart_18 : decode c_Ve_hasPart 18 = .ok (.if_icmp .ge 7, 3) := by decide +kernel
theorem d_Ve_hasPart_21 : decode c_Ve_hasPart 21 = .ok (.iconst 1, 1) := by decide +kernel
theorem d_Ve_hasPart_22 : decode c_Ve_hasPart 22 = .ok (.goto 4, 3) := by decide +kernel
theorem d_Ve_hasPart_25 : decode c_Ve_hasPart 25 = .ok (.iconst 0, 1) := by decide +kernel
theorem d_Ve_hasPart_26 : decode c_Ve_hasPart 26 = .ok (.ireturn, 1) := by decide +kernel
theorem d_Ve_part_0 : decode c_Ve_part 0 = .ok (.aload_n 0, 1) := by decide +kernel
theorem d_Ve_part_1 : decode c_Ve_part 1 = .ok (.iload_n 1, 1) := by decide +kernel
theorem d_Ve_part_2 : decode c_Ve_part 2 = .ok (.iload_n 2, 1) := by decide +kernel
theorem d_Ve_part_3 : decode c_Ve_part 3 = .ok (.invokevirtual 23, 3) := by decide +kernel
theorem d_Ve_part_6 : decode c_Ve_part 6 = .ok (.ifCond .eq 16, 3) := by decide +kernel
theorem d_Ve_part_9 : decode c_Ve_part 9 = .ok (.aload_n 0, 1) := by decide +kernel
theorem d_Ve_part_10 : decode c_Ve_part 10 = .ok (.getfield 19, 3) := by decide +kernel
theorem d_Ve_part_13 : decode c_Ve_part 13 = .ok (.iconst 4, 1) := by decide +kernel
theorem d_Ve_part_14 : decode c_Ve_part 14 = .ok (.iload_n 1, 1) := by decide +kernel
theorem d_Ve_part_15 : decode c_Ve_part 15 = .ok (.imul, 1) := by decide +kernel
theorem d_Ve_part_16 : decode c_Ve_part 16 = .ok (.iload_n 2, 1) := by decide +kernel
theorem d_Ve_part_17 : decode c_Ve_part 17 = .ok (.iadd, 1) := by decide +kernel
theorem d_Ve_part_18 : decode c_Ve_part 18 = .ok (.iaload, 1) := by decide +kernel
theorem d_Ve_part_19 : decode c_Ve_part 19 = .ok (.goto 4, 3) := by decide +kernel
theorem d_Ve_part_22 : decode c_Ve_part 22 = .ok (.iconst 0, 1) := by decide +kernel
theorem d_Ve_part_23 : decode c_Ve_part 23 = .ok (.ireturn, 1) := by decide +kernel
theorem d_Ve_has_0 : decode c_Ve_has 0 = .ok (.iload_n 1, 1) := by decide +kernel
theorem d_Ve_has_1 : decode c_Ve_has 1 = .ok (.ifCond .lt 15, 3) := by decide +kernel
theorem d_Ve_has_4 : decode c_Ve_has 4 = .ok (.iload_n 1, 1) := by decide +kernel
theorem d_Ve_has_5 : decode c_Ve_has 5 = .ok (.aload_n 0, 1) := by decide +kernel
theorem d_Ve_has_6 : decode c_Ve_has 6 = .ok (.getfield 13, 3) := by decide +kernel
theorem d_Ve_has_9 : decode c_Ve_has 9 = .ok (.if_icmp .ge 7, 3) := by decide +kernel
theorem d_Ve_has_12 : decode c_Ve_has 12 = .ok (.iconst 1, 1) := by decide +kernel
theorem d_Ve_has_13 : decode c_Ve_has 13 = .ok (.goto 4, 3) := by decide +kernel
theorem d_Ve_has_16 : decode c_Ve_has 16 = .ok (.iconst 0, 1) := by decide +kernel
theorem d_Ve_has_17 : decode c_Ve_has 17 = .ok (.ireturn, 1) := by decide +kernel
theorem d_Ve_pick_0 : decode c_Ve_pick 0 = .ok (.aload_n 0, 1) := by decide +kernel
theorem d_Ve_pick_1 : decode c_Ve_pick 1 = .ok (.iload_n 1, 1) := by decide +kernel
theorem d_Ve_pick_2 : decode c_Ve_pick 2 = .ok (.invokevirtual 27, 3) := by decide +kernel
theorem d_Ve_pick_5 : decode c_Ve_pick 5 = .ok (.istore 4, 2) := by decide +kernel
theorem d_Ve_pick_7 : decode c_Ve_pick 7 = .ok (.iconst 0, 1) := by decide +kernel
theorem d_Ve_pick_8 : decode c_Ve_pick 8 = .ok (.istore 5, 2) := by decide +kernel
theorem d_Ve_pick_10 : decode c_Ve_pick 10 = .ok (.iload 5, 2) := by decide +kernel
theorem d_Ve_pick_12 : decode c_Ve_pick 12 = .ok (.aload_n 3, 1) := by decide +kernel
theorem d_Ve_pick_13 : decode c_Ve_pick 13 = .ok (.arraylength, 1) := by decide +kernel
theorem d_Ve_pick_14 : decode c_Ve_pick 14 = .ok (.if_icmp .ge 39, 3) := by decide +kernel
theorem d_Ve_pick_17 : decode c_Ve_pick 17 = .ok (.aload_n 3, 1) := by decide +kernel
theorem d_Ve_pick_18 : decode c_Ve_pick 18 = .ok (.iload 5, 2) := by decide +kernel
theorem d_Ve_pick_20 : decode c_Ve_pick 20 = .ok (.iload 4, 2) := by decide +kernel
theorem d_Ve_pick_22 : decode c_Ve_pick 22 = .ok (.ifCond .eq 23, 3) := by decide +kernel
theorem d_Ve_pick_25 : decode c_Ve_pick 25 = .ok (.aload_n 0, 1) := by decide +kernel
theorem d_Ve_pick_26 : decode c_Ve_pick 26 = .ok (.getfield 19, 3) := by decide +kernel
theorem d_Ve_pick_29 : decode c_Ve_pick 29 = .ok (.iconst 4, 1) := by decide +kernel
theorem d_Ve_pick_30 : decode c_Ve_pick 30 = .ok (.iload_n 1, 1) := by decide +kernel
theorem d_Ve_pick_31 : decode c_Ve_pick 31 = .ok (.imul, 1) := by decide +kernel
theorem d_Ve_pick_32 : decode c_Ve_pick 32 = .ok (.iload_n 2, 1) := by decide +kernel
theorem d_Ve_pick_33 : decode c_Ve_pick 33 = .ok (.iconst 2, 1) := by decide +kernel
theorem d_Ve_pick_34 : decode c_Ve_pick 34 = .ok (.iload 5, 2) := by decide +kernel
theorem d_Ve_pick_36 : decode c_Ve_pick 36 = .ok (.imul, 1) := by decide +kernel
theorem d_Ve_pick_37 : decode c_Ve_pick 37 = .ok (.ishr, 1) := by decide +kernel
theorem d_Ve_pick_38 : decode c_Ve_pick 38 = .ok (.iconst 3, 1) := by decide +kernel
theorem d_Ve_pick_39 : decode c_Ve_pick 39 = .ok (.iand, 1) := by decide +kernel
theorem d_Ve_pick_40 : decode c_Ve_pick 40 = .ok (.iadd, 1) := by decide +kernel
theorem d_Ve_pick_41 : decode c_Ve_pick 41 = .ok (.iaload, 1) := by decide +kernel
theorem d_Ve_pick_42 : decode c_Ve_pick 42 = .ok (.goto 4, 3) := by decide +kernel
theorem d_Ve_pick_45 : decode c_Ve_pick 45 = .ok (.iconst 0, 1) := by decide +kernel
theorem d_Ve_pick_46 : decode c_Ve_pick 46 = .ok (.iastore, 1) := by decide +kernel
theorem d_Ve_pick_47 : decode c_Ve_pick 47 = .ok (.iinc 5 1, 3) := by decide +kernel
theorem d_Ve_pick_50 : decode c_Ve_pick 50 = .ok (.goto (-40), 3) := by decide +kernel
theorem d_Ve_pick_53 : decode c_Ve_pick 53 = .ok (.return_, 1) := by decide +kernel
theorem d_Ve_setPart_0 : decode c_Ve_setPart 0 = .ok (.aload_n 0, 1) := by decide +kernel
theorem d_Ve_setPart_1 : decode c_Ve_setPart 1 = .ok (.iload_n 1, 1) := by decide +kernel
theorem d_Ve_setPart_2 : decode c_Ve_setPart 2 = .ok (.iload_n 2, 1) := by decide +kernel
theorem d_Ve_setPart_3 : decode c_Ve_setPart 3 = .ok (.invokevirtual 23, 3) := by decide +kernel
theorem d_Ve_setPart_6 : decode c_Ve_setPart 6 = .ok (.ifCond .eq 14, 3) := by decide +kernel
theorem d_Ve_setPart_9 : decode c_Ve_setPart 9 = .ok (.aload_n 0, 1) := by decide +kernel
theorem d_Ve_setPart_10 : decode c_Ve_setPart 10 = .ok (.getfield 19, 3) := by decide +kernel
theorem d_Ve_setPart_13 : decode c_Ve_setPart 13 = .ok (.iconst 4, 1) := by decide +kernel
theorem d_Ve_setPart_14 : decode c_Ve_setPart 14 = .ok (.iload_n 1, 1) := by decide +kernel
theorem d_Ve_setPart_15 : decode c_Ve_setPart 15 = .ok (.imul, 1) := by decide +kernel
theorem d_Ve_setPart_16 : decode c_Ve_setPart 16 = .ok (.iload_n 2, 1) := by decide +kernel
theorem d_Ve_setPart_17 : decode c_Ve_setPart 17 = .ok (.iadd, 1) := by decide +kernel
theorem d_Ve_setPart_18 : decode c_Ve_setPart 18 = .ok (.iload_n 3, 1) := by decide +kernel
theorem d_Ve_setPart_19 : decode c_Ve_setPart 19 = .ok (.iastore, 1) := by decide +kernel
theorem d_Ve_setPart_20 : decode c_Ve_setPart 20 = .ok (.return_, 1) := by decide +kernel
theorem d_Ve_set_0 : decode c_Ve_set 0 = .ok (.aload_n 0, 1) := by decide +kernel
theorem d_Ve_set_1 : decode c_Ve_set 1 = .ok (.iload_n 1, 1) := by decide +kernel
theorem d_Ve_set_2 : decode c_Ve_set 2 = .ok (.iconst 0, 1) := by decide +kernel
theorem d_Ve_set_3 : decode c_Ve_set 3 = .ok (.iload_n 2, 1) := by decide +kernel
theorem d_Ve_set_4 : decode c_Ve_set 4 = .ok (.invokevirtual 31, 3) := by decide +kernel
theorem d_Ve_set_7 : decode c_Ve_set 7 = .ok (.aload_n 0, 1) := by decide +kernel
theorem d_Ve_set_8 : decode c_Ve_set 8 = .ok (.iload_n 1, 1) := by decide +kernel
theorem d_Ve_set_9 : decode c_Ve_set 9 = .ok (.iconst 1, 1) := by decide +kernel
theorem d_Ve_set_10 : decode c_Ve_set 10 = .ok (.iload_n 3, 1) := by decide +kernel
theorem d_Ve_set_11 : decode c_Ve_set 11 = .ok (.invokevirtual 31, 3) := by decide +kernel
theorem d_Ve_set_14 : decode c_Ve_set 14 = .ok (.aload_n 0, 1) := by decide +kernel
theorem d_Ve_set_15 : decode c_Ve_set 15 = .ok (.iload_n 1, 1) := by decide +kernel
theorem d_Ve_set_16 : decode c_Ve_set 16 = .ok (.iconst 2, 1) := by decide +kernel
theorem d_Ve_set_17 : decode c_Ve_set 17 = .ok (.iload 4, 2) := by decide +kernel
theorem d_Ve_set_19 : decode c_Ve_set 19 = .ok (.invokevirtual 31, 3) := by decide +kernel
theorem d_Ve_set_22 : decode c_Ve_set 22 = .ok (.aload_n 0, 1) := by decide +kernel
theorem d_Ve_set_23 : decode c_Ve_set 23 = .ok (.iload_n 1, 1) := by decide +kernel
theorem d_Ve_set_24 : decode c_Ve_set 24 = .ok (.iconst 3, 1) := by decide +kernel
theorem d_Ve_set_25 : decode c_Ve_set 25 = .ok (.iload 5, 2) := by decide +kernel
theorem d_Ve_set_27 : decode c_Ve_set 27 = .ok (.invokevirtual 31, 3) := by decide +kernel
theorem d_Ve_set_30 : decode c_Ve_set 30 = .ok (.return_, 1) := by decide +kernel
theorem d_Lo_open_0 : decode c_Lo_open 0 = .ok (.aload_n 0, 1) := by decide +kernel
theorem d_Lo_open_1 : decode c_Lo_open 1 = .ok (.getfield 19, 3) := by decide +kernel
theorem d_Lo_open_4 : decode c_Lo_open 4 = .ok (.ifCond .lt 41, 3) := by decide +kernel
theorem d_Lo_open_7 : decode c_Lo_open 7 = .ok (.aload_n 0, 1) := by decide +kernel
theorem d_Lo_open_8 : decode c_Lo_open 8 = .ok (.getfield 19, 3) := by decide +kernel
theorem d_Lo_open_11 : decode c_Lo_open 11 = .ok (.iconst 4, 1) := by decide +kernel
theorem d_Lo_open_12 : decode c_Lo_open 12 = .ok (.if_icmp .ge 33, 3) := by decide +kernel
theorem d_Lo_open_15 : decode c_Lo_open 15 = .ok (.aload_n 0, 1) := by decide +kernel
theorem d_Lo_open_16 : decode c_Lo_open 16 = .ok (.getfield 11, 3) := by decide +kernel
theorem d_Lo_open_19 : decode c_Lo_open 19 = .ok (.aload_n 0, 1) := by decide +kernel
theorem d_Lo_open_20 : decode c_Lo_open 20 = .ok (.getfield 19, 3) := by decide +kernel
theorem d_Lo_open_23 : decode c_Lo_open 23 = .ok (.iload_n 1, 1) := by decide +kernel
theorem d_Lo_open_24 : decode c_Lo_open 24 = .ok (.iastore, 1) := by decide +kernel
theorem d_Lo_open_25 : decode c_Lo_open 25 = .ok (.aload_n 0, 1) := by decide +kernel
theorem d_Lo_open_26 : decode c_Lo_open 26 = .ok (.getfield 15, 3) := by decide +kernel
theorem d_Lo_open_29 : decode c_Lo_open 29 = .ok (.aload_n 0, 1) := by decide +kernel
theorem d_Lo_open_30 : decode c_Lo_open 30 = .ok (.getfield 19, 3) := by decide +kernel
theorem d_Lo_open_33 : decode c_Lo_open 33 = .ok (.lload_n 2, 1) := by decide +kernel
theorem d_Lo_open_34 : decode c_Lo_open 34 = .ok (.lastore, 1) := by decide +kernel
theorem d_Lo_open_35 : decode c_Lo_open 35 = .ok (.aload_n 0, 1) := by decide +kernel
theorem d_Lo_open_36 : decode c_Lo_open 36 = .ok (.dup, 1) := by decide +kernel
theorem d_Lo_open_37 : decode c_Lo_open 37 = .ok (.getfield 19, 3) := by decide +kernel
theorem d_Lo_open_40 : decode c_Lo_open 40 = .ok (.iconst 1, 1) := by decide +kernel
theorem d_Lo_open_41 : decode c_Lo_open 41 = .ok (.iadd, 1) := by decide +kernel
theorem d_Lo_open_42 : decode c_Lo_open 42 = .ok (.putfield 19, 3) := by decide +kernel
theorem d_Lo_open_45 : decode c_Lo_open 45 = .ok (.return_, 1) := by decide +kernel
theorem d_St_sourceFile_0 : decode c_St_sourceFile 0 = .ok (.iload_n 1, 1) := by decide +kernel
theorem d_St_sourceFile_1 : decode c_St_sourceFile 1 = .ok (.tableswitch 42 0 2 #[27, 32, 37], 27) := by decide +kernel
theorem d_St_sourceFile_28 : decode c_St_sourceFile 28 = .ok (.aload_n 0, 1) := by decide +kernel
theorem d_St_sourceFile_29 : decode c_St_sourceFile 29 = .ok (.getfield 18, 3) := by decide +kernel
theorem d_St_sourceFile_32 : decode c_St_sourceFile 32 = .ok (.areturn, 1) := by decide +kernel
theorem d_St_sourceFile_33 : decode c_St_sourceFile 33 = .ok (.aload_n 0, 1) := by decide +kernel
theorem d_St_sourceFile_34 : decode c_St_sourceFile 34 = .ok (.getfield 22, 3) := by decide +kernel
theorem d_St_sourceFile_37 : decode c_St_sourceFile 37 = .ok (.areturn, 1) := by decide +kernel
theorem d_St_sourceFile_38 : decode c_St_sourceFile 38 = .ok (.aload_n 0, 1) := by decide +kernel
theorem d_St_sourceFile_39 : decode c_St_sourceFile 39 = .ok (.getfield 28, 3) := by decide +kernel
theorem d_St_sourceFile_42 : decode c_St_sourceFile 42 = .ok (.areturn, 1) := by decide +kernel
theorem d_St_sourceFile_43 : decode c_St_sourceFile 43 = .ok (.aload_n 0, 1) := by decide +kernel
theorem d_St_sourceFile_44 : decode c_St_sourceFile 44 = .ok (.getfield 34, 3) := by decide +kernel
theorem d_St_sourceFile_47 : decode c_St_sourceFile 47 = .ok (.areturn, 1) := by decide +kernel
theorem d_Ki_sources_0 : decode c_Ki_sources 0 = .ok (.iload_n 0, 1) := by decide +kernel
theorem d_Ki_sources_1 : decode c_Ki_sources 1 = .ok (.ifCond .lt 19, 3) := by decide +kernel
theorem d_Ki_sources_4 : decode c_Ki_sources 4 = .ok (.iload_n 0, 1) := by decide +kernel
theorem d_Ki_sources_5 : decode c_Ki_sources 5 = .ok (.getstatic 7, 3) := by decide +kernel
theorem d_Ki_sources_8 : decode c_Ki_sources 8 = .ok (.arraylength, 1) := by decide +kernel
theorem d_Ki_sources_9 : decode c_Ki_sources 9 = .ok (.if_icmp .ge 11, 3) := by decide +kernel
theorem d_Ki_sources_12 : decode c_Ki_sources 12 = .ok (.getstatic 7, 3) := by decide +kernel
theorem d_Ki_sources_15 : decode c_Ki_sources 15 = .ok (.iload_n 0, 1) := by decide +kernel
theorem d_Ki_sources_16 : decode c_Ki_sources 16 = .ok (.iaload, 1) := by decide +kernel
theorem d_Ki_sources_17 : decode c_Ki_sources 17 = .ok (.goto 4, 3) := by decide +kernel
theorem d_Ki_sources_20 : decode c_Ki_sources 20 = .ok (.iconst 0, 1) := by decide +kernel
theorem d_Ki_sources_21 : decode c_Ki_sources 21 = .ok (.ireturn, 1) := by decide +kernel
