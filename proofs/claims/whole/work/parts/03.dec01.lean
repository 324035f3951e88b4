theorem d_Ta_sets_12 : decode c_Ta_sets 12 = .ok (.goto 4, 3) := by decide +kernel
theorem d_Ta_sets_15 : decode c_Ta_sets 15 = .ok (.iconst 0, 1) := by decide +kernel
theorem d_Ta_sets_16 : decode c_Ta_sets 16 = .ok (.ireturn, 1) := by decide +kernel
theorem d_Ta_isKeptWithin_0 : decode c_Ta_isKeptWithin 0 = .ok (.iload_n 0, 1) := by decide +kernel
theorem d_Ta_isKeptWithin_1 : decode c_Ta_isKeptWithin 1 = .ok (.bipush 16, 2) := by decide +kernel
theorem d_Ta_isKeptWithin_3 : decode c_Ta_isKeptWithin 3 = .ok (.ishr, 1) := by decide +kernel
theorem d_Ta_isKeptWithin_4 : decode c_Ta_isKeptWithin 4 = .ok (.iconst 1, 1) := by decide +kernel
theorem d_Ta_isKeptWithin_5 : decode c_Ta_isKeptWithin 5 = .ok (.iand, 1) := by decide +kernel
theorem d_Ta_isKeptWithin_6 : decode c_Ta_isKeptWithin 6 = .ok (.ifCond .eq 7, 3) := by decide +kernel
theorem d_Ta_isKeptWithin_9 : decode c_Ta_isKeptWithin 9 = .ok (.iconst 1, 1) := by decide +kernel
theorem d_Ta_isKeptWithin_10 : decode c_Ta_isKeptWithin 10 = .ok (.goto 4, 3) := by decide +kernel
theorem d_Ta_isKeptWithin_13 : decode c_Ta_isKeptWithin 13 = .ok (.iconst 0, 1) := by decide +kernel
theorem d_Ta_isKeptWithin_14 : decode c_Ta_isKeptWithin 14 = .ok (.ireturn, 1) := by decide +kernel
theorem d_Ve_has_0 : decode c_Ve_has 0 = .ok (.iload_n 1, 1) := by decide +kernel
theorem d_Ve_has_1 : decode c_Ve_has 1 = .ok (.ifCond .lt 15, 3) := by decide +kernel
theorem d_Ve_has_4 : decode c_Ve_has 4 = .ok (.iload_n 1, 1) := by decide +kernel
theorem d_Ve_has_5 : decode c_Ve_has 5 = .ok (.aload_n 0, 1) := by decide +kernel
theorem d_Ve_has_6 : decode c_Ve_has 6 = .ok (.getfield 13, 3) := by decide +kernel
theorem d_Ve_has_9 : decode c_Ve_has 9 = .ok (.if_icmp .ge 7, 3) := by decide +kernel
theorem d_Ve_has_12 : decode c_Ve_has 12 = .ok (.iconst 1, 1) := by decide +kernel
theorem d_Ve_has_13 : decode c_Ve_has 13 = .ok (.goto 4, 3) := by decide +kernel
theorem d_Ve_has_16 : decode c_Ve_has 16 = .ok (.iconst 0, 1) := by decide +kernel
theorem d_Ve_has_17 : decode c_Ve_has 17 = .ok (.ireturn, 1) := by decide +kernel
theorem d_Ve_hasPart_0 : decode c_Ve_hasPart 0 = .ok (.iload_n 1, 1) := by decide +kernel
theorem d_Ve_hasPart_1 : decode c_Ve_hasPart 1 = .ok (.ifCond .lt 24, 3) := by decide +kernel
theorem d_Ve_hasPart_4 : decode c_Ve_hasPart 4 = .ok (.iload_n 1, 1) := by decide +kernel
theorem d_Ve_hasPart_5 : decode c_Ve_hasPart 5 = .ok (.aload_n 0, 1) := by decide +kernel
theorem d_Ve_hasPart_6 : decode c_Ve_hasPart 6 = .ok (.getfield 13, 3) := by decide +kernel
theorem d_Ve_hasPart_9 : decode c_Ve_hasPart 9 = .ok (.if_icmp .ge 16, 3) := by decide +kernel
theorem d_Ve_hasPart_12 : decode c_Ve_hasPart 12 = .ok (.iload_n 2, 1) := by decide +kernel
theorem d_Ve_hasPart_13 : decode c_Ve_hasPart 13 = .ok (.ifCond .lt 12, 3) := by decide +kernel
theorem d_Ve_hasPart_16 : decode c_Ve_hasPart 16 = .ok (.iload_n 2, 1) := by decide +kernel
theorem d_Ve_hasPart_17 : decode c_Ve_hasPart 17 = .ok (.iconst 4, 1) := by decide +kernel
theorem d_Ve_hasPart_18 : decode c_Ve_hasPart 18 = .ok (.if_icmp .ge 7, 3) := by decide +kernel
theorem d_Ve_hasPart_21 : decode c_Ve_hasPart 21 = .ok (.iconst 1, 1) := by decide +kernel
theorem d_Ve_hasPart_22 : decode c_Ve_hasPart 22 = .ok (.goto 4, 3) := by decide +kernel
theorem d_Ve_hasPart_25 : decode c_Ve_hasPart 25 = .ok (.iconst 0, 1) := by decide +kernel
theorem d_Ve_hasPart_26 : decode c_Ve_hasPart 26 = .ok (.ireturn, 1) := by decide +kernel
theorem d_Ve_part_0 : decode c_Ve_part 0 = .ok (.aload_n 0, 1) := by decide +kernel
theorem d_Ve_part_1 : decode c_Ve_part 1 = .ok (.iload_n 1, 1) := by decide +kernel
theorem d_Ve_part_2 : decode c_Ve_part 2 = .ok (.iload_n 2, 1) := by decide +kernel
theorem d_Ve_part_3 : decode c_Ve_part 3 = .ok (.invokevirtual 23, 3) := by decide +kernel
theorem d_Ve_part_6 : decode c_Ve_part 6 = .ok (.ifCond .eq 16, 3) := by decide +kernel
theorem d_Ve_part_9 : decode c_Ve_part 9 = .ok (.aload_n 0, 1) := by decide +kernel
theorem d_Ve_part_10 : decode c_Ve_part 10 = .ok (.getfield 19, 3) := by decide +kernel
theorem d_Ve_part_13 : decode c_Ve_part 13 = .ok (.iconst 4, 1) := by decide +kernel
theorem d_Ve_part_14 : decode c_Ve_part 14 = .ok (.iload_n 1, 1) := by decide +kernel
theorem d_Ve_part_15 : decode c_Ve_part 15 = .ok (.imul, 1) := by decide +kernel
theorem d_Ve_part_16 : decode c_Ve_part 16 = .ok (.iload_n 2, 1) := by decide +kernel
theorem d_Ve_part_17 : decode c_Ve_part 17 = .ok (.iadd, 1) := by decide +kernel
theorem d_Ve_part_18 : decode c_Ve_part 18 = .ok (.iaload, 1) := by decide +kernel
theorem d_Ve_part_19 : decode c_Ve_part 19 = .ok (.goto 4, 3) := by decide +kernel
theorem d_Ve_part_22 : decode c_Ve_part 22 = .ok (.iconst 0, 1) := by decide +kernel
theorem d_Ve_part_23 : decode c_Ve_part 23 = .ok (.ireturn, 1) := by decide +kernel
theorem d_Ve_pick_0 : decode c_Ve_pick 0 = .ok (.aload_n 0, 1) := by decide +kernel
theorem d_Ve_pick_1 : decode c_Ve_pick 1 = .ok (.iload_n 1, 1) := by decide +kernel
theorem d_Ve_pick_2 : decode c_Ve_pick 2 = .ok (.invokevirtual 27, 3) := by decide +kernel
theorem d_Ve_pick_5 : decode c_Ve_pick 5 = .ok (.istore 4, 2) := by decide +kernel
theorem d_Ve_pick_7 : decode c_Ve_pick 7 = .ok (.iconst 0, 1) := by decide +kernel
theorem d_Ve_pick_8 : decode c_Ve_pick 8 = .ok (.istore 5, 2) := by decide +kernel
theorem d_Ve_pick_10 : decode c_Ve_pick 10 = .ok (.iload 5, 2) := by decide +kernel
theorem d_Ve_pick_12 : decode c_Ve_pick 12 = .ok (.aload_n 3, 1) := by decide +kernel
theorem d_Ve_pick_13 : decode c_Ve_pick 13 = .ok (.arraylength, 1) := by decide +kernel
theorem d_Ve_pick_14 : decode c_Ve_pick 14 = .ok (.if_icmp .ge 39, 3) := by decide +kernel
theorem d_Ve_pick_17 : decode c_Ve_pick 17 = .ok (.aload_n 3, 1) := by decide +kernel
theorem d_Ve_pick_18 : decode c_Ve_pick 18 = .ok (.iload 5, 2) := by decide +kernel
theorem d_Ve_pick_20 : decode c_Ve_pick 20 = .ok (.iload 4, 2) := by decide +kernel
theorem d_Ve_pick_22 : decode c_Ve_pick 22 = .ok (.ifCond .eq 23, 3) := by decide +kernel
theorem d_Ve_pick_25 : decode c_Ve_pick 25 = .ok (.aload_n 0, 1) := by decide +kernel
theorem d_Ve_pick_26 : decode c_Ve_pick 26 = .ok (.getfield 19, 3) := by decide +kernel
theorem d_Ve_pick_29 : decode c_Ve_pick 29 = .ok (.iconst 4, 1) := by decide +kernel
theorem d_Ve_pick_30 : decode c_Ve_pick 30 = .ok (.iload_n 1, 1) := by decide +kernel
theorem d_Ve_pick_31 : decode c_Ve_pick 31 = .ok (.imul, 1) := by decide +kernel
theorem d_Ve_pick_32 : decode c_Ve_pick 32 = .ok (.iload_n 2, 1) := by decide +kernel
theorem d_Ve_pick_33 : decode c_Ve_pick 33 = .ok (.iconst 2, 1) := by decide +kernel
theorem d_Ve_pick_34 : decode c_Ve_pick 34 = .ok (.iload 5, 2) := by decide +kernel
theorem d_Ve_pick_36 : decode c_Ve_pick 36 = .ok (.imul, 1) := by decide +kernel
theorem d_Ve_pick_37 : decode c_Ve_pick 37 = .ok (.ishr, 1) := by decide +kernel
theorem d_Ve_pick_38 : decode c_Ve_pick 38 = .ok (.iconst 3, 1) := by decide +kernel
theorem d_Ve_pick_39 : decode c_Ve_pick 39 = .ok (.iand, 1) := by decide +kernel
theorem d_Ve_pick_40 : decode c_Ve_pick 40 = .ok (.iadd, 1) := by decide +kernel
theorem d_Ve_pick_41 : decode c_Ve_pick 41 = .ok (.iaload, 1) := by decide +kernel
theorem d_Ve_pick_42 : decode c_Ve_pick 42 = .ok (.goto 4, 3) := by decide +kernel
theorem d_Ve_pick_45 : decode c_Ve_pick 45 = .ok (.iconst 0, 1) := by decide +kernel
theorem d_Ve_pick_46 : decode c_Ve_pick 46 = .ok (.iastore, 1) := by decide +kernel
theorem d_Ve_pick_47 : decode c_Ve_pick 47 = .ok (.iinc 5 1, 3) := by decide +kernel
theorem d_Ve_pick_50 : decode c_Ve_pick 50 = .ok (.goto (-40), 3) := by decide +kernel
theorem d_Ve_pick_53 : decode c_Ve_pick 53 = .ok (.return_, 1) := by decide +kernel
theorem d_Ve_setPart_0 : decode c_Ve_setPart 0 = .ok (.aload_n 0, 1) := by decide +kernel
theorem d_Ve_setPart_1 : decode c_Ve_setPart 1 = .ok (.iload_n 1, 1) := by decide +kernel
theorem d_Ve_setPart_2 : decode c_Ve_setPart 2 = .ok (.iload_n 2, 1) := by decide +kernel
theorem d_Ve_setPart_3 : decode c_Ve_setPart 3 = .ok (.invokevirtual 23, 3) := by decide +kernel
theorem d_Ve_setPart_6 : decode c_Ve_setPart 6 = .ok (.ifCond .eq 14, 3) := by decide +kernel
theorem d_Ve_setPart_9 : decode c_Ve_setPart 9 = .ok (.aload_n 0, 1) := by decide +kernel
theorem d_Ve_setPart_10 : decode c_Ve_setPart 10 = .ok (.getfield 19, 3) := by decide +kernel
theorem d_Ve_setPart_13 : decode c_Ve_setPart 13 = .ok (.iconst 4, 1) := by decide +kernel
theorem d_Ve_setPart_14 : decode c_Ve_setPart 14 = .ok (.iload_n 1, 1) := by decide +kernel
theorem d_Ve_setPart_15 : decode c_Ve_setPart 15 = .ok (.imul, 1) := by decide +kernel
theorem d_Ve_setPart_16 : decode c_Ve_setPart 16 = .ok (.iload_n 2, 1) := by decide +kernel
theorem d_Ve_setPart_17 : decode c_Ve_setPart 17 = .ok (.iadd, 1) := by decide +kernel
theorem d_Ve_setPart_18 : decode c_Ve_setPart 18 = .ok (.iload_n 3, 1) := by decide +kernel
theorem d_Ve_setPart_19 : decode c_Ve_setPart 19 = .ok (.iastore, 1) := by decide +kernel
theorem d_Ve_setPart_20 : decode c_Ve_setPart 20 = .ok (.return_, 1) := by decide +kernel
theorem d_Ve_set_0 : decode c_Ve_set 0 = .ok (.aload_n 0, 1) := by decide +kernel
theorem d_Ve_set_1 : decode c_Ve_set 1 = .ok (.iload_n 1, 1) := by decide +kernel
theorem d_Ve_set_2 : decode c_Ve_set 2 = .ok (.iconst 0, 1) := by decide +kernel
theorem d_Ve_set_3 : decode c_Ve_set 3 = .ok (.iload_n 2, 1) := by decide +kernel
theorem d_Ve_set_4 : decode c_Ve_set 4 = .ok (.invokevirtual 31, 3) := by decide +kernel
theorem d_Ve_set_7 : decode c_Ve_set 7 = .ok (.aload_n 0, 1) := by decide +kernel
theorem d_Ve_set_8 : decode c_Ve_set 8 = .ok (.iload_n 1, 1) := by decide +kernel
theorem d_Ve_set_9 : decode c_Ve_set 9 = .ok (.iconst 1, 1) := by decide +kernel
theorem d_Ve_set_10 : decode c_Ve_set 10 = .ok (.iload_n 3, 1) := by decide +kernel
theorem d_Ve_set_11 : decode c_Ve_set 11 = .ok (.invokevirtual 31, 3) := by decide +kernel
theorem d_Ve_set_14 : decode c_Ve_set 14 = .ok (.aload_n 0, 1) := by decide +kernel
theorem d_Ve_set_15 : decode c_Ve_set 15 = .ok (.iload_n 1, 1) := by decide +kernel
theorem d_Ve_set_16 : decode c_Ve_set 16 = .ok (.iconst 2, 1) := by decide +kernel
theorem d_Ve_set_17 : decode c_Ve_set 17 = .ok (.iload 4, 2) := by decide +kernel
theorem d_Ve_set_19 : decode c_Ve_set 19 = .ok (.invokevirtual 31, 3) := by decide +kernel
theorem d_Ve_set_22 : decode c_Ve_set 22 = .ok (.aload_n 0, 1) := by decide +kernel
theorem d_Ve_set_23 : decode c_Ve_set 23 = .ok (.iload_n 1, 1) := by decide +kernel
theorem d_Ve_set_24 : decode c_Ve_set 24 = .ok (.iconst 3, 1) := by decide +kernel
theorem d_Ve_set_25 : decode c_Ve_set 25 = .ok (.iload 5, 2) := by decide +kernel
theorem d_Ve_set_27 : decode c_Ve_set 27 = .ok (.invokevirtual 31, 3) := by decide +kernel
theorem d_Ve_set_30 : decode c_Ve_set 30 = .ok (.return_, 1) := by decide +kernel
theorem d_Ar_fill_0 : decode c_Ar_fill 0 = .ok (.iconst 0, 1) := by decide +kernel
theorem d_Ar_fill_1 : decode c_Ar_fill 1 = .ok (.istore_n 2, 1) := by decide +kernel
theorem d_Ar_fill_2 : decode c_Ar_fill 2 = .ok (.aload_n 0, 1) := by decide +kernel
theorem d_Ar_fill_3 : decode c_Ar_fill 3 = .ok (.arraylength, 1) := by decide +kernel
theorem d_Ar_fill_4 : decode c_Ar_fill 4 = .ok (.istore_n 3, 1) := by decide +kernel
theorem d_Ar_fill_5 : decode c_Ar_fill 5 = .ok (.iload_n 2, 1) := by decide +kernel
theorem d_Ar_fill_6 : decode c_Ar_fill 6 = .ok (.iload_n 3, 1) := by decide +kernel
theorem d_Ar_fill_7 : decode c_Ar_fill 7 = .ok (.if_icmp .ge 13, 3) := by decide +kernel
theorem d_Ar_fill_10 : decode c_Ar_fill 10 = .ok (.aload_n 0, 1) := by decide +kernel
theorem d_Ar_fill_11 : decode c_Ar_fill 11 = .ok (.iload_n 2, 1) := by decide +kernel
theorem d_Ar_fill_12 : decode c_Ar_fill 12 = .ok (.iload_n 1, 1) := by decide +kernel
theorem d_Ar_fill_13 : decode c_Ar_fill 13 = .ok (.iastore, 1) := by decide +kernel
theorem d_Ar_fill_14 : decode c_Ar_fill 14 = .ok (.iinc 2 1, 3) := by decide +kernel
theorem d_Ar_fill_17 : decode c_Ar_fill 17 = .ok (.goto (-12), 3) := by decide +kernel
theorem d_Ar_fill_20 : decode c_Ar_fill 20 = .ok (.return_, 1) := by decide +kernel
theorem d_Ve_clear_0 : decode c_Ve_clear 0 = .ok (.aload_n 0, 1) := by decide +kernel
theorem d_Ve_clear_1 : decode c_Ve_clear 1 = .ok (.getfield 19, 3) := by decide +kernel
theorem d_Ve_clear_4 : decode c_Ve_clear 4 = .ok (.iconst 0, 1) := by decide +kernel
theorem d_Ve_clear_5 : decode c_Ve_clear 5 = .ok (.invokestatic 35, 3) := by decide +kernel
theorem d_Ve_clear_8 : decode c_Ve_clear 8 = .ok (.return_, 1) := by decide +kernel
theorem d_St_hasWord_0 : decode c_St_hasWord 0 = .ok (.iload_n 1, 1) := by decide +kernel
theorem d_St_hasWord_1 : decode c_St_hasWord 1 = .ok (.ifCond .lt 14, 3) := by decide +kernel
theorem d_St_hasWord_4 : decode c_St_hasWord 4 = .ok (.iload_n 1, 1) := by decide +kernel
theorem d_St_hasWord_5 : decode c_St_hasWord 5 = .ok (.sipush 1024, 3) := by decide +kernel
theorem d_St_hasWord_8 : decode c_St_hasWord 8 = .ok (.if_icmp .ge 7, 3) := by decide +kernel
theorem d_St_hasWord_11 : decode c_St_hasWord 11 = .ok (.iconst 1, 1) := by decide +kernel
theorem d_St_hasWord_12 : decode c_St_hasWord 12 = .ok (.goto 4, 3) := by decide +kernel
theorem d_St_hasWord_15 : decode c_St_hasWord 15 = .ok (.iconst 0, 1) := by decide +kernel
theorem d_St_hasWord_16 : decode c_St_hasWord 16 = .ok (.ireturn, 1) := by decide +kernel
theorem d_St_word_0 : decode c_St_word 0 = .ok (.aload_n 0, 1) := by decide +kernel
theorem d_St_word_1 : decode c_St_word 1 = .ok (.iload_n 1, 1) := by decide +kernel
theorem d_St_word_2 : decode c_St_word 2 = .ok (.invokevirtual 37, 3) := by decide +kernel
theorem d_St_word_5 : decode c_St_word 5 = .ok (.ifCond .eq 12, 3) := by decide +kernel
theorem d_St_word_8 : decode c_St_word 8 = .ok (.aload_n 0, 1) := by decide +kernel
theorem d_St_word_9 : decode c_St_word 9 = .ok (.getfield 9, 3) := by decide +kernel
theorem d_St_word_12 : decode c_St_word 12 = .ok (.iload_n 1, 1) := by decide +kernel
theorem d_St_word_13 : decode c_St_word 13 = .ok (.iaload, 1) := by decide +kernel
theorem d_St_word_14 : decode c_St_word 14 = .ok (.goto 4, 3) := by decide +kernel
theorem d_St_word_17 : decode c_St_word 17 = .ok (.iconst 0, 1) := by decide +kernel
theorem d_St_word_18 : decode c_St_word 18 = .ok (.ireturn, 1) := by decide +kernel
theorem d_St_setWord_0 : decode c_St_setWord 0 = .ok (.aload_n 0, 1) := by decide +kernel
theorem d_St_setWord_1 : decode c_St_setWord 1 = .ok (.iload_n 1, 1) := by decide +kernel
theorem d_St_setWord_2 : decode c_St_setWord 2 = .ok (.invokevirtual 37, 3) := by decide +kernel
theorem d_St_setWord_5 : decode c_St_setWord 5 = .ok (.ifCond .eq 10, 3) := by decide +kernel
theorem d_St_setWord_8 : decode c_St_setWord 8 = .ok (.aload_n 0, 1) := by decide +kernel
theorem d_St_setWord_9 : decode c_St_setWord 9 = .ok (.getfield 9, 3) := by decide +kernel
theorem d_St_setWord_12 : decode c_St_setWord 12 = .ok (.iload_n 1, 1) := by decide +kernel
theorem d_St_setWord_13 : decode c_St_setWord 13 = .ok (.iload_n 2, 1) := by decide +kernel
theorem d_St_setWord_14 : decode c_St_setWord 14 = .ok (.iastore, 1) := by decide +kernel
theorem d_St_setWord_15 : decode c_St_setWord 15 = .ok (.return_, 1) := by decide +kernel
theorem d_St_sourceFile_0 : decode c_St_sourceFile 0 = .ok (.iload_n 1, 1) := by decide +kernel
theorem d_St_sourceFile_1 : decode c_St_sourceFile 1 = .ok (.tableswitch 42 0 2 #[27, 32, 37], 27) := by decide +kernel
theorem d_St_sourceFile_28 : decode c_St_sourceFile 28 = .ok (.aload_n 0, 1) := by decide +kernel
theorem d_St_sourceFile_29 : decode c_St_sourceFile 29 = .ok (.getfield 18, 3) := by decide +kernel
theorem d_St_sourceFile_32 : decode c_St_sourceFile 32 = .ok (.areturn, 1) := by decide +kernel
theorem d_St_sourceFile_33 : decode c_St_sourceFile 33 = .ok (.aload_n 0, 1) := by decide +kernel
theorem d_St_sourceFile_34 : decode c_St_sourceFile 34 = .ok (.getfield 22, 3) := by decide +kernel
theorem d_St_sourceFile_37 : decode c_St_sourceFile 37 = .ok (.areturn, 1) := by decide +kernel
theorem d_St_sourceFile_38 : decode c_St_sourceFile 38 = .ok (.aload_n 0, 1) := by decide +kernel
theorem d_St_sourceFile_39 : decode c_St_sourceFile 39 = .ok (.getfield 28, 3) := by decide +kernel
theorem d_St_sourceFile_42 : decode c_St_sourceFile 42 = .ok (.areturn, 1) := by decide +kernel
theorem d_St_sourceFile_43 : decode c_St_sourceFile 43 = .ok (.aload_n 0, 1) := by decide +kernel
theorem d_St_sourceFile_44 : decode c_St_sourceFile 44 = .ok (.getfield 34, 3) := by decide +kernel
theorem d_St_sourceFile_47 : decode c_St_sourceFile 47 = .ok (.areturn, 1) := by decide +kernel
theorem d_St_targetFile_0 : decode c_St_targetFile 0 = .ok (.iload_n 1, 1) := by decide +kernel
theorem d_St_targetFile_1 : decode c_St_targetFile 1 = .ok (.iconst 1, 1) := by decide +kernel
theorem d_St_targetFile_2 : decode c_St_targetFile 2 = .ok (.if_icmp .ne 10, 3) := by decide +kernel
theorem d_St_targetFile_5 : decode c_St_targetFile 5 = .ok (.aload_n 0, 1) := by decide +kernel
theorem d_St_targetFile_6 : decode c_St_targetFile 6 = .ok (.getfield 25, 3) := by decide +kernel
theorem d_St_targetFile_9 : decode c_St_targetFile 9 = .ok (.goto 7, 3) := by decide +kernel
theorem d_St_targetFile_12 : decode c_St_targetFile 12 = .ok (.aload_n 0, 1) := by decide +kernel
theorem d_St_targetFile_13 : decode c_St_targetFile 13 = .ok (.getfield 18, 3) := by decide +kernel
theorem d_St_targetFile_16 : decode c_St_targetFile 16 = .ok (.areturn, 1) := by decide +kernel
theorem d_Lo_clear_0 : decode c_Lo_clear 0 = .ok (.aload_n 0, 1) := by decide +kernel
theorem d_Lo_clear_1 : decode c_Lo_clear 1 = .ok (.iconst 0, 1) := by decide +kernel
theorem d_Lo_clear_2 : decode c_Lo_clear 2 = .ok (.putfield 19, 3) := by decide +kernel
theorem d_Lo_clear_5 : decode c_Lo_clear 5 = .ok (.return_, 1) := by decide +kernel
theorem d_Lo_isEmpty_0 : decode c_Lo_isEmpty 0 = .ok (.aload_n 0, 1) := by decide +kernel
theorem d_Lo_isEmpty_1 : decode c_Lo_isEmpty 1 = .ok (.getfield 19, 3) := by decide +kernel
theorem d_Lo_isEmpty_4 : decode c_Lo_isEmpty 4 = .ok (.ifCond .ne 7, 3) := by decide +kernel
theorem d_Lo_isEmpty_7 : decode c_Lo_isEmpty 7 = .ok (.iconst 1, 1) := by decide +kernel
theorem d_Lo_isEmpty_8 : decode c_Lo_isEmpty 8 = .ok (.goto 4, 3) := by decide +kernel
theorem d_Lo_isEmpty_11 : decode c_Lo_isEmpty 11 = .ok (.iconst 0, 1) := by decide +kernel
theorem d_Lo_isEmpty_12 : decode c_Lo_isEmpty 12 = .ok (.ireturn, 1) := by decide +kernel
theorem d_Lo_isFull_0 : decode c_Lo_isFull 0 = .ok (.aload_n 0, 1) := by decide +kernel
theorem d_Lo_isFull_1 : decode c_Lo_isFull 1 = .ok (.getfield 19, 3) := by decide +kernel
theorem d_Lo_isFull_4 : decode c_Lo_isFull 4 = .ok (.iconst 4, 1) := by decide +kernel
theorem d_Lo_isFull_5 : decode c_Lo_isFull 5 = .ok (.if_icmp .ne 7, 3) := by decide +kernel
theorem d_Lo_isFull_8 : decode c_Lo_isFull 8 = .ok (.iconst 1, 1) := by decide +kernel
theorem d_Lo_isFull_9 : decode c_Lo_isFull 9 = .ok (.goto 4, 3) := by decide +kernel
theorem d_Lo_isFull_12 : decode c_Lo_isFull 12 = .ok (.iconst 0, 1) := by decide +kernel
theorem d_Lo_isFull_13 : decode c_Lo_isFull 13 = .ok (.ireturn, 1) := by decide +kernel
theorem d_Lo_open_0 : decode c_Lo_open 0 = .ok (.aload_n 0, 1) := by decide +kernel
theorem d_Lo_open_1 : decode c_Lo_open 1 = .ok (.getfield 19, 3) := by decide +kernel
theorem d_Lo_open_4 : decode c_Lo_open 4 = .ok (.ifCond .lt 41, 3) := by decide +kernel
theorem d_Lo_open_7 : decode c_Lo_open 7 = .ok (.aload_n 0, 1) := by decide +kernel
theorem d_Lo_open_8 : decode c_Lo_open 8 = .ok (.getfield 19, 3) := by decide +kernel
theorem d_Lo_open_11 : decode c_Lo_open 11 = .ok (.iconst 4, 1) := by decide +kernel
theorem d_Lo_open_12 : decode c_Lo_open 12 = .ok (.if_icmp .ge 33, 3) := by decide +kernel
theorem d_Lo_open_15 : decode c_Lo_open 15 = .ok (.aload_n 0, 1) := by decide +kernel
theorem d_Lo_open_16 : decode c_Lo_open 16 = .ok (.getfield 11, 3) := by decide +kernel
theorem d_Lo_open_19 : decode c_Lo_open 19 = .ok (.aload_n 0, 1) := by decide +kernel
theorem d_Lo_open_20 : decode c_Lo_open 20 = .ok (.getfield 19, 3) := by decide +kernel
theorem d_Lo_open_23 : decode c_Lo_open 23 = .ok (.iload_n 1, 1) := by decide +kernel
theorem d_Lo_open_24 : decode c_Lo_open 24 = .ok (.iastore, 1) := by decide +kernel
theorem d_Lo_open_25 : decode c_Lo_open 25 = .ok (.aload_n 0, 1) := by decide +kernel
theorem d_Lo_open_26 : decode c_Lo_open 26 = .ok (.getfield 15, 3) := by decide +kernel
theorem d_Lo_open_29 : decode c_Lo_open 29 = .ok (.aload_n 0, 1) := by decide +kernel
theorem d_Lo_open_30 : decode c_Lo_open 30 = .ok (.getfield 19, 3) := by decide +kernel
theorem d_Lo_open_33 : decode c_Lo_open 33 = .ok (.lload_n 2, 1) := by decide +kernel
theorem d_Lo_open_34 : decode c_Lo_open 34 = .ok (.lastore, 1) := by decide +kernel
theorem d_Lo_open_35 : decode c_Lo_open 35 = .ok (.aload_n 0, 1) := by decide +kernel
theorem d_Lo_open_36 : decode c_Lo_open 36 = .ok (.dup, 1) := by decide +kernel
theorem d_Lo_open_37 : decode c_Lo_open 37 = .ok (.getfield 19, 3) := by decide +kernel
theorem d_Lo_open_40 : decode c_Lo_open 40 = .ok (.iconst 1, 1) := by decide +kernel
theorem d_Lo_open_41 : decode c_Lo_open 41 = .ok (.iadd, 1) := by decide +kernel
theorem d_Lo_open_42 : decode c_Lo_open 42 = .ok (.putfield 19, 3) := by decide +kernel
theorem d_Lo_open_45 : decode c_Lo_open 45 = .ok (.return_, 1) := by decide +kernel
theorem d_Lo_close_0 : decode c_Lo_close 0 = .ok (.aload_n 0, 1) := by decide +kernel
theorem d_Lo_close_1 : decode c_Lo_close 1 = .ok (.getfield 19, 3) := by decide +kernel
theorem d_Lo_close_4 : decode c_Lo_close 4 = .ok (.ifCond .le 13, 3) := by decide +kernel
theorem d_Lo_close_7 : decode c_Lo_close 7 = .ok (.aload_n 0, 1) := by decide +kernel
theorem d_Lo_close_8 : decode c_Lo_close 8 = .ok (.dup, 1) := by decide +kernel
theorem d_Lo_close_9 : decode c_Lo_close 9 = .ok (.getfield 19, 3) := by decide +kernel
theorem d_Lo_close_12 : decode c_Lo_close 12 = .ok (.iconst 1, 1) := by decide +kernel
theorem d_Lo_close_13 : decode c_Lo_close 13 = .ok (.isub, 1) := by decide +kernel
