theorem d_Lo_close_14 : decode c_Lo_close 14 = .ok (.putfield 19, 3) := by decide +kernel
theorem d_Lo_close_17 : decode c_Lo_close 17 = .ok (.return_, 1) := by decide +kernel
theorem d_Lo_innermost_0 : decode c_Lo_innermost 0 = .ok (.aload_n 0, 1) := by decide +kernel
theorem d_Lo_innermost_1 : decode c_Lo_innermost 1 = .ok (.getfield 19, 3) := by decide +kernel
theorem d_Lo_innermost_4 : decode c_Lo_innermost 4 = .ok (.ifCond .le 25, 3) := by decide +kernel
theorem d_Lo_innermost_7 : decode c_Lo_innermost 7 = .ok (.aload_n 0, 1) := by decide +kernel
theorem d_Lo_innermost_8 : decode c_Lo_innermost 8 = .ok (.getfield 19, 3) := by decide +kernel
theorem d_Lo_innermost_11 : decode c_Lo_innermost 11 = .ok (.iconst 4, 1) := by decide +kernel
theorem d_Lo_innermost_12 : decode c_Lo_innermost 12 = .ok (.if_icmp .gt 17, 3) := by decide +kernel
theorem d_Lo_innermost_15 : decode c_Lo_innermost 15 = .ok (.aload_n 0, 1) := by decide +kernel
theorem d_Lo_innermost_16 : decode c_Lo_innermost 16 = .ok (.getfield 11, 3) := by decide +kernel
theorem d_Lo_innermost_19 : decode c_Lo_innermost 19 = .ok (.aload_n 0, 1) := by decide +kernel
theorem d_Lo_innermost_20 : decode c_Lo_innermost 20 = .ok (.getfield 19, 3) := by decide +kernel
theorem d_Lo_innermost_23 : decode c_Lo_innermost 23 = .ok (.iconst 1, 1) := by decide +kernel
theorem d_Lo_innermost_24 : decode c_Lo_innermost 24 = .ok (.isub, 1) := by decide +kernel
theorem d_Lo_innermost_25 : decode c_Lo_innermost 25 = .ok (.iaload, 1) := by decide +kernel
theorem d_Lo_innermost_26 : decode c_Lo_innermost 26 = .ok (.goto 4, 3) := by decide +kernel
theorem d_Lo_innermost_29 : decode c_Lo_innermost 29 = .ok (.iconst (-1), 1) := by decide +kernel
theorem d_Lo_innermost_30 : decode c_Lo_innermost 30 = .ok (.ireturn, 1) := by decide +kernel
theorem d_Lo_count_0 : decode c_Lo_count 0 = .ok (.aload_n 0, 1) := by decide +kernel
theorem d_Lo_count_1 : decode c_Lo_count 1 = .ok (.getfield 19, 3) := by decide +kernel
theorem d_Lo_count_4 : decode c_Lo_count 4 = .ok (.ifCond .le 25, 3) := by decide +kernel
theorem d_Lo_count_7 : decode c_Lo_count 7 = .ok (.aload_n 0, 1) := by decide +kernel
theorem d_Lo_count_8 : decode c_Lo_count 8 = .ok (.getfield 19, 3) := by decide +kernel
theorem d_Lo_count_11 : decode c_Lo_count 11 = .ok (.iconst 4, 1) := by decide +kernel
theorem d_Lo_count_12 : decode c_Lo_count 12 = .ok (.if_icmp .gt 17, 3) := by decide +kernel
theorem d_Lo_count_15 : decode c_Lo_count 15 = .ok (.aload_n 0, 1) := by decide +kernel
theorem d_Lo_count_16 : decode c_Lo_count 16 = .ok (.getfield 15, 3) := by decide +kernel
theorem d_Lo_count_19 : decode c_Lo_count 19 = .ok (.aload_n 0, 1) := by decide +kernel
theorem d_Lo_count_20 : decode c_Lo_count 20 = .ok (.getfield 19, 3) := by decide +kernel
theorem d_Lo_count_23 : decode c_Lo_count 23 = .ok (.iconst 1, 1) := by decide +kernel
theorem d_Lo_count_24 : decode c_Lo_count 24 = .ok (.isub, 1) := by decide +kernel
theorem d_Lo_count_25 : decode c_Lo_count 25 = .ok (.laload, 1) := by decide +kernel
theorem d_Lo_count_26 : decode c_Lo_count 26 = .ok (.goto 4, 3) := by decide +kernel
theorem d_Lo_count_29 : decode c_Lo_count 29 = .ok (.lconst 1, 1) := by decide +kernel
theorem d_Lo_count_30 : decode c_Lo_count 30 = .ok (.lreturn, 1) := by decide +kernel
theorem d_Lo_setCount_0 : decode c_Lo_setCount 0 = .ok (.aload_n 0, 1) := by decide +kernel
theorem d_Lo_setCount_1 : decode c_Lo_setCount 1 = .ok (.getfield 19, 3) := by decide +kernel
theorem d_Lo_setCount_4 : decode c_Lo_setCount 4 = .ok (.ifCond .le 23, 3) := by decide +kernel
theorem d_Lo_setCount_7 : decode c_Lo_setCount 7 = .ok (.aload_n 0, 1) := by decide +kernel
theorem d_Lo_setCount_8 : decode c_Lo_setCount 8 = .ok (.getfield 19, 3) := by decide +kernel
theorem d_Lo_setCount_11 : decode c_Lo_setCount 11 = .ok (.iconst 4, 1) := by decide +kernel
theorem d_Lo_setCount_12 : decode c_Lo_setCount 12 = .ok (.if_icmp .gt 15, 3) := by decide +kernel
theorem d_Lo_setCount_15 : decode c_Lo_setCount 15 = .ok (.aload_n 0, 1) := by decide +kernel
theorem d_Lo_setCount_16 : decode c_Lo_setCount 16 = .ok (.getfield 15, 3) := by decide +kernel
theorem d_Lo_setCount_19 : decode c_Lo_setCount 19 = .ok (.aload_n 0, 1) := by decide +kernel
theorem d_Lo_setCount_20 : decode c_Lo_setCount 20 = .ok (.getfield 19, 3) := by decide +kernel
theorem d_Lo_setCount_23 : decode c_Lo_setCount 23 = .ok (.iconst 1, 1) := by decide +kernel
theorem d_Lo_setCount_24 : decode c_Lo_setCount 24 = .ok (.isub, 1) := by decide +kernel
theorem d_Lo_setCount_25 : decode c_Lo_setCount 25 = .ok (.lload_n 1, 1) := by decide +kernel
theorem d_Lo_setCount_26 : decode c_Lo_setCount 26 = .ok (.lastore, 1) := by decide +kernel
theorem d_Lo_setCount_27 : decode c_Lo_setCount 27 = .ok (.return_, 1) := by decide +kernel
theorem d_Pr_read_0 : decode c_Pr_read 0 = .ok (.aload_n 0, 1) := by decide +kernel
theorem d_Pr_read_1 : decode c_Pr_read 1 = .ok (.iconst 0, 1) := by decide +kernel
theorem d_Pr_read_2 : decode c_Pr_read 2 = .ok (.sipush 256, 3) := by decide +kernel
theorem d_Pr_read_5 : decode c_Pr_read 5 = .ok (.iload_n 3, 1) := by decide +kernel
theorem d_Pr_read_6 : decode c_Pr_read 6 = .ok (.invokestatic 13, 3) := by decide +kernel
theorem d_Pr_read_9 : decode c_Pr_read 9 = .ok (.invokestatic 19, 3) := by decide +kernel
theorem d_Pr_read_12 : decode c_Pr_read 12 = .ok (.putfield 22, 3) := by decide +kernel
theorem d_Pr_read_15 : decode c_Pr_read 15 = .ok (.iconst 0, 1) := by decide +kernel
theorem d_Pr_read_16 : decode c_Pr_read 16 = .ok (.istore 4, 2) := by decide +kernel
theorem d_Pr_read_18 : decode c_Pr_read 18 = .ok (.iload 4, 2) := by decide +kernel
theorem d_Pr_read_20 : decode c_Pr_read 20 = .ok (.iconst 3, 1) := by decide +kernel
theorem d_Pr_read_21 : decode c_Pr_read 21 = .ok (.aload_n 0, 1) := by decide +kernel
theorem d_Pr_read_22 : decode c_Pr_read 22 = .ok (.getfield 22, 3) := by decide +kernel
theorem d_Pr_read_25 : decode c_Pr_read 25 = .ok (.imul, 1) := by decide +kernel
theorem d_Pr_read_26 : decode c_Pr_read 26 = .ok (.if_icmp .ge 24, 3) := by decide +kernel
theorem d_Pr_read_29 : decode c_Pr_read 29 = .ok (.aload_n 0, 1) := by decide +kernel
theorem d_Pr_read_30 : decode c_Pr_read 30 = .ok (.getfield 9, 3) := by decide +kernel
theorem d_Pr_read_33 : decode c_Pr_read 33 = .ok (.iload 4, 2) := by decide +kernel
theorem d_Pr_read_35 : decode c_Pr_read 35 = .ok (.aload_n 1, 1) := by decide +kernel
theorem d_Pr_read_36 : decode c_Pr_read 36 = .ok (.iload_n 2, 1) := by decide +kernel
theorem d_Pr_read_37 : decode c_Pr_read 37 = .ok (.iload 4, 2) := by decide +kernel
theorem d_Pr_read_39 : decode c_Pr_read 39 = .ok (.iadd, 1) := by decide +kernel
theorem d_Pr_read_40 : decode c_Pr_read 40 = .ok (.invokevirtual 26, 3) := by decide +kernel
theorem d_Pr_read_43 : decode c_Pr_read 43 = .ok (.iastore, 1) := by decide +kernel
theorem d_Pr_read_44 : decode c_Pr_read 44 = .ok (.iinc 4 1, 3) := by decide +kernel
theorem d_Pr_read_47 : decode c_Pr_read 47 = .ok (.goto (-29), 3) := by decide +kernel
theorem d_Pr_read_50 : decode c_Pr_read 50 = .ok (.return_, 1) := by decide +kernel
theorem d_Pr_isEmpty_0 : decode c_Pr_isEmpty 0 = .ok (.aload_n 0, 1) := by decide +kernel
theorem d_Pr_isEmpty_1 : decode c_Pr_isEmpty 1 = .ok (.getfield 22, 3) := by decide +kernel
theorem d_Pr_isEmpty_4 : decode c_Pr_isEmpty 4 = .ok (.ifCond .ne 7, 3) := by decide +kernel
theorem d_Pr_isEmpty_7 : decode c_Pr_isEmpty 7 = .ok (.iconst 1, 1) := by decide +kernel
theorem d_Pr_isEmpty_8 : decode c_Pr_isEmpty 8 = .ok (.goto 4, 3) := by decide +kernel
theorem d_Pr_isEmpty_11 : decode c_Pr_isEmpty 11 = .ok (.iconst 0, 1) := by decide +kernel
theorem d_Pr_isEmpty_12 : decode c_Pr_isEmpty 12 = .ok (.ireturn, 1) := by decide +kernel
theorem d_Pr_many_0 : decode c_Pr_many 0 = .ok (.aload_n 0, 1) := by decide +kernel
theorem d_Pr_many_1 : decode c_Pr_many 1 = .ok (.getfield 22, 3) := by decide +kernel
theorem d_Pr_many_4 : decode c_Pr_many 4 = .ok (.ireturn, 1) := by decide +kernel
theorem d_Pr_has_0 : decode c_Pr_has 0 = .ok (.iload_n 1, 1) := by decide +kernel
theorem d_Pr_has_1 : decode c_Pr_has 1 = .ok (.ifCond .lt 15, 3) := by decide +kernel
theorem d_Pr_has_4 : decode c_Pr_has 4 = .ok (.iload_n 1, 1) := by decide +kernel
theorem d_Pr_has_5 : decode c_Pr_has 5 = .ok (.aload_n 0, 1) := by decide +kernel
theorem d_Pr_has_6 : decode c_Pr_has 6 = .ok (.getfield 22, 3) := by decide +kernel
theorem d_Pr_has_9 : decode c_Pr_has 9 = .ok (.if_icmp .ge 7, 3) := by decide +kernel
theorem d_Pr_has_12 : decode c_Pr_has 12 = .ok (.iconst 1, 1) := by decide +kernel
theorem d_Pr_has_13 : decode c_Pr_has 13 = .ok (.goto 4, 3) := by decide +kernel
theorem d_Pr_has_16 : decode c_Pr_has 16 = .ok (.iconst 0, 1) := by decide +kernel
theorem d_Pr_has_17 : decode c_Pr_has 17 = .ok (.ireturn, 1) := by decide +kernel
theorem d_Pr_first_0 : decode c_Pr_first 0 = .ok (.aload_n 0, 1) := by decide +kernel
theorem d_Pr_first_1 : decode c_Pr_first 1 = .ok (.iload_n 1, 1) := by decide +kernel
theorem d_Pr_first_2 : decode c_Pr_first 2 = .ok (.invokevirtual 32, 3) := by decide +kernel
theorem d_Pr_first_5 : decode c_Pr_first 5 = .ok (.ifCond .eq 14, 3) := by decide +kernel
theorem d_Pr_first_8 : decode c_Pr_first 8 = .ok (.aload_n 0, 1) := by decide +kernel
theorem d_Pr_first_9 : decode c_Pr_first 9 = .ok (.getfield 9, 3) := by decide +kernel
theorem d_Pr_first_12 : decode c_Pr_first 12 = .ok (.iconst 3, 1) := by decide +kernel
theorem d_Pr_first_13 : decode c_Pr_first 13 = .ok (.iload_n 1, 1) := by decide +kernel
theorem d_Pr_first_14 : decode c_Pr_first 14 = .ok (.imul, 1) := by decide +kernel
theorem d_Pr_first_15 : decode c_Pr_first 15 = .ok (.iaload, 1) := by decide +kernel
theorem d_Pr_first_16 : decode c_Pr_first 16 = .ok (.goto 4, 3) := by decide +kernel
theorem d_Pr_first_19 : decode c_Pr_first 19 = .ok (.iconst 0, 1) := by decide +kernel
theorem d_Pr_first_20 : decode c_Pr_first 20 = .ok (.ireturn, 1) := by decide +kernel
theorem d_Pr_second_0 : decode c_Pr_second 0 = .ok (.aload_n 0, 1) := by decide +kernel
theorem d_Pr_second_1 : decode c_Pr_second 1 = .ok (.iload_n 1, 1) := by decide +kernel
theorem d_Pr_second_2 : decode c_Pr_second 2 = .ok (.invokevirtual 32, 3) := by decide +kernel
theorem d_Pr_second_5 : decode c_Pr_second 5 = .ok (.ifCond .eq 16, 3) := by decide +kernel
theorem d_Pr_second_8 : decode c_Pr_second 8 = .ok (.aload_n 0, 1) := by decide +kernel
theorem d_Pr_second_9 : decode c_Pr_second 9 = .ok (.getfield 9, 3) := by decide +kernel
theorem d_Pr_second_12 : decode c_Pr_second 12 = .ok (.iconst 3, 1) := by decide +kernel
theorem d_Pr_second_13 : decode c_Pr_second 13 = .ok (.iload_n 1, 1) := by decide +kernel
theorem d_Pr_second_14 : decode c_Pr_second 14 = .ok (.imul, 1) := by decide +kernel
theorem d_Pr_second_15 : decode c_Pr_second 15 = .ok (.iconst 1, 1) := by decide +kernel
theorem d_Pr_second_16 : decode c_Pr_second 16 = .ok (.iadd, 1) := by decide +kernel
theorem d_Pr_second_17 : decode c_Pr_second 17 = .ok (.iaload, 1) := by decide +kernel
theorem d_Pr_second_18 : decode c_Pr_second 18 = .ok (.goto 4, 3) := by decide +kernel
theorem d_Pr_second_21 : decode c_Pr_second 21 = .ok (.iconst 0, 1) := by decide +kernel
theorem d_Pr_second_22 : decode c_Pr_second 22 = .ok (.ireturn, 1) := by decide +kernel
theorem d_Pr_third_0 : decode c_Pr_third 0 = .ok (.aload_n 0, 1) := by decide +kernel
theorem d_Pr_third_1 : decode c_Pr_third 1 = .ok (.iload_n 1, 1) := by decide +kernel
theorem d_Pr_third_2 : decode c_Pr_third 2 = .ok (.invokevirtual 32, 3) := by decide +kernel
theorem d_Pr_third_5 : decode c_Pr_third 5 = .ok (.ifCond .eq 16, 3) := by decide +kernel
theorem d_Pr_third_8 : decode c_Pr_third 8 = .ok (.aload_n 0, 1) := by decide +kernel
theorem d_Pr_third_9 : decode c_Pr_third 9 = .ok (.getfield 9, 3) := by decide +kernel
theorem d_Pr_third_12 : decode c_Pr_third 12 = .ok (.iconst 3, 1) := by decide +kernel
theorem d_Pr_third_13 : decode c_Pr_third 13 = .ok (.iload_n 1, 1) := by decide +kernel
theorem d_Pr_third_14 : decode c_Pr_third 14 = .ok (.imul, 1) := by decide +kernel
theorem d_Pr_third_15 : decode c_Pr_third 15 = .ok (.iconst 2, 1) := by decide +kernel
theorem d_Pr_third_16 : decode c_Pr_third 16 = .ok (.iadd, 1) := by decide +kernel
theorem d_Pr_third_17 : decode c_Pr_third 17 = .ok (.iaload, 1) := by decide +kernel
theorem d_Pr_third_18 : decode c_Pr_third 18 = .ok (.goto 4, 3) := by decide +kernel
theorem d_Pr_third_21 : decode c_Pr_third 21 = .ok (.iconst 0, 1) := by decide +kernel
theorem d_Pr_third_22 : decode c_Pr_third 22 = .ok (.ireturn, 1) := by decide +kernel
theorem d_Pr_kind_0 : decode c_Pr_kind 0 = .ok (.aload_n 0, 1) := by decide +kernel
theorem d_Pr_kind_1 : decode c_Pr_kind 1 = .ok (.iload_n 1, 1) := by decide +kernel
theorem d_Pr_kind_2 : decode c_Pr_kind 2 = .ok (.invokevirtual 36, 3) := by decide +kernel
theorem d_Pr_kind_5 : decode c_Pr_kind 5 = .ok (.bipush 63, 2) := by decide +kernel
theorem d_Pr_kind_7 : decode c_Pr_kind 7 = .ok (.iand, 1) := by decide +kernel
theorem d_Pr_kind_8 : decode c_Pr_kind 8 = .ok (.ireturn, 1) := by decide +kernel
theorem d_Pr_number_0 : decode c_Pr_number 0 = .ok (.aload_n 0, 1) := by decide +kernel
theorem d_Pr_number_1 : decode c_Pr_number 1 = .ok (.iload_n 1, 1) := by decide +kernel
theorem d_Pr_number_2 : decode c_Pr_number 2 = .ok (.invokevirtual 36, 3) := by decide +kernel
theorem d_Pr_number_5 : decode c_Pr_number 5 = .ok (.bipush 17, 2) := by decide +kernel
theorem d_Pr_number_7 : decode c_Pr_number 7 = .ok (.iushr, 1) := by decide +kernel
theorem d_Pr_number_8 : decode c_Pr_number 8 = .ok (.ireturn, 1) := by decide +kernel
theorem d_Ch_found_0 : decode c_Ch_found 0 = .ok (.aload_n 0, 1) := by decide +kernel
theorem d_Ch_found_1 : decode c_Ch_found 1 = .ok (.getfield 24, 3) := by decide +kernel
theorem d_Ch_found_4 : decode c_Ch_found 4 = .ok (.ireturn, 1) := by decide +kernel
theorem d_Ch_place_0 : decode c_Ch_place 0 = .ok (.aload_n 0, 1) := by decide +kernel
theorem d_Ch_place_1 : decode c_Ch_place 1 = .ok (.getfield 28, 3) := by decide +kernel
theorem d_Ch_place_4 : decode c_Ch_place 4 = .ok (.ireturn, 1) := by decide +kernel
theorem d_Ch_steps_0 : decode c_Ch_steps 0 = .ok (.ldc2_w 31, 3) := by decide +kernel
theorem d_Ch_steps_3 : decode c_Ch_steps 3 = .ok (.aload_n 0, 1) := by decide +kernel
theorem d_Ch_steps_4 : decode c_Ch_steps 4 = .ok (.getfield 33, 3) := by decide +kernel
theorem d_Ch_steps_7 : decode c_Ch_steps 7 = .ok (.invokestatic 37, 3) := by decide +kernel
theorem d_Ch_steps_10 : decode c_Ch_steps 10 = .ok (.l2i, 1) := by decide +kernel
theorem d_Ch_steps_11 : decode c_Ch_steps 11 = .ok (.ireturn, 1) := by decide +kernel
theorem d_Ch_tell_0 : decode c_Ch_tell 0 = .ok (.aload_n 0, 1) := by decide +kernel
theorem d_Ch_tell_1 : decode c_Ch_tell 1 = .ok (.iload_n 1, 1) := by decide +kernel
theorem d_Ch_tell_2 : decode c_Ch_tell 2 = .ok (.putfield 24, 3) := by decide +kernel
theorem d_Ch_tell_5 : decode c_Ch_tell 5 = .ok (.aload_n 0, 1) := by decide +kernel
theorem d_Ch_tell_6 : decode c_Ch_tell 6 = .ok (.iload_n 2, 1) := by decide +kernel
theorem d_Ch_tell_7 : decode c_Ch_tell 7 = .ok (.putfield 28, 3) := by decide +kernel
theorem d_Ch_tell_10 : decode c_Ch_tell 10 = .ok (.return_, 1) := by decide +kernel
theorem d_Ch_loopAt_0 : decode c_Ch_loopAt 0 = .ok (.iload_n 1, 1) := by decide +kernel
theorem d_Ch_loopAt_1 : decode c_Ch_loopAt 1 = .ok (.ifCond .lt 21, 3) := by decide +kernel
theorem d_Ch_loopAt_4 : decode c_Ch_loopAt 4 = .ok (.iload_n 1, 1) := by decide +kernel
theorem d_Ch_loopAt_5 : decode c_Ch_loopAt 5 = .ok (.aload_n 0, 1) := by decide +kernel
theorem d_Ch_loopAt_6 : decode c_Ch_loopAt 6 = .ok (.getfield 11, 3) := by decide +kernel
theorem d_Ch_loopAt_9 : decode c_Ch_loopAt 9 = .ok (.arraylength, 1) := by decide +kernel
theorem d_Ch_loopAt_10 : decode c_Ch_loopAt 10 = .ok (.if_icmp .ge 12, 3) := by decide +kernel
theorem d_Ch_loopAt_13 : decode c_Ch_loopAt 13 = .ok (.aload_n 0, 1) := by decide +kernel
theorem d_Ch_loopAt_14 : decode c_Ch_loopAt 14 = .ok (.getfield 11, 3) := by decide +kernel
theorem d_Ch_loopAt_17 : decode c_Ch_loopAt 17 = .ok (.iload_n 1, 1) := by decide +kernel
theorem d_Ch_loopAt_18 : decode c_Ch_loopAt 18 = .ok (.iaload, 1) := by decide +kernel
theorem d_Ch_loopAt_19 : decode c_Ch_loopAt 19 = .ok (.goto 4, 3) := by decide +kernel
theorem d_Ch_loopAt_22 : decode c_Ch_loopAt 22 = .ok (.iconst (-1), 1) := by decide +kernel
theorem d_Ch_loopAt_23 : decode c_Ch_loopAt 23 = .ok (.ireturn, 1) := by decide +kernel
theorem d_Ch_firstStray_0 : decode c_Ch_firstStray 0 = .ok (.iconst 0, 1) := by decide +kernel
theorem d_Ch_firstStray_1 : decode c_Ch_firstStray 1 = .ok (.istore_n 2, 1) := by decide +kernel
theorem d_Ch_firstStray_2 : decode c_Ch_firstStray 2 = .ok (.iload_n 2, 1) := by decide +kernel
theorem d_Ch_firstStray_3 : decode c_Ch_firstStray 3 = .ok (.aload_n 1, 1) := by decide +kernel
theorem d_Ch_firstStray_4 : decode c_Ch_firstStray 4 = .ok (.invokevirtual 50, 3) := by decide +kernel
theorem d_Ch_firstStray_7 : decode c_Ch_firstStray 7 = .ok (.if_icmp .ge 39, 3) := by decide +kernel
theorem d_Ch_firstStray_10 : decode c_Ch_firstStray 10 = .ok (.aload_n 1, 1) := by decide +kernel
theorem d_Ch_firstStray_11 : decode c_Ch_firstStray 11 = .ok (.iload_n 2, 1) := by decide +kernel
theorem d_Ch_firstStray_12 : decode c_Ch_firstStray 12 = .ok (.invokevirtual 77, 3) := by decide +kernel
theorem d_Ch_firstStray_15 : decode c_Ch_firstStray 15 = .ok (.invokestatic 138, 3) := by decide +kernel
theorem d_Ch_firstStray_18 : decode c_Ch_firstStray 18 = .ok (.ifCond .eq 22, 3) := by decide +kernel
theorem d_Ch_firstStray_21 : decode c_Ch_firstStray 21 = .ok (.aload_n 0, 1) := by decide +kernel
theorem d_Ch_firstStray_22 : decode c_Ch_firstStray 22 = .ok (.iload_n 2, 1) := by decide +kernel
theorem d_Ch_firstStray_23 : decode c_Ch_firstStray 23 = .ok (.invokevirtual 155, 3) := by decide +kernel
theorem d_Ch_firstStray_26 : decode c_Ch_firstStray 26 = .ok (.aload_n 0, 1) := by decide +kernel
theorem d_Ch_firstStray_27 : decode c_Ch_firstStray 27 = .ok (.aload_n 1, 1) := by decide +kernel
theorem d_Ch_firstStray_28 : decode c_Ch_firstStray 28 = .ok (.iload_n 2, 1) := by decide +kernel
theorem d_Ch_firstStray_29 : decode c_Ch_firstStray 29 = .ok (.invokevirtual 100, 3) := by decide +kernel
theorem d_Ch_firstStray_32 : decode c_Ch_firstStray 32 = .ok (.invokevirtual 155, 3) := by decide +kernel
theorem d_Ch_firstStray_35 : decode c_Ch_firstStray 35 = .ok (.if_icmp .eq 5, 3) := by decide +kernel
theorem d_Ch_firstStray_38 : decode c_Ch_firstStray 38 = .ok (.iload_n 2, 1) := by decide +kernel
theorem d_Ch_firstStray_39 : decode c_Ch_firstStray 39 = .ok (.ireturn, 1) := by decide +kernel
theorem d_Ch_firstStray_40 : decode c_Ch_firstStray 40 = .ok (.iinc 2 1, 3) := by decide +kernel
theorem d_Ch_firstStray_43 : decode c_Ch_firstStray 43 = .ok (.goto (-41), 3) := by decide +kernel
theorem d_Ch_firstStray_46 : decode c_Ch_firstStray 46 = .ok (.iconst (-1), 1) := by decide +kernel
theorem d_Ch_firstStray_47 : decode c_Ch_firstStray 47 = .ok (.ireturn, 1) := by decide +kernel
theorem d_Ch_examineWhole_0 : decode c_Ch_examineWhole 0 = .ok (.aload_n 0, 1) := by decide +kernel
theorem d_Ch_examineWhole_1 : decode c_Ch_examineWhole 1 = .ok (.getfield 20, 3) := by decide +kernel
theorem d_Ch_examineWhole_4 : decode c_Ch_examineWhole 4 = .ok (.invokevirtual 66, 3) := by decide +kernel
theorem d_Ch_examineWhole_7 : decode c_Ch_examineWhole 7 = .ok (.ifCond .ne 16, 3) := by decide +kernel
theorem d_Ch_examineWhole_10 : decode c_Ch_examineWhole 10 = .ok (.aload_n 0, 1) := by decide +kernel
theorem d_Ch_examineWhole_11 : decode c_Ch_examineWhole 11 = .ok (.iconst 5, 1) := by decide +kernel
theorem d_Ch_examineWhole_12 : decode c_Ch_examineWhole 12 = .ok (.aload_n 0, 1) := by decide +kernel
theorem d_Ch_examineWhole_13 : decode c_Ch_examineWhole 13 = .ok (.getfield 20, 3) := by decide +kernel
theorem d_Ch_examineWhole_16 : decode c_Ch_examineWhole 16 = .ok (.invokevirtual 70, 3) := by decide +kernel
theorem d_Ch_examineWhole_19 : decode c_Ch_examineWhole 19 = .ok (.invokevirtual 43, 3) := by decide +kernel
theorem d_Ch_examineWhole_22 : decode c_Ch_examineWhole 22 = .ok (.return_, 1) := by decide +kernel
theorem d_Ch_examineWhole_23 : decode c_Ch_examineWhole 23 = .ok (.aload_n 0, 1) := by decide +kernel
theorem d_Ch_examineWhole_24 : decode c_Ch_examineWhole 24 = .ok (.aload_n 1, 1) := by decide +kernel
theorem d_Ch_examineWhole_25 : decode c_Ch_examineWhole 25 = .ok (.invokevirtual 73, 3) := by decide +kernel
theorem d_Ch_examineWhole_28 : decode c_Ch_examineWhole 28 = .ok (.istore_n 2, 1) := by decide +kernel
theorem d_Ch_examineWhole_29 : decode c_Ch_examineWhole 29 = .ok (.iload_n 2, 1) := by decide +kernel
theorem d_Ch_examineWhole_30 : decode c_Ch_examineWhole 30 = .ok (.iconst (-1), 1) := by decide +kernel
theorem d_Ch_examineWhole_31 : decode c_Ch_examineWhole 31 = .ok (.if_icmp .eq 12, 3) := by decide +kernel
theorem d_Ch_examineWhole_34 : decode c_Ch_examineWhole 34 = .ok (.aload_n 0, 1) := by decide +kernel
theorem d_Ch_examineWhole_35 : decode c_Ch_examineWhole 35 = .ok (.iconst 5, 1) := by decide +kernel
theorem d_Ch_examineWhole_36 : decode c_Ch_examineWhole 36 = .ok (.iload_n 2, 1) := by decide +kernel
theorem d_Ch_examineWhole_37 : decode c_Ch_examineWhole 37 = .ok (.invokevirtual 43, 3) := by decide +kernel
theorem d_Ch_examineWhole_40 : decode c_Ch_examineWhole 40 = .ok (.goto 21, 3) := by decide +kernel
theorem d_Ch_examineWhole_43 : decode c_Ch_examineWhole 43 = .ok (.aload_n 0, 1) := by decide +kernel
theorem d_Ch_examineWhole_44 : decode c_Ch_examineWhole 44 = .ok (.getfield 33, 3) := by decide +kernel
theorem d_Ch_examineWhole_47 : decode c_Ch_examineWhole 47 = .ok (.ldc2_w 31, 3) := by decide +kernel
theorem d_Ch_examineWhole_50 : decode c_Ch_examineWhole 50 = .ok (.lcmp, 1) := by decide +kernel
theorem d_Ch_examineWhole_51 : decode c_Ch_examineWhole 51 = .ok (.ifCond .le 10, 3) := by decide +kernel
theorem d_Ch_examineWhole_54 : decode c_Ch_examineWhole 54 = .ok (.aload_n 0, 1) := by decide +kernel
theorem d_Ch_examineWhole_55 : decode c_Ch_examineWhole 55 = .ok (.bipush 8, 2) := by decide +kernel
theorem d_Ch_examineWhole_57 : decode c_Ch_examineWhole 57 = .ok (.iconst (-1), 1) := by decide +kernel
theorem d_Ch_examineWhole_58 : decode c_Ch_examineWhole 58 = .ok (.invokevirtual 43, 3) := by decide +kernel
theorem d_Ch_examineWhole_61 : decode c_Ch_examineWhole 61 = .ok (.return_, 1) := by decide +kernel
theorem d_Ch_isTargetWrong_0 : decode c_Ch_isTargetWrong 0 = .ok (.iload_n 0, 1) := by decide +kernel
theorem d_Ch_isTargetWrong_1 : decode c_Ch_isTargetWrong 1 = .ok (.invokestatic 110, 3) := by decide +kernel
theorem d_Ch_isTargetWrong_4 : decode c_Ch_isTargetWrong 4 = .ok (.ifCond .ne 16, 3) := by decide +kernel
theorem d_Ch_isTargetWrong_7 : decode c_Ch_isTargetWrong 7 = .ok (.iload_n 1, 1) := by decide +kernel
