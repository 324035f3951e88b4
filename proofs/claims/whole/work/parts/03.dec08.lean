theorem d_Mo_badNumber_80 : decode c_Mo_badNumber 80 = .ok (.iconst 0, 1) := by decide +kernel
theorem d_Mo_badNumber_81 : decode c_Mo_badNumber 81 = .ok (.ireturn, 1) := by decide +kernel
theorem d_Mo_badNumber_82 : decode c_Mo_badNumber 82 = .ok (.iload_n 3, 1) := by decide +kernel
theorem d_Mo_badNumber_83 : decode c_Mo_badNumber 83 = .ok (.iconst 3, 1) := by decide +kernel
theorem d_Mo_badNumber_84 : decode c_Mo_badNumber 84 = .ok (.if_icmp .le 7, 3) := by decide +kernel
theorem d_Mo_badNumber_87 : decode c_Mo_badNumber 87 = .ok (.iconst 1, 1) := by decide +kernel
theorem d_Mo_badNumber_88 : decode c_Mo_badNumber 88 = .ok (.goto 4, 3) := by decide +kernel
theorem d_Mo_badNumber_91 : decode c_Mo_badNumber 91 = .ok (.iconst 0, 1) := by decide +kernel
theorem d_Mo_badNumber_92 : decode c_Mo_badNumber 92 = .ok (.ireturn, 1) := by decide +kernel
theorem d_Mo_badNumber_93 : decode c_Mo_badNumber 93 = .ok (.iload_n 3, 1) := by decide +kernel
theorem d_Mo_badNumber_94 : decode c_Mo_badNumber 94 = .ok (.ifCond .eq 7, 3) := by decide +kernel
theorem d_Mo_badNumber_97 : decode c_Mo_badNumber 97 = .ok (.iconst 1, 1) := by decide +kernel
theorem d_Mo_badNumber_98 : decode c_Mo_badNumber 98 = .ok (.goto 4, 3) := by decide +kernel
theorem d_Mo_badNumber_101 : decode c_Mo_badNumber 101 = .ok (.iconst 0, 1) := by decide +kernel
theorem d_Mo_badNumber_102 : decode c_Mo_badNumber 102 = .ok (.ireturn, 1) := by decide +kernel
theorem d_Mo_depth_0 : decode c_Mo_depth 0 = .ok (.iconst 0, 1) := by decide +kernel
theorem d_Mo_depth_1 : decode c_Mo_depth 1 = .ok (.istore_n 2, 1) := by decide +kernel
theorem d_Mo_depth_2 : decode c_Mo_depth 2 = .ok (.iconst 0, 1) := by decide +kernel
theorem d_Mo_depth_3 : decode c_Mo_depth 3 = .ok (.istore_n 3, 1) := by decide +kernel
theorem d_Mo_depth_4 : decode c_Mo_depth 4 = .ok (.iload_n 3, 1) := by decide +kernel
theorem d_Mo_depth_5 : decode c_Mo_depth 5 = .ok (.iload_n 1, 1) := by decide +kernel
theorem d_Mo_depth_6 : decode c_Mo_depth 6 = .ok (.if_icmp .ge 41, 3) := by decide +kernel
theorem d_Mo_depth_9 : decode c_Mo_depth 9 = .ok (.iload_n 2, 1) := by decide +kernel
theorem d_Mo_depth_10 : decode c_Mo_depth 10 = .ok (.aload_n 0, 1) := by decide +kernel
theorem d_Mo_depth_11 : decode c_Mo_depth 11 = .ok (.iload_n 3, 1) := by decide +kernel
theorem d_Mo_depth_12 : decode c_Mo_depth 12 = .ok (.invokestatic 58, 3) := by decide +kernel
theorem d_Mo_depth_15 : decode c_Mo_depth 15 = .ok (.bipush 34, 2) := by decide +kernel
theorem d_Mo_depth_17 : decode c_Mo_depth 17 = .ok (.if_icmp .ne 7, 3) := by decide +kernel
theorem d_Mo_depth_20 : decode c_Mo_depth 20 = .ok (.iconst 1, 1) := by decide +kernel
theorem d_Mo_depth_21 : decode c_Mo_depth 21 = .ok (.goto 18, 3) := by decide +kernel
theorem d_Mo_depth_24 : decode c_Mo_depth 24 = .ok (.aload_n 0, 1) := by decide +kernel
theorem d_Mo_depth_25 : decode c_Mo_depth 25 = .ok (.iload_n 3, 1) := by decide +kernel
theorem d_Mo_depth_26 : decode c_Mo_depth 26 = .ok (.invokestatic 58, 3) := by decide +kernel
theorem d_Mo_depth_29 : decode c_Mo_depth 29 = .ok (.bipush 35, 2) := by decide +kernel
theorem d_Mo_depth_31 : decode c_Mo_depth 31 = .ok (.if_icmp .ne 7, 3) := by decide +kernel
theorem d_Mo_depth_34 : decode c_Mo_depth 34 = .ok (.iconst (-1), 1) := by decide +kernel
theorem d_Mo_depth_35 : decode c_Mo_depth 35 = .ok (.goto 4, 3) := by decide +kernel
theorem d_Mo_depth_38 : decode c_Mo_depth 38 = .ok (.iconst 0, 1) := by decide +kernel
theorem d_Mo_depth_39 : decode c_Mo_depth 39 = .ok (.iadd, 1) := by decide +kernel
theorem d_Mo_depth_40 : decode c_Mo_depth 40 = .ok (.istore_n 2, 1) := by decide +kernel
theorem d_Mo_depth_41 : decode c_Mo_depth 41 = .ok (.iinc 3 1, 3) := by decide +kernel
theorem d_Mo_depth_44 : decode c_Mo_depth 44 = .ok (.goto (-40), 3) := by decide +kernel
theorem d_Mo_depth_47 : decode c_Mo_depth 47 = .ok (.iload_n 2, 1) := by decide +kernel
theorem d_Mo_depth_48 : decode c_Mo_depth 48 = .ok (.ireturn, 1) := by decide +kernel
theorem d_Mo_faultOf_0 : decode c_Mo_faultOf 0 = .ok (.aload_n 0, 1) := by decide +kernel
theorem d_Mo_faultOf_1 : decode c_Mo_faultOf 1 = .ok (.iload_n 1, 1) := by decide +kernel
theorem d_Mo_faultOf_2 : decode c_Mo_faultOf 2 = .ok (.invokestatic 58, 3) := by decide +kernel
theorem d_Mo_faultOf_5 : decode c_Mo_faultOf 5 = .ok (.istore 4, 2) := by decide +kernel
theorem d_Mo_faultOf_7 : decode c_Mo_faultOf 7 = .ok (.iload 4, 2) := by decide +kernel
theorem d_Mo_faultOf_9 : decode c_Mo_faultOf 9 = .ok (.bipush 40, 2) := by decide +kernel
theorem d_Mo_faultOf_11 : decode c_Mo_faultOf 11 = .ok (.if_icmp .le 5, 3) := by decide +kernel
theorem d_Mo_faultOf_14 : decode c_Mo_faultOf 14 = .ok (.iconst 1, 1) := by decide +kernel
theorem d_Mo_faultOf_15 : decode c_Mo_faultOf 15 = .ok (.ireturn, 1) := by decide +kernel
theorem d_Mo_faultOf_16 : decode c_Mo_faultOf 16 = .ok (.aload_n 0, 1) := by decide +kernel
theorem d_Mo_faultOf_17 : decode c_Mo_faultOf 17 = .ok (.iload_n 1, 1) := by decide +kernel
theorem d_Mo_faultOf_18 : decode c_Mo_faultOf 18 = .ok (.invokestatic 77, 3) := by decide +kernel
theorem d_Mo_faultOf_21 : decode c_Mo_faultOf 21 = .ok (.ifCond .eq 5, 3) := by decide +kernel
theorem d_Mo_faultOf_24 : decode c_Mo_faultOf 24 = .ok (.iconst 2, 1) := by decide +kernel
theorem d_Mo_faultOf_25 : decode c_Mo_faultOf 25 = .ok (.ireturn, 1) := by decide +kernel
theorem d_Mo_faultOf_26 : decode c_Mo_faultOf 26 = .ok (.aload_n 0, 1) := by decide +kernel
theorem d_Mo_faultOf_27 : decode c_Mo_faultOf 27 = .ok (.iload_n 1, 1) := by decide +kernel
theorem d_Mo_faultOf_28 : decode c_Mo_faultOf 28 = .ok (.invokestatic 81, 3) := by decide +kernel
theorem d_Mo_faultOf_31 : decode c_Mo_faultOf 31 = .ok (.ifCond .eq 5, 3) := by decide +kernel
theorem d_Mo_faultOf_34 : decode c_Mo_faultOf 34 = .ok (.iconst 3, 1) := by decide +kernel
theorem d_Mo_faultOf_35 : decode c_Mo_faultOf 35 = .ok (.ireturn, 1) := by decide +kernel
theorem d_Mo_faultOf_36 : decode c_Mo_faultOf 36 = .ok (.aload_n 0, 1) := by decide +kernel
theorem d_Mo_faultOf_37 : decode c_Mo_faultOf 37 = .ok (.iload_n 1, 1) := by decide +kernel
theorem d_Mo_faultOf_38 : decode c_Mo_faultOf 38 = .ok (.iload_n 2, 1) := by decide +kernel
theorem d_Mo_faultOf_39 : decode c_Mo_faultOf 39 = .ok (.invokestatic 84, 3) := by decide +kernel
theorem d_Mo_faultOf_42 : decode c_Mo_faultOf 42 = .ok (.ifCond .eq 5, 3) := by decide +kernel
theorem d_Mo_faultOf_45 : decode c_Mo_faultOf 45 = .ok (.iconst 4, 1) := by decide +kernel
theorem d_Mo_faultOf_46 : decode c_Mo_faultOf 46 = .ok (.ireturn, 1) := by decide +kernel
theorem d_Mo_faultOf_47 : decode c_Mo_faultOf 47 = .ok (.iload 4, 2) := by decide +kernel
theorem d_Mo_faultOf_49 : decode c_Mo_faultOf 49 = .ok (.bipush 35, 2) := by decide +kernel
theorem d_Mo_faultOf_51 : decode c_Mo_faultOf 51 = .ok (.if_icmp .ne 11, 3) := by decide +kernel
theorem d_Mo_faultOf_54 : decode c_Mo_faultOf 54 = .ok (.aload_n 0, 1) := by decide +kernel
theorem d_Mo_faultOf_55 : decode c_Mo_faultOf 55 = .ok (.iload_n 1, 1) := by decide +kernel
theorem d_Mo_faultOf_56 : decode c_Mo_faultOf 56 = .ok (.invokestatic 88, 3) := by decide +kernel
theorem d_Mo_faultOf_59 : decode c_Mo_faultOf 59 = .ok (.ifCond .eq 19, 3) := by decide +kernel
theorem d_Mo_faultOf_62 : decode c_Mo_faultOf 62 = .ok (.iload 4, 2) := by decide +kernel
theorem d_Mo_faultOf_64 : decode c_Mo_faultOf 64 = .ok (.bipush 34, 2) := by decide +kernel
theorem d_Mo_faultOf_66 : decode c_Mo_faultOf 66 = .ok (.if_icmp .ne 14, 3) := by decide +kernel
theorem d_Mo_faultOf_69 : decode c_Mo_faultOf 69 = .ok (.aload_n 0, 1) := by decide +kernel
theorem d_Mo_faultOf_70 : decode c_Mo_faultOf 70 = .ok (.iload_n 1, 1) := by decide +kernel
theorem d_Mo_faultOf_71 : decode c_Mo_faultOf 71 = .ok (.invokestatic 88, 3) := by decide +kernel
theorem d_Mo_faultOf_74 : decode c_Mo_faultOf 74 = .ok (.iconst 4, 1) := by decide +kernel
theorem d_Mo_faultOf_75 : decode c_Mo_faultOf 75 = .ok (.if_icmp .lt 5, 3) := by decide +kernel
theorem d_Mo_faultOf_78 : decode c_Mo_faultOf 78 = .ok (.iconst 5, 1) := by decide +kernel
theorem d_Mo_faultOf_79 : decode c_Mo_faultOf 79 = .ok (.ireturn, 1) := by decide +kernel
theorem d_Mo_faultOf_80 : decode c_Mo_faultOf 80 = .ok (.iload 4, 2) := by decide +kernel
theorem d_Mo_faultOf_82 : decode c_Mo_faultOf 82 = .ok (.ifCond .ne 7, 3) := by decide +kernel
theorem d_Mo_faultOf_85 : decode c_Mo_faultOf 85 = .ok (.iconst 1, 1) := by decide +kernel
theorem d_Mo_faultOf_86 : decode c_Mo_faultOf 86 = .ok (.goto 4, 3) := by decide +kernel
theorem d_Mo_faultOf_89 : decode c_Mo_faultOf 89 = .ok (.iconst 0, 1) := by decide +kernel
theorem d_Mo_faultOf_90 : decode c_Mo_faultOf 90 = .ok (.iload_n 1, 1) := by decide +kernel
theorem d_Mo_faultOf_91 : decode c_Mo_faultOf 91 = .ok (.iload_n 2, 1) := by decide +kernel
theorem d_Mo_faultOf_92 : decode c_Mo_faultOf 92 = .ok (.iconst 1, 1) := by decide +kernel
theorem d_Mo_faultOf_93 : decode c_Mo_faultOf 93 = .ok (.isub, 1) := by decide +kernel
theorem d_Mo_faultOf_94 : decode c_Mo_faultOf 94 = .ok (.if_icmp .ne 7, 3) := by decide +kernel
theorem d_Mo_faultOf_97 : decode c_Mo_faultOf 97 = .ok (.iconst 1, 1) := by decide +kernel
theorem d_Mo_faultOf_98 : decode c_Mo_faultOf 98 = .ok (.goto 4, 3) := by decide +kernel
theorem d_Mo_faultOf_101 : decode c_Mo_faultOf 101 = .ok (.iconst 0, 1) := by decide +kernel
theorem d_Mo_faultOf_102 : decode c_Mo_faultOf 102 = .ok (.if_icmp .eq 6, 3) := by decide +kernel
theorem d_Mo_faultOf_105 : decode c_Mo_faultOf 105 = .ok (.bipush 6, 2) := by decide +kernel
theorem d_Mo_faultOf_107 : decode c_Mo_faultOf 107 = .ok (.ireturn, 1) := by decide +kernel
theorem d_Mo_faultOf_108 : decode c_Mo_faultOf 108 = .ok (.iload 4, 2) := by decide +kernel
theorem d_Mo_faultOf_110 : decode c_Mo_faultOf 110 = .ok (.bipush 38, 2) := by decide +kernel
theorem d_Mo_faultOf_112 : decode c_Mo_faultOf 112 = .ok (.if_icmp .ne 12, 3) := by decide +kernel
theorem d_Mo_faultOf_115 : decode c_Mo_faultOf 115 = .ok (.iload_n 3, 1) := by decide +kernel
theorem d_Mo_faultOf_116 : decode c_Mo_faultOf 116 = .ok (.ifCond .ne 8, 3) := by decide +kernel
theorem d_Mo_faultOf_119 : decode c_Mo_faultOf 119 = .ok (.bipush 7, 2) := by decide +kernel
theorem d_Mo_faultOf_121 : decode c_Mo_faultOf 121 = .ok (.goto 4, 3) := by decide +kernel
theorem d_Mo_faultOf_124 : decode c_Mo_faultOf 124 = .ok (.iconst 0, 1) := by decide +kernel
theorem d_Mo_faultOf_125 : decode c_Mo_faultOf 125 = .ok (.ireturn, 1) := by decide +kernel
theorem d_Mo_around_0 : decode c_Mo_around 0 = .ok (.iconst 0, 1) := by decide +kernel
theorem d_Mo_around_1 : decode c_Mo_around 1 = .ok (.istore_n 2, 1) := by decide +kernel
theorem d_Mo_around_2 : decode c_Mo_around 2 = .ok (.iload_n 1, 1) := by decide +kernel
theorem d_Mo_around_3 : decode c_Mo_around 3 = .ok (.iconst 1, 1) := by decide +kernel
theorem d_Mo_around_4 : decode c_Mo_around 4 = .ok (.isub, 1) := by decide +kernel
theorem d_Mo_around_5 : decode c_Mo_around 5 = .ok (.istore_n 3, 1) := by decide +kernel
theorem d_Mo_around_6 : decode c_Mo_around 6 = .ok (.iload_n 3, 1) := by decide +kernel
theorem d_Mo_around_7 : decode c_Mo_around 7 = .ok (.ifCond .lt 44, 3) := by decide +kernel
theorem d_Mo_around_10 : decode c_Mo_around 10 = .ok (.aload_n 0, 1) := by decide +kernel
theorem d_Mo_around_11 : decode c_Mo_around 11 = .ok (.iload_n 3, 1) := by decide +kernel
theorem d_Mo_around_12 : decode c_Mo_around 12 = .ok (.invokestatic 58, 3) := by decide +kernel
theorem d_Mo_around_15 : decode c_Mo_around 15 = .ok (.bipush 35, 2) := by decide +kernel
theorem d_Mo_around_17 : decode c_Mo_around 17 = .ok (.if_icmp .ne 9, 3) := by decide +kernel
theorem d_Mo_around_20 : decode c_Mo_around 20 = .ok (.iinc 2 1, 3) := by decide +kernel
theorem d_Mo_around_23 : decode c_Mo_around 23 = .ok (.goto 22, 3) := by decide +kernel
theorem d_Mo_around_26 : decode c_Mo_around 26 = .ok (.aload_n 0, 1) := by decide +kernel
theorem d_Mo_around_27 : decode c_Mo_around 27 = .ok (.iload_n 3, 1) := by decide +kernel
theorem d_Mo_around_28 : decode c_Mo_around 28 = .ok (.invokestatic 58, 3) := by decide +kernel
theorem d_Mo_around_31 : decode c_Mo_around 31 = .ok (.bipush 34, 2) := by decide +kernel
theorem d_Mo_around_33 : decode c_Mo_around 33 = .ok (.if_icmp .ne 12, 3) := by decide +kernel
theorem d_Mo_around_36 : decode c_Mo_around 36 = .ok (.iload_n 2, 1) := by decide +kernel
theorem d_Mo_around_37 : decode c_Mo_around 37 = .ok (.ifCond .ne 5, 3) := by decide +kernel
theorem d_Mo_around_40 : decode c_Mo_around 40 = .ok (.iload_n 3, 1) := by decide +kernel
theorem d_Mo_around_41 : decode c_Mo_around 41 = .ok (.ireturn, 1) := by decide +kernel
theorem d_Mo_around_42 : decode c_Mo_around 42 = .ok (.iinc 2 (-1), 3) := by decide +kernel
theorem d_Mo_around_45 : decode c_Mo_around 45 = .ok (.iinc 3 (-1), 3) := by decide +kernel
theorem d_Mo_around_48 : decode c_Mo_around 48 = .ok (.goto (-42), 3) := by decide +kernel
theorem d_Mo_around_51 : decode c_Mo_around 51 = .ok (.iconst (-1), 1) := by decide +kernel
theorem d_Mo_around_52 : decode c_Mo_around 52 = .ok (.ireturn, 1) := by decide +kernel
theorem d_Mo_closing_0 : decode c_Mo_closing 0 = .ok (.iconst 0, 1) := by decide +kernel
theorem d_Mo_closing_1 : decode c_Mo_closing 1 = .ok (.istore_n 3, 1) := by decide +kernel
theorem d_Mo_closing_2 : decode c_Mo_closing 2 = .ok (.iload_n 1, 1) := by decide +kernel
theorem d_Mo_closing_3 : decode c_Mo_closing 3 = .ok (.iconst 1, 1) := by decide +kernel
theorem d_Mo_closing_4 : decode c_Mo_closing 4 = .ok (.iadd, 1) := by decide +kernel
theorem d_Mo_closing_5 : decode c_Mo_closing 5 = .ok (.istore 4, 2) := by decide +kernel
theorem d_Mo_closing_7 : decode c_Mo_closing 7 = .ok (.iload 4, 2) := by decide +kernel
theorem d_Mo_closing_9 : decode c_Mo_closing 9 = .ok (.iload_n 2, 1) := by decide +kernel
theorem d_Mo_closing_10 : decode c_Mo_closing 10 = .ok (.if_icmp .ge 47, 3) := by decide +kernel
theorem d_Mo_closing_13 : decode c_Mo_closing 13 = .ok (.aload_n 0, 1) := by decide +kernel
theorem d_Mo_closing_14 : decode c_Mo_closing 14 = .ok (.iload 4, 2) := by decide +kernel
theorem d_Mo_closing_16 : decode c_Mo_closing 16 = .ok (.invokestatic 58, 3) := by decide +kernel
theorem d_Mo_closing_19 : decode c_Mo_closing 19 = .ok (.bipush 34, 2) := by decide +kernel
theorem d_Mo_closing_21 : decode c_Mo_closing 21 = .ok (.if_icmp .ne 9, 3) := by decide +kernel
theorem d_Mo_closing_24 : decode c_Mo_closing 24 = .ok (.iinc 3 1, 3) := by decide +kernel
theorem d_Mo_closing_27 : decode c_Mo_closing 27 = .ok (.goto 24, 3) := by decide +kernel
theorem d_Mo_closing_30 : decode c_Mo_closing 30 = .ok (.aload_n 0, 1) := by decide +kernel
theorem d_Mo_closing_31 : decode c_Mo_closing 31 = .ok (.iload 4, 2) := by decide +kernel
theorem d_Mo_closing_33 : decode c_Mo_closing 33 = .ok (.invokestatic 58, 3) := by decide +kernel
theorem d_Mo_closing_36 : decode c_Mo_closing 36 = .ok (.bipush 35, 2) := by decide +kernel
theorem d_Mo_closing_38 : decode c_Mo_closing 38 = .ok (.if_icmp .ne 13, 3) := by decide +kernel
theorem d_Mo_closing_41 : decode c_Mo_closing 41 = .ok (.iload_n 3, 1) := by decide +kernel
theorem d_Mo_closing_42 : decode c_Mo_closing 42 = .ok (.ifCond .ne 6, 3) := by decide +kernel
theorem d_Mo_closing_45 : decode c_Mo_closing 45 = .ok (.iload 4, 2) := by decide +kernel
theorem d_Mo_closing_47 : decode c_Mo_closing 47 = .ok (.ireturn, 1) := by decide +kernel
theorem d_Mo_closing_48 : decode c_Mo_closing 48 = .ok (.iinc 3 (-1), 3) := by decide +kernel
theorem d_Mo_closing_51 : decode c_Mo_closing 51 = .ok (.iinc 4 1, 3) := by decide +kernel
theorem d_Mo_closing_54 : decode c_Mo_closing 54 = .ok (.goto (-47), 3) := by decide +kernel
theorem d_Mo_closing_57 : decode c_Mo_closing 57 = .ok (.iconst (-1), 1) := by decide +kernel
theorem d_Mo_closing_58 : decode c_Mo_closing 58 = .ok (.ireturn, 1) := by decide +kernel
theorem d_Mo_steps_0 : decode c_Mo_steps 0 = .ok (.lconst 0, 1) := by decide +kernel
theorem d_Mo_steps_1 : decode c_Mo_steps 1 = .ok (.lstore_n 2, 1) := by decide +kernel
theorem d_Mo_steps_2 : decode c_Mo_steps 2 = .ok (.iconst 0, 1) := by decide +kernel
theorem d_Mo_steps_3 : decode c_Mo_steps 3 = .ok (.istore 4, 2) := by decide +kernel
theorem d_Mo_steps_5 : decode c_Mo_steps 5 = .ok (.iload 4, 2) := by decide +kernel
theorem d_Mo_steps_7 : decode c_Mo_steps 7 = .ok (.iload_n 1, 1) := by decide +kernel
theorem d_Mo_steps_8 : decode c_Mo_steps 8 = .ok (.if_icmp .ge 53, 3) := by decide +kernel
theorem d_Mo_steps_11 : decode c_Mo_steps 11 = .ok (.lconst 1, 1) := by decide +kernel
theorem d_Mo_steps_12 : decode c_Mo_steps 12 = .ok (.lstore 5, 2) := by decide +kernel
theorem d_Mo_steps_14 : decode c_Mo_steps 14 = .ok (.aload_n 0, 1) := by decide +kernel
theorem d_Mo_steps_15 : decode c_Mo_steps 15 = .ok (.iload 4, 2) := by decide +kernel
theorem d_Mo_steps_17 : decode c_Mo_steps 17 = .ok (.invokestatic 91, 3) := by decide +kernel
theorem d_Mo_steps_20 : decode c_Mo_steps 20 = .ok (.istore 7, 2) := by decide +kernel
theorem d_Mo_steps_22 : decode c_Mo_steps 22 = .ok (.iload 7, 2) := by decide +kernel
theorem d_Mo_steps_24 : decode c_Mo_steps 24 = .ok (.ifCond .lt 26, 3) := by decide +kernel
theorem d_Mo_steps_27 : decode c_Mo_steps 27 = .ok (.lload 5, 2) := by decide +kernel
theorem d_Mo_steps_29 : decode c_Mo_steps 29 = .ok (.aload_n 0, 1) := by decide +kernel
theorem d_Mo_steps_30 : decode c_Mo_steps 30 = .ok (.iload 7, 2) := by decide +kernel
theorem d_Mo_steps_32 : decode c_Mo_steps 32 = .ok (.invokestatic 74, 3) := by decide +kernel
theorem d_Mo_steps_35 : decode c_Mo_steps 35 = .ok (.i2l, 1) := by decide +kernel
theorem d_Mo_steps_36 : decode c_Mo_steps 36 = .ok (.lmul, 1) := by decide +kernel
theorem d_Mo_steps_37 : decode c_Mo_steps 37 = .ok (.lstore 5, 2) := by decide +kernel
theorem d_Mo_steps_39 : decode c_Mo_steps 39 = .ok (.aload_n 0, 1) := by decide +kernel
theorem d_Mo_steps_40 : decode c_Mo_steps 40 = .ok (.iload 7, 2) := by decide +kernel
theorem d_Mo_steps_42 : decode c_Mo_steps 42 = .ok (.invokestatic 91, 3) := by decide +kernel
theorem d_Mo_steps_45 : decode c_Mo_steps 45 = .ok (.istore 7, 2) := by decide +kernel
theorem d_Mo_steps_47 : decode c_Mo_steps 47 = .ok (.goto (-25), 3) := by decide +kernel
theorem d_Mo_steps_50 : decode c_Mo_steps 50 = .ok (.lload_n 2, 1) := by decide +kernel
theorem d_Mo_steps_51 : decode c_Mo_steps 51 = .ok (.lload 5, 2) := by decide +kernel
theorem d_Mo_steps_53 : decode c_Mo_steps 53 = .ok (.ladd, 1) := by decide +kernel
theorem d_Mo_steps_54 : decode c_Mo_steps 54 = .ok (.lstore_n 2, 1) := by decide +kernel
theorem d_Mo_steps_55 : decode c_Mo_steps 55 = .ok (.iinc 4 1, 3) := by decide +kernel
theorem d_Mo_steps_58 : decode c_Mo_steps 58 = .ok (.goto (-53), 3) := by decide +kernel
theorem d_Mo_steps_61 : decode c_Mo_steps 61 = .ok (.lload_n 2, 1) := by decide +kernel
theorem d_Mo_steps_62 : decode c_Mo_steps 62 = .ok (.lreturn, 1) := by decide +kernel
theorem d_Mo_no_0 : decode c_Mo_no 0 = .ok (.aload_n 0, 1) := by decide +kernel
theorem d_Mo_no_1 : decode c_Mo_no 1 = .ok (.iload_n 1, 1) := by decide +kernel
theorem d_Mo_no_2 : decode c_Mo_no 2 = .ok (.putfield 94, 3) := by decide +kernel
theorem d_Mo_no_5 : decode c_Mo_no 5 = .ok (.aload_n 0, 1) := by decide +kernel
theorem d_Mo_no_6 : decode c_Mo_no 6 = .ok (.iload_n 2, 1) := by decide +kernel
theorem d_Mo_no_7 : decode c_Mo_no 7 = .ok (.putfield 19, 3) := by decide +kernel
theorem d_Mo_no_10 : decode c_Mo_no 10 = .ok (.iload_n 1, 1) := by decide +kernel
theorem d_Mo_no_11 : decode c_Mo_no 11 = .ok (.ireturn, 1) := by decide +kernel
theorem d_Mo_check_0 : decode c_Mo_check 0 = .ok (.iconst 0, 1) := by decide +kernel
theorem d_Mo_check_1 : decode c_Mo_check 1 = .ok (.istore 4, 2) := by decide +kernel
theorem d_Mo_check_3 : decode c_Mo_check 3 = .ok (.iload 4, 2) := by decide +kernel
theorem d_Mo_check_5 : decode c_Mo_check 5 = .ok (.iload_n 2, 1) := by decide +kernel
theorem d_Mo_check_6 : decode c_Mo_check 6 = .ok (.if_icmp .ge 33, 3) := by decide +kernel
theorem d_Mo_check_9 : decode c_Mo_check 9 = .ok (.aload_n 1, 1) := by decide +kernel
theorem d_Mo_check_10 : decode c_Mo_check 10 = .ok (.iload 4, 2) := by decide +kernel
theorem d_Mo_check_12 : decode c_Mo_check 12 = .ok (.iload_n 2, 1) := by decide +kernel
theorem d_Mo_check_13 : decode c_Mo_check 13 = .ok (.iload_n 3, 1) := by decide +kernel
theorem d_Mo_check_14 : decode c_Mo_check 14 = .ok (.invokestatic 97, 3) := by decide +kernel
theorem d_Mo_check_17 : decode c_Mo_check 17 = .ok (.istore 5, 2) := by decide +kernel
theorem d_Mo_check_19 : decode c_Mo_check 19 = .ok (.iload 5, 2) := by decide +kernel
theorem d_Mo_check_21 : decode c_Mo_check 21 = .ok (.ifCond .le 12, 3) := by decide +kernel
theorem d_Mo_check_24 : decode c_Mo_check 24 = .ok (.aload_n 0, 1) := by decide +kernel
theorem d_Mo_check_25 : decode c_Mo_check 25 = .ok (.iload 5, 2) := by decide +kernel
theorem d_Mo_check_27 : decode c_Mo_check 27 = .ok (.iload 4, 2) := by decide +kernel
theorem d_Mo_check_29 : decode c_Mo_check 29 = .ok (.invokevirtual 101, 3) := by decide +kernel
theorem d_Mo_check_32 : decode c_Mo_check 32 = .ok (.ireturn, 1) := by decide +kernel
theorem d_Mo_check_33 : decode c_Mo_check 33 = .ok (.iinc 4 1, 3) := by decide +kernel
theorem d_Mo_check_36 : decode c_Mo_check 36 = .ok (.goto (-33), 3) := by decide +kernel
theorem d_Mo_check_39 : decode c_Mo_check 39 = .ok (.iload_n 2, 1) := by decide +kernel
theorem d_Mo_check_40 : decode c_Mo_check 40 = .ok (.iconst 1, 1) := by decide +kernel
theorem d_Mo_check_41 : decode c_Mo_check 41 = .ok (.isub, 1) := by decide +kernel
theorem d_Mo_check_42 : decode c_Mo_check 42 = .ok (.istore 4, 2) := by decide +kernel
theorem d_Mo_check_44 : decode c_Mo_check 44 = .ok (.iload 4, 2) := by decide +kernel
theorem d_Mo_check_46 : decode c_Mo_check 46 = .ok (.ifCond .lt 38, 3) := by decide +kernel
theorem d_Mo_check_49 : decode c_Mo_check 49 = .ok (.aload_n 1, 1) := by decide +kernel
theorem d_Mo_check_50 : decode c_Mo_check 50 = .ok (.iload 4, 2) := by decide +kernel
theorem d_Mo_check_52 : decode c_Mo_check 52 = .ok (.invokestatic 58, 3) := by decide +kernel
theorem d_Mo_check_55 : decode c_Mo_check 55 = .ok (.bipush 34, 2) := by decide +kernel
theorem d_Mo_check_57 : decode c_Mo_check 57 = .ok (.if_icmp .ne 21, 3) := by decide +kernel
theorem d_Mo_check_60 : decode c_Mo_check 60 = .ok (.aload_n 1, 1) := by decide +kernel
theorem d_Mo_check_61 : decode c_Mo_check 61 = .ok (.iload 4, 2) := by decide +kernel
theorem d_Mo_check_63 : decode c_Mo_check 63 = .ok (.iload_n 2, 1) := by decide +kernel
