theorem d_Ch_isTargetWrong_8 : decode c_Ch_isTargetWrong 8 = .ok (.ldc 116, 2) := by decide +kernel
theorem d_Ch_isTargetWrong_10 : decode c_Ch_isTargetWrong 10 = .ok (.iand, 1) := by decide +kernel
theorem d_Ch_isTargetWrong_11 : decode c_Ch_isTargetWrong 11 = .ok (.ifCond .eq 7, 3) := by decide +kernel
theorem d_Ch_isTargetWrong_14 : decode c_Ch_isTargetWrong 14 = .ok (.iconst 1, 1) := by decide +kernel
theorem d_Ch_isTargetWrong_15 : decode c_Ch_isTargetWrong 15 = .ok (.goto 4, 3) := by decide +kernel
theorem d_Ch_isTargetWrong_18 : decode c_Ch_isTargetWrong 18 = .ok (.iconst 0, 1) := by decide +kernel
theorem d_Ch_isTargetWrong_19 : decode c_Ch_isTargetWrong 19 = .ok (.ireturn, 1) := by decide +kernel
theorem d_Ch_isTargetWrong_20 : decode c_Ch_isTargetWrong 20 = .ok (.iload_n 1, 1) := by decide +kernel
theorem d_Ch_isTargetWrong_21 : decode c_Ch_isTargetWrong 21 = .ok (.invokestatic 117, 3) := by decide +kernel
theorem d_Ch_isTargetWrong_24 : decode c_Ch_isTargetWrong 24 = .ok (.ifCond .ne 5, 3) := by decide +kernel
theorem d_Ch_isTargetWrong_27 : decode c_Ch_isTargetWrong 27 = .ok (.iconst 1, 1) := by decide +kernel
theorem d_Ch_isTargetWrong_28 : decode c_Ch_isTargetWrong 28 = .ok (.ireturn, 1) := by decide +kernel
theorem d_Ch_isTargetWrong_29 : decode c_Ch_isTargetWrong 29 = .ok (.iload_n 1, 1) := by decide +kernel
theorem d_Ch_isTargetWrong_30 : decode c_Ch_isTargetWrong 30 = .ok (.invokestatic 120, 3) := by decide +kernel
theorem d_Ch_isTargetWrong_33 : decode c_Ch_isTargetWrong 33 = .ok (.lookupswitch 57 #[(0, 27), (1, 42)], 27) := by decide +kernel
theorem d_Ch_isTargetWrong_60 : decode c_Ch_isTargetWrong 60 = .ok (.iload_n 1, 1) := by decide +kernel
theorem d_Ch_isTargetWrong_61 : decode c_Ch_isTargetWrong 61 = .ok (.invokestatic 123, 3) := by decide +kernel
theorem d_Ch_isTargetWrong_64 : decode c_Ch_isTargetWrong 64 = .ok (.bipush 16, 2) := by decide +kernel
theorem d_Ch_isTargetWrong_66 : decode c_Ch_isTargetWrong 66 = .ok (.if_icmp .lt 7, 3) := by decide +kernel
theorem d_Ch_isTargetWrong_69 : decode c_Ch_isTargetWrong 69 = .ok (.iconst 1, 1) := by decide +kernel
theorem d_Ch_isTargetWrong_70 : decode c_Ch_isTargetWrong 70 = .ok (.goto 4, 3) := by decide +kernel
theorem d_Ch_isTargetWrong_73 : decode c_Ch_isTargetWrong 73 = .ok (.iconst 0, 1) := by decide +kernel
theorem d_Ch_isTargetWrong_74 : decode c_Ch_isTargetWrong 74 = .ok (.ireturn, 1) := by decide +kernel
theorem d_Ch_isTargetWrong_75 : decode c_Ch_isTargetWrong 75 = .ok (.iload_n 1, 1) := by decide +kernel
theorem d_Ch_isTargetWrong_76 : decode c_Ch_isTargetWrong 76 = .ok (.invokestatic 123, 3) := by decide +kernel
theorem d_Ch_isTargetWrong_79 : decode c_Ch_isTargetWrong 79 = .ok (.bipush 8, 2) := by decide +kernel
theorem d_Ch_isTargetWrong_81 : decode c_Ch_isTargetWrong 81 = .ok (.if_icmp .lt 7, 3) := by decide +kernel
theorem d_Ch_isTargetWrong_84 : decode c_Ch_isTargetWrong 84 = .ok (.iconst 1, 1) := by decide +kernel
theorem d_Ch_isTargetWrong_85 : decode c_Ch_isTargetWrong 85 = .ok (.goto 4, 3) := by decide +kernel
theorem d_Ch_isTargetWrong_88 : decode c_Ch_isTargetWrong 88 = .ok (.iconst 0, 1) := by decide +kernel
theorem d_Ch_isTargetWrong_89 : decode c_Ch_isTargetWrong 89 = .ok (.ireturn, 1) := by decide +kernel
theorem d_Ch_isTargetWrong_90 : decode c_Ch_isTargetWrong 90 = .ok (.iconst 1, 1) := by decide +kernel
theorem d_Ch_isTargetWrong_91 : decode c_Ch_isTargetWrong 91 = .ok (.ireturn, 1) := by decide +kernel
theorem d_Ch_isSourceWrong_0 : decode c_Ch_isSourceWrong 0 = .ok (.iload_n 1, 1) := by decide +kernel
theorem d_Ch_isSourceWrong_1 : decode c_Ch_isSourceWrong 1 = .ok (.ifCond .ne 13, 3) := by decide +kernel
theorem d_Ch_isSourceWrong_4 : decode c_Ch_isSourceWrong 4 = .ok (.iload_n 0, 1) := by decide +kernel
theorem d_Ch_isSourceWrong_5 : decode c_Ch_isSourceWrong 5 = .ok (.ifCond .eq 7, 3) := by decide +kernel
theorem d_Ch_isSourceWrong_8 : decode c_Ch_isSourceWrong 8 = .ok (.iconst 1, 1) := by decide +kernel
theorem d_Ch_isSourceWrong_9 : decode c_Ch_isSourceWrong 9 = .ok (.goto 4, 3) := by decide +kernel
theorem d_Ch_isSourceWrong_12 : decode c_Ch_isSourceWrong 12 = .ok (.iconst 0, 1) := by decide +kernel
theorem d_Ch_isSourceWrong_13 : decode c_Ch_isSourceWrong 13 = .ok (.ireturn, 1) := by decide +kernel
theorem d_Ch_isSourceWrong_14 : decode c_Ch_isSourceWrong 14 = .ok (.iload_n 0, 1) := by decide +kernel
theorem d_Ch_isSourceWrong_15 : decode c_Ch_isSourceWrong 15 = .ok (.invokestatic 134, 3) := by decide +kernel
theorem d_Ch_isSourceWrong_18 : decode c_Ch_isSourceWrong 18 = .ok (.istore_n 2, 1) := by decide +kernel
theorem d_Ch_isSourceWrong_19 : decode c_Ch_isSourceWrong 19 = .ok (.iload_n 0, 1) := by decide +kernel
theorem d_Ch_isSourceWrong_20 : decode c_Ch_isSourceWrong 20 = .ok (.invokestatic 137, 3) := by decide +kernel
theorem d_Ch_isSourceWrong_23 : decode c_Ch_isSourceWrong 23 = .ok (.tableswitch 61 0 2 #[25, 37, 49], 25) := by decide +kernel
theorem d_Ch_isSourceWrong_48 : decode c_Ch_isSourceWrong 48 = .ok (.iload_n 2, 1) := by decide +kernel
theorem d_Ch_isSourceWrong_49 : decode c_Ch_isSourceWrong 49 = .ok (.bipush 16, 2) := by decide +kernel
theorem d_Ch_isSourceWrong_51 : decode c_Ch_isSourceWrong 51 = .ok (.if_icmp .lt 7, 3) := by decide +kernel
theorem d_Ch_isSourceWrong_54 : decode c_Ch_isSourceWrong 54 = .ok (.iconst 1, 1) := by decide +kernel
theorem d_Ch_isSourceWrong_55 : decode c_Ch_isSourceWrong 55 = .ok (.goto 4, 3) := by decide +kernel
theorem d_Ch_isSourceWrong_58 : decode c_Ch_isSourceWrong 58 = .ok (.iconst 0, 1) := by decide +kernel
theorem d_Ch_isSourceWrong_59 : decode c_Ch_isSourceWrong 59 = .ok (.ireturn, 1) := by decide +kernel
theorem d_Ch_isSourceWrong_60 : decode c_Ch_isSourceWrong 60 = .ok (.iload_n 2, 1) := by decide +kernel
theorem d_Ch_isSourceWrong_61 : decode c_Ch_isSourceWrong 61 = .ok (.bipush 8, 2) := by decide +kernel
theorem d_Ch_isSourceWrong_63 : decode c_Ch_isSourceWrong 63 = .ok (.if_icmp .lt 7, 3) := by decide +kernel
theorem d_Ch_isSourceWrong_66 : decode c_Ch_isSourceWrong 66 = .ok (.iconst 1, 1) := by decide +kernel
theorem d_Ch_isSourceWrong_67 : decode c_Ch_isSourceWrong 67 = .ok (.goto 4, 3) := by decide +kernel
theorem d_Ch_isSourceWrong_70 : decode c_Ch_isSourceWrong 70 = .ok (.iconst 0, 1) := by decide +kernel
theorem d_Ch_isSourceWrong_71 : decode c_Ch_isSourceWrong 71 = .ok (.ireturn, 1) := by decide +kernel
theorem d_Ch_isSourceWrong_72 : decode c_Ch_isSourceWrong 72 = .ok (.iload_n 2, 1) := by decide +kernel
theorem d_Ch_isSourceWrong_73 : decode c_Ch_isSourceWrong 73 = .ok (.bipush 32, 2) := by decide +kernel
theorem d_Ch_isSourceWrong_75 : decode c_Ch_isSourceWrong 75 = .ok (.if_icmp .lt 7, 3) := by decide +kernel
theorem d_Ch_isSourceWrong_78 : decode c_Ch_isSourceWrong 78 = .ok (.iconst 1, 1) := by decide +kernel
theorem d_Ch_isSourceWrong_79 : decode c_Ch_isSourceWrong 79 = .ok (.goto 4, 3) := by decide +kernel
theorem d_Ch_isSourceWrong_82 : decode c_Ch_isSourceWrong 82 = .ok (.iconst 0, 1) := by decide +kernel
theorem d_Ch_isSourceWrong_83 : decode c_Ch_isSourceWrong 83 = .ok (.ireturn, 1) := by decide +kernel
theorem d_Ch_isSourceWrong_84 : decode c_Ch_isSourceWrong 84 = .ok (.iload_n 2, 1) := by decide +kernel
theorem d_Ch_isSourceWrong_85 : decode c_Ch_isSourceWrong 85 = .ok (.ifCond .eq 7, 3) := by decide +kernel
theorem d_Ch_isSourceWrong_88 : decode c_Ch_isSourceWrong 88 = .ok (.iconst 1, 1) := by decide +kernel
theorem d_Ch_isSourceWrong_89 : decode c_Ch_isSourceWrong 89 = .ok (.goto 4, 3) := by decide +kernel
theorem d_Ch_isSourceWrong_92 : decode c_Ch_isSourceWrong 92 = .ok (.iconst 0, 1) := by decide +kernel
theorem d_Ch_isSourceWrong_93 : decode c_Ch_isSourceWrong 93 = .ok (.ireturn, 1) := by decide +kernel
theorem d_Ch_areSourcesWrong_0 : decode c_Ch_areSourcesWrong 0 = .ok (.iload_n 0, 1) := by decide +kernel
theorem d_Ch_areSourcesWrong_1 : decode c_Ch_areSourcesWrong 1 = .ok (.invokestatic 126, 3) := by decide +kernel
theorem d_Ch_areSourcesWrong_4 : decode c_Ch_areSourcesWrong 4 = .ok (.istore_n 3, 1) := by decide +kernel
theorem d_Ch_areSourcesWrong_5 : decode c_Ch_areSourcesWrong 5 = .ok (.iload_n 1, 1) := by decide +kernel
theorem d_Ch_areSourcesWrong_6 : decode c_Ch_areSourcesWrong 6 = .ok (.ldc 129, 2) := by decide +kernel
theorem d_Ch_areSourcesWrong_8 : decode c_Ch_areSourcesWrong 8 = .ok (.iand, 1) := by decide +kernel
theorem d_Ch_areSourcesWrong_9 : decode c_Ch_areSourcesWrong 9 = .ok (.iload_n 3, 1) := by decide +kernel
theorem d_Ch_areSourcesWrong_10 : decode c_Ch_areSourcesWrong 10 = .ok (.iconst 1, 1) := by decide +kernel
theorem d_Ch_areSourcesWrong_11 : decode c_Ch_areSourcesWrong 11 = .ok (.if_icmp .lt 7, 3) := by decide +kernel
theorem d_Ch_areSourcesWrong_14 : decode c_Ch_areSourcesWrong 14 = .ok (.iconst 1, 1) := by decide +kernel
theorem d_Ch_areSourcesWrong_15 : decode c_Ch_areSourcesWrong 15 = .ok (.goto 4, 3) := by decide +kernel
theorem d_Ch_areSourcesWrong_18 : decode c_Ch_areSourcesWrong 18 = .ok (.iconst 0, 1) := by decide +kernel
theorem d_Ch_areSourcesWrong_19 : decode c_Ch_areSourcesWrong 19 = .ok (.invokestatic 130, 3) := by decide +kernel
theorem d_Ch_areSourcesWrong_22 : decode c_Ch_areSourcesWrong 22 = .ok (.ifCond .ne 50, 3) := by decide +kernel
theorem d_Ch_areSourcesWrong_25 : decode c_Ch_areSourcesWrong 25 = .ok (.iload_n 1, 1) := by decide +kernel
theorem d_Ch_areSourcesWrong_26 : decode c_Ch_areSourcesWrong 26 = .ok (.bipush 16, 2) := by decide +kernel
theorem d_Ch_areSourcesWrong_28 : decode c_Ch_areSourcesWrong 28 = .ok (.iushr, 1) := by decide +kernel
theorem d_Ch_areSourcesWrong_29 : decode c_Ch_areSourcesWrong 29 = .ok (.iload_n 3, 1) := by decide +kernel
theorem d_Ch_areSourcesWrong_30 : decode c_Ch_areSourcesWrong 30 = .ok (.iconst 2, 1) := by decide +kernel
theorem d_Ch_areSourcesWrong_31 : decode c_Ch_areSourcesWrong 31 = .ok (.if_icmp .lt 7, 3) := by decide +kernel
theorem d_Ch_areSourcesWrong_34 : decode c_Ch_areSourcesWrong 34 = .ok (.iconst 1, 1) := by decide +kernel
theorem d_Ch_areSourcesWrong_35 : decode c_Ch_areSourcesWrong 35 = .ok (.goto 4, 3) := by decide +kernel
theorem d_Ch_areSourcesWrong_38 : decode c_Ch_areSourcesWrong 38 = .ok (.iconst 0, 1) := by decide +kernel
theorem d_Ch_areSourcesWrong_39 : decode c_Ch_areSourcesWrong 39 = .ok (.invokestatic 130, 3) := by decide +kernel
theorem d_Ch_areSourcesWrong_42 : decode c_Ch_areSourcesWrong 42 = .ok (.ifCond .ne 30, 3) := by decide +kernel
theorem d_Ch_areSourcesWrong_45 : decode c_Ch_areSourcesWrong 45 = .ok (.iload_n 2, 1) := by decide +kernel
theorem d_Ch_areSourcesWrong_46 : decode c_Ch_areSourcesWrong 46 = .ok (.ldc 129, 2) := by decide +kernel
theorem d_Ch_areSourcesWrong_48 : decode c_Ch_areSourcesWrong 48 = .ok (.iand, 1) := by decide +kernel
theorem d_Ch_areSourcesWrong_49 : decode c_Ch_areSourcesWrong 49 = .ok (.iload_n 3, 1) := by decide +kernel
theorem d_Ch_areSourcesWrong_50 : decode c_Ch_areSourcesWrong 50 = .ok (.iconst 3, 1) := by decide +kernel
theorem d_Ch_areSourcesWrong_51 : decode c_Ch_areSourcesWrong 51 = .ok (.if_icmp .lt 7, 3) := by decide +kernel
theorem d_Ch_areSourcesWrong_54 : decode c_Ch_areSourcesWrong 54 = .ok (.iconst 1, 1) := by decide +kernel
theorem d_Ch_areSourcesWrong_55 : decode c_Ch_areSourcesWrong 55 = .ok (.goto 4, 3) := by decide +kernel
theorem d_Ch_areSourcesWrong_58 : decode c_Ch_areSourcesWrong 58 = .ok (.iconst 0, 1) := by decide +kernel
theorem d_Ch_areSourcesWrong_59 : decode c_Ch_areSourcesWrong 59 = .ok (.invokestatic 130, 3) := by decide +kernel
theorem d_Ch_areSourcesWrong_62 : decode c_Ch_areSourcesWrong 62 = .ok (.ifCond .ne 10, 3) := by decide +kernel
theorem d_Ch_areSourcesWrong_65 : decode c_Ch_areSourcesWrong 65 = .ok (.iload_n 2, 1) := by decide +kernel
theorem d_Ch_areSourcesWrong_66 : decode c_Ch_areSourcesWrong 66 = .ok (.bipush 16, 2) := by decide +kernel
theorem d_Ch_areSourcesWrong_68 : decode c_Ch_areSourcesWrong 68 = .ok (.iushr, 1) := by decide +kernel
theorem d_Ch_areSourcesWrong_69 : decode c_Ch_areSourcesWrong 69 = .ok (.ifCond .eq 7, 3) := by decide +kernel
theorem d_Ch_areSourcesWrong_72 : decode c_Ch_areSourcesWrong 72 = .ok (.iconst 1, 1) := by decide +kernel
theorem d_Ch_areSourcesWrong_73 : decode c_Ch_areSourcesWrong 73 = .ok (.goto 4, 3) := by decide +kernel
theorem d_Ch_areSourcesWrong_76 : decode c_Ch_areSourcesWrong 76 = .ok (.iconst 0, 1) := by decide +kernel
theorem d_Ch_areSourcesWrong_77 : decode c_Ch_areSourcesWrong 77 = .ok (.ireturn, 1) := by decide +kernel
theorem d_Ch_isNumberWrong_0 : decode c_Ch_isNumberWrong 0 = .ok (.iload_n 0, 1) := by decide +kernel
theorem d_Ch_isNumberWrong_1 : decode c_Ch_isNumberWrong 1 = .ok (.invokestatic 138, 3) := by decide +kernel
theorem d_Ch_isNumberWrong_4 : decode c_Ch_isNumberWrong 4 = .ok (.ifCond .eq 19, 3) := by decide +kernel
theorem d_Ch_isNumberWrong_7 : decode c_Ch_isNumberWrong 7 = .ok (.iload_n 1, 1) := by decide +kernel
theorem d_Ch_isNumberWrong_8 : decode c_Ch_isNumberWrong 8 = .ok (.iload_n 2, 1) := by decide +kernel
theorem d_Ch_isNumberWrong_9 : decode c_Ch_isNumberWrong 9 = .ok (.if_icmp .le 8, 3) := by decide +kernel
theorem d_Ch_isNumberWrong_12 : decode c_Ch_isNumberWrong 12 = .ok (.iload_n 1, 1) := by decide +kernel
theorem d_Ch_isNumberWrong_13 : decode c_Ch_isNumberWrong 13 = .ok (.iload_n 3, 1) := by decide +kernel
theorem d_Ch_isNumberWrong_14 : decode c_Ch_isNumberWrong 14 = .ok (.if_icmp .lt 7, 3) := by decide +kernel
theorem d_Ch_isNumberWrong_17 : decode c_Ch_isNumberWrong 17 = .ok (.iconst 1, 1) := by decide +kernel
theorem d_Ch_isNumberWrong_18 : decode c_Ch_isNumberWrong 18 = .ok (.goto 4, 3) := by decide +kernel
theorem d_Ch_isNumberWrong_21 : decode c_Ch_isNumberWrong 21 = .ok (.iconst 0, 1) := by decide +kernel
theorem d_Ch_isNumberWrong_22 : decode c_Ch_isNumberWrong 22 = .ok (.ireturn, 1) := by decide +kernel
theorem d_Ch_isNumberWrong_23 : decode c_Ch_isNumberWrong 23 = .ok (.iload_n 0, 1) := by decide +kernel
theorem d_Ch_isNumberWrong_24 : decode c_Ch_isNumberWrong 24 = .ok (.bipush 34, 2) := by decide +kernel
theorem d_Ch_isNumberWrong_26 : decode c_Ch_isNumberWrong 26 = .ok (.if_icmp .ne 21, 3) := by decide +kernel
theorem d_Ch_isNumberWrong_29 : decode c_Ch_isNumberWrong 29 = .ok (.iload_n 1, 1) := by decide +kernel
theorem d_Ch_isNumberWrong_30 : decode c_Ch_isNumberWrong 30 = .ok (.iconst 1, 1) := by decide +kernel
theorem d_Ch_isNumberWrong_31 : decode c_Ch_isNumberWrong 31 = .ok (.if_icmp .lt 10, 3) := by decide +kernel
theorem d_Ch_isNumberWrong_34 : decode c_Ch_isNumberWrong 34 = .ok (.iload_n 1, 1) := by decide +kernel
theorem d_Ch_isNumberWrong_35 : decode c_Ch_isNumberWrong 35 = .ok (.sipush 255, 3) := by decide +kernel
theorem d_Ch_isNumberWrong_38 : decode c_Ch_isNumberWrong 38 = .ok (.if_icmp .le 7, 3) := by decide +kernel
theorem d_Ch_isNumberWrong_41 : decode c_Ch_isNumberWrong 41 = .ok (.iconst 1, 1) := by decide +kernel
theorem d_Ch_isNumberWrong_42 : decode c_Ch_isNumberWrong 42 = .ok (.goto 4, 3) := by decide +kernel
theorem d_Ch_isNumberWrong_45 : decode c_Ch_isNumberWrong 45 = .ok (.iconst 0, 1) := by decide +kernel
theorem d_Ch_isNumberWrong_46 : decode c_Ch_isNumberWrong 46 = .ok (.ireturn, 1) := by decide +kernel
theorem d_Ch_isNumberWrong_47 : decode c_Ch_isNumberWrong 47 = .ok (.iload_n 0, 1) := by decide +kernel
theorem d_Ch_isNumberWrong_48 : decode c_Ch_isNumberWrong 48 = .ok (.invokestatic 141, 3) := by decide +kernel
theorem d_Ch_isNumberWrong_51 : decode c_Ch_isNumberWrong 51 = .ok (.ifCond .eq 14, 3) := by decide +kernel
theorem d_Ch_isNumberWrong_54 : decode c_Ch_isNumberWrong 54 = .ok (.iload_n 1, 1) := by decide +kernel
theorem d_Ch_isNumberWrong_55 : decode c_Ch_isNumberWrong 55 = .ok (.iconst 4, 1) := by decide +kernel
theorem d_Ch_isNumberWrong_56 : decode c_Ch_isNumberWrong 56 = .ok (.if_icmp .lt 7, 3) := by decide +kernel
theorem d_Ch_isNumberWrong_59 : decode c_Ch_isNumberWrong 59 = .ok (.iconst 1, 1) := by decide +kernel
theorem d_Ch_isNumberWrong_60 : decode c_Ch_isNumberWrong 60 = .ok (.goto 4, 3) := by decide +kernel
theorem d_Ch_isNumberWrong_63 : decode c_Ch_isNumberWrong 63 = .ok (.iconst 0, 1) := by decide +kernel
theorem d_Ch_isNumberWrong_64 : decode c_Ch_isNumberWrong 64 = .ok (.ireturn, 1) := by decide +kernel
theorem d_Ch_isNumberWrong_65 : decode c_Ch_isNumberWrong 65 = .ok (.iload_n 1, 1) := by decide +kernel
theorem d_Ch_isNumberWrong_66 : decode c_Ch_isNumberWrong 66 = .ok (.ifCond .eq 7, 3) := by decide +kernel
theorem d_Ch_isNumberWrong_69 : decode c_Ch_isNumberWrong 69 = .ok (.iconst 1, 1) := by decide +kernel
theorem d_Ch_isNumberWrong_70 : decode c_Ch_isNumberWrong 70 = .ok (.goto 4, 3) := by decide +kernel
theorem d_Ch_isNumberWrong_73 : decode c_Ch_isNumberWrong 73 = .ok (.iconst 0, 1) := by decide +kernel
theorem d_Ch_isNumberWrong_74 : decode c_Ch_isNumberWrong 74 = .ok (.ireturn, 1) := by decide +kernel
theorem d_Ch_faultOf_0 : decode c_Ch_faultOf 0 = .ok (.aload_n 1, 1) := by decide +kernel
theorem d_Ch_faultOf_1 : decode c_Ch_faultOf 1 = .ok (.iload_n 2, 1) := by decide +kernel
theorem d_Ch_faultOf_2 : decode c_Ch_faultOf 2 = .ok (.invokevirtual 77, 3) := by decide +kernel
theorem d_Ch_faultOf_5 : decode c_Ch_faultOf 5 = .ok (.istore 4, 2) := by decide +kernel
theorem d_Ch_faultOf_7 : decode c_Ch_faultOf 7 = .ok (.iload 4, 2) := by decide +kernel
theorem d_Ch_faultOf_9 : decode c_Ch_faultOf 9 = .ok (.bipush 40, 2) := by decide +kernel
theorem d_Ch_faultOf_11 : decode c_Ch_faultOf 11 = .ok (.if_icmp .le 5, 3) := by decide +kernel
theorem d_Ch_faultOf_14 : decode c_Ch_faultOf 14 = .ok (.iconst 1, 1) := by decide +kernel
theorem d_Ch_faultOf_15 : decode c_Ch_faultOf 15 = .ok (.ireturn, 1) := by decide +kernel
theorem d_Ch_faultOf_16 : decode c_Ch_faultOf 16 = .ok (.iload 4, 2) := by decide +kernel
theorem d_Ch_faultOf_18 : decode c_Ch_faultOf 18 = .ok (.aload_n 1, 1) := by decide +kernel
theorem d_Ch_faultOf_19 : decode c_Ch_faultOf 19 = .ok (.iload_n 2, 1) := by decide +kernel
theorem d_Ch_faultOf_20 : decode c_Ch_faultOf 20 = .ok (.invokevirtual 83, 3) := by decide +kernel
theorem d_Ch_faultOf_23 : decode c_Ch_faultOf 23 = .ok (.invokestatic 86, 3) := by decide +kernel
theorem d_Ch_faultOf_26 : decode c_Ch_faultOf 26 = .ok (.ifCond .eq 5, 3) := by decide +kernel
theorem d_Ch_faultOf_29 : decode c_Ch_faultOf 29 = .ok (.iconst 2, 1) := by decide +kernel
theorem d_Ch_faultOf_30 : decode c_Ch_faultOf 30 = .ok (.ireturn, 1) := by decide +kernel
theorem d_Ch_faultOf_31 : decode c_Ch_faultOf 31 = .ok (.iload 4, 2) := by decide +kernel
theorem d_Ch_faultOf_33 : decode c_Ch_faultOf 33 = .ok (.aload_n 1, 1) := by decide +kernel
theorem d_Ch_faultOf_34 : decode c_Ch_faultOf 34 = .ok (.iload_n 2, 1) := by decide +kernel
theorem d_Ch_faultOf_35 : decode c_Ch_faultOf 35 = .ok (.invokevirtual 90, 3) := by decide +kernel
theorem d_Ch_faultOf_38 : decode c_Ch_faultOf 38 = .ok (.aload_n 1, 1) := by decide +kernel
theorem d_Ch_faultOf_39 : decode c_Ch_faultOf 39 = .ok (.iload_n 2, 1) := by decide +kernel
theorem d_Ch_faultOf_40 : decode c_Ch_faultOf 40 = .ok (.invokevirtual 93, 3) := by decide +kernel
theorem d_Ch_faultOf_43 : decode c_Ch_faultOf 43 = .ok (.invokestatic 96, 3) := by decide +kernel
theorem d_Ch_faultOf_46 : decode c_Ch_faultOf 46 = .ok (.ifCond .eq 5, 3) := by decide +kernel
theorem d_Ch_faultOf_49 : decode c_Ch_faultOf 49 = .ok (.iconst 3, 1) := by decide +kernel
theorem d_Ch_faultOf_50 : decode c_Ch_faultOf 50 = .ok (.ireturn, 1) := by decide +kernel
theorem d_Ch_faultOf_51 : decode c_Ch_faultOf 51 = .ok (.iload 4, 2) := by decide +kernel
theorem d_Ch_faultOf_53 : decode c_Ch_faultOf 53 = .ok (.aload_n 1, 1) := by decide +kernel
theorem d_Ch_faultOf_54 : decode c_Ch_faultOf 54 = .ok (.iload_n 2, 1) := by decide +kernel
theorem d_Ch_faultOf_55 : decode c_Ch_faultOf 55 = .ok (.invokevirtual 100, 3) := by decide +kernel
theorem d_Ch_faultOf_58 : decode c_Ch_faultOf 58 = .ok (.iload_n 2, 1) := by decide +kernel
theorem d_Ch_faultOf_59 : decode c_Ch_faultOf 59 = .ok (.aload_n 1, 1) := by decide +kernel
theorem d_Ch_faultOf_60 : decode c_Ch_faultOf 60 = .ok (.invokevirtual 50, 3) := by decide +kernel
theorem d_Ch_faultOf_63 : decode c_Ch_faultOf 63 = .ok (.invokestatic 103, 3) := by decide +kernel
theorem d_Ch_faultOf_66 : decode c_Ch_faultOf 66 = .ok (.ifCond .eq 5, 3) := by decide +kernel
theorem d_Ch_faultOf_69 : decode c_Ch_faultOf 69 = .ok (.iconst 4, 1) := by decide +kernel
theorem d_Ch_faultOf_70 : decode c_Ch_faultOf 70 = .ok (.ireturn, 1) := by decide +kernel
theorem d_Ch_faultOf_71 : decode c_Ch_faultOf 71 = .ok (.iload 4, 2) := by decide +kernel
theorem d_Ch_faultOf_73 : decode c_Ch_faultOf 73 = .ok (.bipush 35, 2) := by decide +kernel
theorem d_Ch_faultOf_75 : decode c_Ch_faultOf 75 = .ok (.if_icmp .ne 13, 3) := by decide +kernel
theorem d_Ch_faultOf_78 : decode c_Ch_faultOf 78 = .ok (.aload_n 0, 1) := by decide +kernel
theorem d_Ch_faultOf_79 : decode c_Ch_faultOf 79 = .ok (.getfield 20, 3) := by decide +kernel
theorem d_Ch_faultOf_82 : decode c_Ch_faultOf 82 = .ok (.invokevirtual 66, 3) := by decide +kernel
theorem d_Ch_faultOf_85 : decode c_Ch_faultOf 85 = .ok (.ifCond .ne 20, 3) := by decide +kernel
theorem d_Ch_faultOf_88 : decode c_Ch_faultOf 88 = .ok (.iload 4, 2) := by decide +kernel
theorem d_Ch_faultOf_90 : decode c_Ch_faultOf 90 = .ok (.bipush 34, 2) := by decide +kernel
theorem d_Ch_faultOf_92 : decode c_Ch_faultOf 92 = .ok (.if_icmp .ne 15, 3) := by decide +kernel
theorem d_Ch_faultOf_95 : decode c_Ch_faultOf 95 = .ok (.aload_n 0, 1) := by decide +kernel
theorem d_Ch_faultOf_96 : decode c_Ch_faultOf 96 = .ok (.getfield 20, 3) := by decide +kernel
theorem d_Ch_faultOf_99 : decode c_Ch_faultOf 99 = .ok (.invokevirtual 107, 3) := by decide +kernel
theorem d_Ch_faultOf_102 : decode c_Ch_faultOf 102 = .ok (.ifCond .eq 5, 3) := by decide +kernel
theorem d_Ch_faultOf_105 : decode c_Ch_faultOf 105 = .ok (.iconst 5, 1) := by decide +kernel
theorem d_Ch_faultOf_106 : decode c_Ch_faultOf 106 = .ok (.ireturn, 1) := by decide +kernel
theorem d_Ch_faultOf_107 : decode c_Ch_faultOf 107 = .ok (.iload 4, 2) := by decide +kernel
theorem d_Ch_faultOf_109 : decode c_Ch_faultOf 109 = .ok (.ifCond .ne 7, 3) := by decide +kernel
theorem d_Ch_faultOf_112 : decode c_Ch_faultOf 112 = .ok (.iconst 1, 1) := by decide +kernel
theorem d_Ch_faultOf_113 : decode c_Ch_faultOf 113 = .ok (.goto 4, 3) := by decide +kernel
theorem d_Ch_faultOf_116 : decode c_Ch_faultOf 116 = .ok (.iconst 0, 1) := by decide +kernel
theorem d_Ch_faultOf_117 : decode c_Ch_faultOf 117 = .ok (.iload_n 2, 1) := by decide +kernel
theorem d_Ch_faultOf_118 : decode c_Ch_faultOf 118 = .ok (.aload_n 1, 1) := by decide +kernel
theorem d_Ch_faultOf_119 : decode c_Ch_faultOf 119 = .ok (.invokevirtual 50, 3) := by decide +kernel
theorem d_Ch_faultOf_122 : decode c_Ch_faultOf 122 = .ok (.iconst 1, 1) := by decide +kernel
theorem d_Ch_faultOf_123 : decode c_Ch_faultOf 123 = .ok (.isub, 1) := by decide +kernel
theorem d_Ch_faultOf_124 : decode c_Ch_faultOf 124 = .ok (.if_icmp .ne 7, 3) := by decide +kernel
theorem d_Ch_faultOf_127 : decode c_Ch_faultOf 127 = .ok (.iconst 1, 1) := by decide +kernel
theorem d_Ch_faultOf_128 : decode c_Ch_faultOf 128 = .ok (.goto 4, 3) := by decide +kernel
theorem d_Ch_faultOf_131 : decode c_Ch_faultOf 131 = .ok (.iconst 0, 1) := by decide +kernel
theorem d_Ch_faultOf_132 : decode c_Ch_faultOf 132 = .ok (.if_icmp .eq 6, 3) := by decide +kernel
theorem d_Ch_faultOf_135 : decode c_Ch_faultOf 135 = .ok (.bipush 6, 2) := by decide +kernel
theorem d_Ch_faultOf_137 : decode c_Ch_faultOf 137 = .ok (.ireturn, 1) := by decide +kernel
theorem d_Ch_faultOf_138 : decode c_Ch_faultOf 138 = .ok (.iload 4, 2) := by decide +kernel
theorem d_Ch_faultOf_140 : decode c_Ch_faultOf 140 = .ok (.bipush 38, 2) := by decide +kernel
theorem d_Ch_faultOf_142 : decode c_Ch_faultOf 142 = .ok (.if_icmp .ne 12, 3) := by decide +kernel
theorem d_Ch_faultOf_145 : decode c_Ch_faultOf 145 = .ok (.iload_n 3, 1) := by decide +kernel
theorem d_Ch_faultOf_146 : decode c_Ch_faultOf 146 = .ok (.ifCond .ne 8, 3) := by decide +kernel
theorem d_Ch_faultOf_149 : decode c_Ch_faultOf 149 = .ok (.bipush 7, 2) := by decide +kernel
theorem d_Ch_faultOf_151 : decode c_Ch_faultOf 151 = .ok (.goto 4, 3) := by decide +kernel
theorem d_Ch_faultOf_154 : decode c_Ch_faultOf 154 = .ok (.iconst 0, 1) := by decide +kernel
theorem d_Ch_faultOf_155 : decode c_Ch_faultOf 155 = .ok (.ireturn, 1) := by decide +kernel
theorem d_Ch_follow_0 : decode c_Ch_follow 0 = .ok (.iload_n 2, 1) := by decide +kernel
theorem d_Ch_follow_1 : decode c_Ch_follow 1 = .ok (.ifCond .lt 25, 3) := by decide +kernel
theorem d_Ch_follow_4 : decode c_Ch_follow 4 = .ok (.iload_n 2, 1) := by decide +kernel
theorem d_Ch_follow_5 : decode c_Ch_follow 5 = .ok (.aload_n 0, 1) := by decide +kernel
theorem d_Ch_follow_6 : decode c_Ch_follow 6 = .ok (.getfield 11, 3) := by decide +kernel
theorem d_Ch_follow_9 : decode c_Ch_follow 9 = .ok (.arraylength, 1) := by decide +kernel
theorem d_Ch_follow_10 : decode c_Ch_follow 10 = .ok (.if_icmp .ge 16, 3) := by decide +kernel
theorem d_Ch_follow_13 : decode c_Ch_follow 13 = .ok (.aload_n 0, 1) := by decide +kernel
theorem d_Ch_follow_14 : decode c_Ch_follow 14 = .ok (.getfield 11, 3) := by decide +kernel
