theorem d_Ru_perform_40 : decode c_Ru_perform 40 = .ok (.istore_n 3, 1) := by decide +kernel
theorem d_Ru_perform_41 : decode c_Ru_perform 41 = .ok (.iload_n 3, 1) := by decide +kernel
theorem d_Ru_perform_42 : decode c_Ru_perform 42 = .ok (.ifCond .eq 21, 3) := by decide +kernel
theorem d_Ru_perform_45 : decode c_Ru_perform 45 = .ok (.iload_n 2, 1) := by decide +kernel
theorem d_Ru_perform_46 : decode c_Ru_perform 46 = .ok (.ldc 58, 2) := by decide +kernel
theorem d_Ru_perform_48 : decode c_Ru_perform 48 = .ok (.if_icmp .ge 15, 3) := by decide +kernel
theorem d_Ru_perform_51 : decode c_Ru_perform 51 = .ok (.iinc 2 1, 3) := by decide +kernel
theorem d_Ru_perform_54 : decode c_Ru_perform 54 = .ok (.aload_n 0, 1) := by decide +kernel
theorem d_Ru_perform_55 : decode c_Ru_perform 55 = .ok (.aload_n 1, 1) := by decide +kernel
theorem d_Ru_perform_56 : decode c_Ru_perform 56 = .ok (.invokevirtual 59, 3) := by decide +kernel
theorem d_Ru_perform_59 : decode c_Ru_perform 59 = .ok (.istore_n 3, 1) := by decide +kernel
theorem d_Ru_perform_60 : decode c_Ru_perform 60 = .ok (.goto (-19), 3) := by decide +kernel
theorem d_Ru_perform_63 : decode c_Ru_perform 63 = .ok (.iload_n 2, 1) := by decide +kernel
theorem d_Ru_perform_64 : decode c_Ru_perform 64 = .ok (.ireturn, 1) := by decide +kernel
theorem d_Mo_thrown_0 : decode c_Mo_thrown 0 = .ok (.aload_n 0, 1) := by decide +kernel
theorem d_Mo_thrown_1 : decode c_Mo_thrown 1 = .ok (.getfield 50, 3) := by decide +kernel
theorem d_Mo_thrown_4 : decode c_Mo_thrown 4 = .ok (.ireturn, 1) := by decide +kernel
theorem d_Mo_kindOf_0 : decode c_Mo_kindOf 0 = .ok (.aload_n 0, 1) := by decide +kernel
theorem d_Mo_kindOf_1 : decode c_Mo_kindOf 1 = .ok (.iconst 3, 1) := by decide +kernel
theorem d_Mo_kindOf_2 : decode c_Mo_kindOf 2 = .ok (.iload_n 1, 1) := by decide +kernel
theorem d_Mo_kindOf_3 : decode c_Mo_kindOf 3 = .ok (.imul, 1) := by decide +kernel
theorem d_Mo_kindOf_4 : decode c_Mo_kindOf 4 = .ok (.iaload, 1) := by decide +kernel
theorem d_Mo_kindOf_5 : decode c_Mo_kindOf 5 = .ok (.bipush 63, 2) := by decide +kernel
theorem d_Mo_kindOf_7 : decode c_Mo_kindOf 7 = .ok (.iand, 1) := by decide +kernel
theorem d_Mo_kindOf_8 : decode c_Mo_kindOf 8 = .ok (.ireturn, 1) := by decide +kernel
theorem d_Mo_numberOf_0 : decode c_Mo_numberOf 0 = .ok (.aload_n 0, 1) := by decide +kernel
theorem d_Mo_numberOf_1 : decode c_Mo_numberOf 1 = .ok (.iconst 3, 1) := by decide +kernel
theorem d_Mo_numberOf_2 : decode c_Mo_numberOf 2 = .ok (.iload_n 1, 1) := by decide +kernel
theorem d_Mo_numberOf_3 : decode c_Mo_numberOf 3 = .ok (.imul, 1) := by decide +kernel
theorem d_Mo_numberOf_4 : decode c_Mo_numberOf 4 = .ok (.iaload, 1) := by decide +kernel
theorem d_Mo_numberOf_5 : decode c_Mo_numberOf 5 = .ok (.bipush 17, 2) := by decide +kernel
theorem d_Mo_numberOf_7 : decode c_Mo_numberOf 7 = .ok (.iushr, 1) := by decide +kernel
theorem d_Mo_numberOf_8 : decode c_Mo_numberOf 8 = .ok (.ireturn, 1) := by decide +kernel
theorem d_Mo_sourceOf_0 : decode c_Mo_sourceOf 0 = .ok (.iload_n 2, 1) := by decide +kernel
theorem d_Mo_sourceOf_1 : decode c_Mo_sourceOf 1 = .ok (.ifCond .ne 16, 3) := by decide +kernel
theorem d_Mo_sourceOf_4 : decode c_Mo_sourceOf 4 = .ok (.aload_n 0, 1) := by decide +kernel
theorem d_Mo_sourceOf_5 : decode c_Mo_sourceOf 5 = .ok (.iconst 3, 1) := by decide +kernel
theorem d_Mo_sourceOf_6 : decode c_Mo_sourceOf 6 = .ok (.iload_n 1, 1) := by decide +kernel
theorem d_Mo_sourceOf_7 : decode c_Mo_sourceOf 7 = .ok (.imul, 1) := by decide +kernel
theorem d_Mo_sourceOf_8 : decode c_Mo_sourceOf 8 = .ok (.iconst 1, 1) := by decide +kernel
theorem d_Mo_sourceOf_9 : decode c_Mo_sourceOf 9 = .ok (.iadd, 1) := by decide +kernel
theorem d_Mo_sourceOf_10 : decode c_Mo_sourceOf 10 = .ok (.iaload, 1) := by decide +kernel
theorem d_Mo_sourceOf_11 : decode c_Mo_sourceOf 11 = .ok (.ldc 53, 2) := by decide +kernel
theorem d_Mo_sourceOf_13 : decode c_Mo_sourceOf 13 = .ok (.iand, 1) := by decide +kernel
theorem d_Mo_sourceOf_14 : decode c_Mo_sourceOf 14 = .ok (.goto 31, 3) := by decide +kernel
theorem d_Mo_sourceOf_17 : decode c_Mo_sourceOf 17 = .ok (.iload_n 2, 1) := by decide +kernel
theorem d_Mo_sourceOf_18 : decode c_Mo_sourceOf 18 = .ok (.iconst 1, 1) := by decide +kernel
theorem d_Mo_sourceOf_19 : decode c_Mo_sourceOf 19 = .ok (.if_icmp .ne 16, 3) := by decide +kernel
theorem d_Mo_sourceOf_22 : decode c_Mo_sourceOf 22 = .ok (.aload_n 0, 1) := by decide +kernel
theorem d_Mo_sourceOf_23 : decode c_Mo_sourceOf 23 = .ok (.iconst 3, 1) := by decide +kernel
theorem d_Mo_sourceOf_24 : decode c_Mo_sourceOf 24 = .ok (.iload_n 1, 1) := by decide +kernel
theorem d_Mo_sourceOf_25 : decode c_Mo_sourceOf 25 = .ok (.imul, 1) := by decide +kernel
theorem d_Mo_sourceOf_26 : decode c_Mo_sourceOf 26 = .ok (.iconst 1, 1) := by decide +kernel
theorem d_Mo_sourceOf_27 : decode c_Mo_sourceOf 27 = .ok (.iadd, 1) := by decide +kernel
theorem d_Mo_sourceOf_28 : decode c_Mo_sourceOf 28 = .ok (.iaload, 1) := by decide +kernel
theorem d_Mo_sourceOf_29 : decode c_Mo_sourceOf 29 = .ok (.bipush 16, 2) := by decide +kernel
theorem d_Mo_sourceOf_31 : decode c_Mo_sourceOf 31 = .ok (.iushr, 1) := by decide +kernel
theorem d_Mo_sourceOf_32 : decode c_Mo_sourceOf 32 = .ok (.goto 13, 3) := by decide +kernel
theorem d_Mo_sourceOf_35 : decode c_Mo_sourceOf 35 = .ok (.aload_n 0, 1) := by decide +kernel
theorem d_Mo_sourceOf_36 : decode c_Mo_sourceOf 36 = .ok (.iconst 3, 1) := by decide +kernel
theorem d_Mo_sourceOf_37 : decode c_Mo_sourceOf 37 = .ok (.iload_n 1, 1) := by decide +kernel
theorem d_Mo_sourceOf_38 : decode c_Mo_sourceOf 38 = .ok (.imul, 1) := by decide +kernel
theorem d_Mo_sourceOf_39 : decode c_Mo_sourceOf 39 = .ok (.iconst 2, 1) := by decide +kernel
theorem d_Mo_sourceOf_40 : decode c_Mo_sourceOf 40 = .ok (.iadd, 1) := by decide +kernel
theorem d_Mo_sourceOf_41 : decode c_Mo_sourceOf 41 = .ok (.iaload, 1) := by decide +kernel
theorem d_Mo_sourceOf_42 : decode c_Mo_sourceOf 42 = .ok (.ldc 53, 2) := by decide +kernel
theorem d_Mo_sourceOf_44 : decode c_Mo_sourceOf 44 = .ok (.iand, 1) := by decide +kernel
theorem d_Mo_sourceOf_45 : decode c_Mo_sourceOf 45 = .ok (.ireturn, 1) := by decide +kernel
theorem d_Mo_hasTarget_0 : decode c_Mo_hasTarget 0 = .ok (.iload_n 0, 1) := by decide +kernel
theorem d_Mo_hasTarget_1 : decode c_Mo_hasTarget 1 = .ok (.ifCond .le 9, 3) := by decide +kernel
theorem d_Mo_hasTarget_4 : decode c_Mo_hasTarget 4 = .ok (.iload_n 0, 1) := by decide +kernel
theorem d_Mo_hasTarget_5 : decode c_Mo_hasTarget 5 = .ok (.bipush 34, 2) := by decide +kernel
theorem d_Mo_hasTarget_7 : decode c_Mo_hasTarget 7 = .ok (.if_icmp .lt 9, 3) := by decide +kernel
theorem d_Mo_hasTarget_10 : decode c_Mo_hasTarget 10 = .ok (.iload_n 0, 1) := by decide +kernel
theorem d_Mo_hasTarget_11 : decode c_Mo_hasTarget 11 = .ok (.bipush 38, 2) := by decide +kernel
theorem d_Mo_hasTarget_13 : decode c_Mo_hasTarget 13 = .ok (.if_icmp .le 7, 3) := by decide +kernel
theorem d_Mo_hasTarget_16 : decode c_Mo_hasTarget 16 = .ok (.iconst 1, 1) := by decide +kernel
theorem d_Mo_hasTarget_17 : decode c_Mo_hasTarget 17 = .ok (.goto 4, 3) := by decide +kernel
theorem d_Mo_hasTarget_20 : decode c_Mo_hasTarget 20 = .ok (.iconst 0, 1) := by decide +kernel
theorem d_Mo_hasTarget_21 : decode c_Mo_hasTarget 21 = .ok (.ireturn, 1) := by decide +kernel
theorem d_Mo_sources_0 : decode c_Mo_sources 0 = .ok (.iload_n 0, 1) := by decide +kernel
theorem d_Mo_sources_1 : decode c_Mo_sources 1 = .ok (.tableswitch 173 0 37 #[167, 173, 171, 171, 171, 169, 171, 171, 171, 171, 173, 173, 173, 173, 173, 173, 171, 171, 171, 171, 169, 169, 171, 171, 171, 171, 173, 171, 171, 171, 173, 173, 173, 173, 167, 167, 173, 167], 167) := by decide +kernel
theorem d_Mo_sources_168 : decode c_Mo_sources 168 = .ok (.iconst 0, 1) := by decide +kernel
theorem d_Mo_sources_169 : decode c_Mo_sources 169 = .ok (.ireturn, 1) := by decide +kernel
theorem d_Mo_sources_170 : decode c_Mo_sources 170 = .ok (.iconst 3, 1) := by decide +kernel
theorem d_Mo_sources_171 : decode c_Mo_sources 171 = .ok (.ireturn, 1) := by decide +kernel
theorem d_Mo_sources_172 : decode c_Mo_sources 172 = .ok (.iconst 2, 1) := by decide +kernel
theorem d_Mo_sources_173 : decode c_Mo_sources 173 = .ok (.ireturn, 1) := by decide +kernel
theorem d_Mo_sources_174 : decode c_Mo_sources 174 = .ok (.iconst 1, 1) := by decide +kernel
theorem d_Mo_sources_175 : decode c_Mo_sources 175 = .ok (.ireturn, 1) := by decide +kernel
theorem d_Mo_badTarget_0 : decode c_Mo_badTarget 0 = .ok (.aload_n 0, 1) := by decide +kernel
theorem d_Mo_badTarget_1 : decode c_Mo_badTarget 1 = .ok (.iconst 3, 1) := by decide +kernel
theorem d_Mo_badTarget_2 : decode c_Mo_badTarget 2 = .ok (.iload_n 1, 1) := by decide +kernel
theorem d_Mo_badTarget_3 : decode c_Mo_badTarget 3 = .ok (.imul, 1) := by decide +kernel
theorem d_Mo_badTarget_4 : decode c_Mo_badTarget 4 = .ok (.iaload, 1) := by decide +kernel
theorem d_Mo_badTarget_5 : decode c_Mo_badTarget 5 = .ok (.istore_n 2, 1) := by decide +kernel
theorem d_Mo_badTarget_6 : decode c_Mo_badTarget 6 = .ok (.iload_n 2, 1) := by decide +kernel
theorem d_Mo_badTarget_7 : decode c_Mo_badTarget 7 = .ok (.bipush 63, 2) := by decide +kernel
theorem d_Mo_badTarget_9 : decode c_Mo_badTarget 9 = .ok (.iand, 1) := by decide +kernel
theorem d_Mo_badTarget_10 : decode c_Mo_badTarget 10 = .ok (.invokestatic 54, 3) := by decide +kernel
theorem d_Mo_badTarget_13 : decode c_Mo_badTarget 13 = .ok (.ifCond .ne 20, 3) := by decide +kernel
theorem d_Mo_badTarget_16 : decode c_Mo_badTarget 16 = .ok (.iload_n 2, 1) := by decide +kernel
theorem d_Mo_badTarget_17 : decode c_Mo_badTarget 17 = .ok (.bipush 6, 2) := by decide +kernel
theorem d_Mo_badTarget_19 : decode c_Mo_badTarget 19 = .ok (.ishr, 1) := by decide +kernel
theorem d_Mo_badTarget_20 : decode c_Mo_badTarget 20 = .ok (.sipush 2047, 3) := by decide +kernel
theorem d_Mo_badTarget_23 : decode c_Mo_badTarget 23 = .ok (.iand, 1) := by decide +kernel
theorem d_Mo_badTarget_24 : decode c_Mo_badTarget 24 = .ok (.ifCond .eq 7, 3) := by decide +kernel
theorem d_Mo_badTarget_27 : decode c_Mo_badTarget 27 = .ok (.iconst 1, 1) := by decide +kernel
theorem d_Mo_badTarget_28 : decode c_Mo_badTarget 28 = .ok (.goto 4, 3) := by decide +kernel
theorem d_Mo_badTarget_31 : decode c_Mo_badTarget 31 = .ok (.iconst 0, 1) := by decide +kernel
theorem d_Mo_badTarget_32 : decode c_Mo_badTarget 32 = .ok (.ireturn, 1) := by decide +kernel
theorem d_Mo_badTarget_33 : decode c_Mo_badTarget 33 = .ok (.iload_n 2, 1) := by decide +kernel
theorem d_Mo_badTarget_34 : decode c_Mo_badTarget 34 = .ok (.bipush 6, 2) := by decide +kernel
theorem d_Mo_badTarget_36 : decode c_Mo_badTarget 36 = .ok (.ishr, 1) := by decide +kernel
theorem d_Mo_badTarget_37 : decode c_Mo_badTarget 37 = .ok (.iconst 3, 1) := by decide +kernel
theorem d_Mo_badTarget_38 : decode c_Mo_badTarget 38 = .ok (.iand, 1) := by decide +kernel
theorem d_Mo_badTarget_39 : decode c_Mo_badTarget 39 = .ok (.istore_n 3, 1) := by decide +kernel
theorem d_Mo_badTarget_40 : decode c_Mo_badTarget 40 = .ok (.iload_n 3, 1) := by decide +kernel
theorem d_Mo_badTarget_41 : decode c_Mo_badTarget 41 = .ok (.iconst 1, 1) := by decide +kernel
theorem d_Mo_badTarget_42 : decode c_Mo_badTarget 42 = .ok (.if_icmp .gt 30, 3) := by decide +kernel
theorem d_Mo_badTarget_45 : decode c_Mo_badTarget 45 = .ok (.iload_n 3, 1) := by decide +kernel
theorem d_Mo_badTarget_46 : decode c_Mo_badTarget 46 = .ok (.iconst 1, 1) := by decide +kernel
theorem d_Mo_badTarget_47 : decode c_Mo_badTarget 47 = .ok (.if_icmp .ne 15, 3) := by decide +kernel
theorem d_Mo_badTarget_50 : decode c_Mo_badTarget 50 = .ok (.iload_n 2, 1) := by decide +kernel
theorem d_Mo_badTarget_51 : decode c_Mo_badTarget 51 = .ok (.bipush 8, 2) := by decide +kernel
theorem d_Mo_badTarget_53 : decode c_Mo_badTarget 53 = .ok (.ishr, 1) := by decide +kernel
theorem d_Mo_badTarget_54 : decode c_Mo_badTarget 54 = .ok (.bipush 15, 2) := by decide +kernel
theorem d_Mo_badTarget_56 : decode c_Mo_badTarget 56 = .ok (.iand, 1) := by decide +kernel
theorem d_Mo_badTarget_57 : decode c_Mo_badTarget 57 = .ok (.bipush 8, 2) := by decide +kernel
theorem d_Mo_badTarget_59 : decode c_Mo_badTarget 59 = .ok (.if_icmp .ge 13, 3) := by decide +kernel
theorem d_Mo_badTarget_62 : decode c_Mo_badTarget 62 = .ok (.iload_n 2, 1) := by decide +kernel
theorem d_Mo_badTarget_63 : decode c_Mo_badTarget 63 = .ok (.bipush 12, 2) := by decide +kernel
theorem d_Mo_badTarget_65 : decode c_Mo_badTarget 65 = .ok (.ishr, 1) := by decide +kernel
theorem d_Mo_badTarget_66 : decode c_Mo_badTarget 66 = .ok (.bipush 15, 2) := by decide +kernel
theorem d_Mo_badTarget_68 : decode c_Mo_badTarget 68 = .ok (.iand, 1) := by decide +kernel
theorem d_Mo_badTarget_69 : decode c_Mo_badTarget 69 = .ok (.ifCond .ne 7, 3) := by decide +kernel
theorem d_Mo_badTarget_72 : decode c_Mo_badTarget 72 = .ok (.iconst 1, 1) := by decide +kernel
theorem d_Mo_badTarget_73 : decode c_Mo_badTarget 73 = .ok (.goto 4, 3) := by decide +kernel
theorem d_Mo_badTarget_76 : decode c_Mo_badTarget 76 = .ok (.iconst 0, 1) := by decide +kernel
theorem d_Mo_badTarget_77 : decode c_Mo_badTarget 77 = .ok (.ireturn, 1) := by decide +kernel
theorem d_Mo_badSource_0 : decode c_Mo_badSource 0 = .ok (.iload_n 1, 1) := by decide +kernel
theorem d_Mo_badSource_1 : decode c_Mo_badSource 1 = .ok (.ifCond .ne 13, 3) := by decide +kernel
theorem d_Mo_badSource_4 : decode c_Mo_badSource 4 = .ok (.iload_n 0, 1) := by decide +kernel
theorem d_Mo_badSource_5 : decode c_Mo_badSource 5 = .ok (.ifCond .eq 7, 3) := by decide +kernel
theorem d_Mo_badSource_8 : decode c_Mo_badSource 8 = .ok (.iconst 1, 1) := by decide +kernel
theorem d_Mo_badSource_9 : decode c_Mo_badSource 9 = .ok (.goto 4, 3) := by decide +kernel
theorem d_Mo_badSource_12 : decode c_Mo_badSource 12 = .ok (.iconst 0, 1) := by decide +kernel
theorem d_Mo_badSource_13 : decode c_Mo_badSource 13 = .ok (.ireturn, 1) := by decide +kernel
theorem d_Mo_badSource_14 : decode c_Mo_badSource 14 = .ok (.iload_n 0, 1) := by decide +kernel
theorem d_Mo_badSource_15 : decode c_Mo_badSource 15 = .ok (.iconst 3, 1) := by decide +kernel
theorem d_Mo_badSource_16 : decode c_Mo_badSource 16 = .ok (.iand, 1) := by decide +kernel
theorem d_Mo_badSource_17 : decode c_Mo_badSource 17 = .ok (.istore_n 2, 1) := by decide +kernel
theorem d_Mo_badSource_18 : decode c_Mo_badSource 18 = .ok (.iload_n 0, 1) := by decide +kernel
theorem d_Mo_badSource_19 : decode c_Mo_badSource 19 = .ok (.iconst 2, 1) := by decide +kernel
theorem d_Mo_badSource_20 : decode c_Mo_badSource 20 = .ok (.ishr, 1) := by decide +kernel
theorem d_Mo_badSource_21 : decode c_Mo_badSource 21 = .ok (.bipush 31, 2) := by decide +kernel
theorem d_Mo_badSource_23 : decode c_Mo_badSource 23 = .ok (.iand, 1) := by decide +kernel
theorem d_Mo_badSource_24 : decode c_Mo_badSource 24 = .ok (.istore_n 3, 1) := by decide +kernel
theorem d_Mo_badSource_25 : decode c_Mo_badSource 25 = .ok (.iload_n 2, 1) := by decide +kernel
theorem d_Mo_badSource_26 : decode c_Mo_badSource 26 = .ok (.ifCond .ne 9, 3) := by decide +kernel
theorem d_Mo_badSource_29 : decode c_Mo_badSource 29 = .ok (.iload_n 3, 1) := by decide +kernel
theorem d_Mo_badSource_30 : decode c_Mo_badSource 30 = .ok (.bipush 15, 2) := by decide +kernel
theorem d_Mo_badSource_32 : decode c_Mo_badSource 32 = .ok (.if_icmp .gt 23, 3) := by decide +kernel
theorem d_Mo_badSource_35 : decode c_Mo_badSource 35 = .ok (.iload_n 2, 1) := by decide +kernel
theorem d_Mo_badSource_36 : decode c_Mo_badSource 36 = .ok (.iconst 1, 1) := by decide +kernel
theorem d_Mo_badSource_37 : decode c_Mo_badSource 37 = .ok (.if_icmp .ne 9, 3) := by decide +kernel
theorem d_Mo_badSource_40 : decode c_Mo_badSource 40 = .ok (.iload_n 3, 1) := by decide +kernel
theorem d_Mo_badSource_41 : decode c_Mo_badSource 41 = .ok (.bipush 7, 2) := by decide +kernel
theorem d_Mo_badSource_43 : decode c_Mo_badSource 43 = .ok (.if_icmp .gt 12, 3) := by decide +kernel
theorem d_Mo_badSource_46 : decode c_Mo_badSource 46 = .ok (.iload_n 2, 1) := by decide +kernel
theorem d_Mo_badSource_47 : decode c_Mo_badSource 47 = .ok (.iconst 3, 1) := by decide +kernel
theorem d_Mo_badSource_48 : decode c_Mo_badSource 48 = .ok (.if_icmp .ne 11, 3) := by decide +kernel
theorem d_Mo_badSource_51 : decode c_Mo_badSource 51 = .ok (.iload_n 3, 1) := by decide +kernel
theorem d_Mo_badSource_52 : decode c_Mo_badSource 52 = .ok (.ifCond .le 7, 3) := by decide +kernel
theorem d_Mo_badSource_55 : decode c_Mo_badSource 55 = .ok (.iconst 1, 1) := by decide +kernel
theorem d_Mo_badSource_56 : decode c_Mo_badSource 56 = .ok (.goto 4, 3) := by decide +kernel
theorem d_Mo_badSource_59 : decode c_Mo_badSource 59 = .ok (.iconst 0, 1) := by decide +kernel
theorem d_Mo_badSource_60 : decode c_Mo_badSource 60 = .ok (.ireturn, 1) := by decide +kernel
theorem d_Mo_badSources_0 : decode c_Mo_badSources 0 = .ok (.aload_n 0, 1) := by decide +kernel
theorem d_Mo_badSources_1 : decode c_Mo_badSources 1 = .ok (.iload_n 1, 1) := by decide +kernel
theorem d_Mo_badSources_2 : decode c_Mo_badSources 2 = .ok (.invokestatic 58, 3) := by decide +kernel
theorem d_Mo_badSources_5 : decode c_Mo_badSources 5 = .ok (.invokestatic 62, 3) := by decide +kernel
theorem d_Mo_badSources_8 : decode c_Mo_badSources 8 = .ok (.istore_n 2, 1) := by decide +kernel
theorem d_Mo_badSources_9 : decode c_Mo_badSources 9 = .ok (.aload_n 0, 1) := by decide +kernel
theorem d_Mo_badSources_10 : decode c_Mo_badSources 10 = .ok (.iconst 3, 1) := by decide +kernel
theorem d_Mo_badSources_11 : decode c_Mo_badSources 11 = .ok (.iload_n 1, 1) := by decide +kernel
theorem d_Mo_badSources_12 : decode c_Mo_badSources 12 = .ok (.imul, 1) := by decide +kernel
theorem d_Mo_badSources_13 : decode c_Mo_badSources 13 = .ok (.iconst 2, 1) := by decide +kernel
theorem d_Mo_badSources_14 : decode c_Mo_badSources 14 = .ok (.iadd, 1) := by decide +kernel
theorem d_Mo_badSources_15 : decode c_Mo_badSources 15 = .ok (.iaload, 1) := by decide +kernel
theorem d_Mo_badSources_16 : decode c_Mo_badSources 16 = .ok (.bipush 16, 2) := by decide +kernel
theorem d_Mo_badSources_18 : decode c_Mo_badSources 18 = .ok (.iushr, 1) := by decide +kernel
theorem d_Mo_badSources_19 : decode c_Mo_badSources 19 = .ok (.ifCond .eq 7, 3) := by decide +kernel
theorem d_Mo_badSources_22 : decode c_Mo_badSources 22 = .ok (.iconst 1, 1) := by decide +kernel
theorem d_Mo_badSources_23 : decode c_Mo_badSources 23 = .ok (.goto 4, 3) := by decide +kernel
theorem d_Mo_badSources_26 : decode c_Mo_badSources 26 = .ok (.iconst 0, 1) := by decide +kernel
theorem d_Mo_badSources_27 : decode c_Mo_badSources 27 = .ok (.istore_n 3, 1) := by decide +kernel
theorem d_Mo_badSources_28 : decode c_Mo_badSources 28 = .ok (.iconst 0, 1) := by decide +kernel
theorem d_Mo_badSources_29 : decode c_Mo_badSources 29 = .ok (.istore 4, 2) := by decide +kernel
theorem d_Mo_badSources_31 : decode c_Mo_badSources 31 = .ok (.iload 4, 2) := by decide +kernel
theorem d_Mo_badSources_33 : decode c_Mo_badSources 33 = .ok (.iconst 3, 1) := by decide +kernel
theorem d_Mo_badSources_34 : decode c_Mo_badSources 34 = .ok (.if_icmp .ge 43, 3) := by decide +kernel
theorem d_Mo_badSources_37 : decode c_Mo_badSources 37 = .ok (.iload_n 3, 1) := by decide +kernel
theorem d_Mo_badSources_38 : decode c_Mo_badSources 38 = .ok (.ifCond .ne 27, 3) := by decide +kernel
theorem d_Mo_badSources_41 : decode c_Mo_badSources 41 = .ok (.aload_n 0, 1) := by decide +kernel
theorem d_Mo_badSources_42 : decode c_Mo_badSources 42 = .ok (.iload_n 1, 1) := by decide +kernel
theorem d_Mo_badSources_43 : decode c_Mo_badSources 43 = .ok (.iload 4, 2) := by decide +kernel
theorem d_Mo_badSources_45 : decode c_Mo_badSources 45 = .ok (.invokestatic 66, 3) := by decide +kernel
theorem d_Mo_badSources_48 : decode c_Mo_badSources 48 = .ok (.iload 4, 2) := by decide +kernel
theorem d_Mo_badSources_50 : decode c_Mo_badSources 50 = .ok (.iload_n 2, 1) := by decide +kernel
theorem d_Mo_badSources_51 : decode c_Mo_badSources 51 = .ok (.if_icmp .ge 7, 3) := by decide +kernel
theorem d_Mo_badSources_54 : decode c_Mo_badSources 54 = .ok (.iconst 1, 1) := by decide +kernel
theorem d_Mo_badSources_55 : decode c_Mo_badSources 55 = .ok (.goto 4, 3) := by decide +kernel
theorem d_Mo_badSources_58 : decode c_Mo_badSources 58 = .ok (.iconst 0, 1) := by decide +kernel
theorem d_Mo_badSources_59 : decode c_Mo_badSources 59 = .ok (.invokestatic 70, 3) := by decide +kernel
theorem d_Mo_badSources_62 : decode c_Mo_badSources 62 = .ok (.ifCond .eq 7, 3) := by decide +kernel
theorem d_Mo_badSources_65 : decode c_Mo_badSources 65 = .ok (.iconst 1, 1) := by decide +kernel
theorem d_Mo_badSources_66 : decode c_Mo_badSources 66 = .ok (.goto 4, 3) := by decide +kernel
theorem d_Mo_badSources_69 : decode c_Mo_badSources 69 = .ok (.iconst 0, 1) := by decide +kernel
theorem d_Mo_badSources_70 : decode c_Mo_badSources 70 = .ok (.istore_n 3, 1) := by decide +kernel
theorem d_Mo_badSources_71 : decode c_Mo_badSources 71 = .ok (.iinc 4 1, 3) := by decide +kernel
theorem d_Mo_badSources_74 : decode c_Mo_badSources 74 = .ok (.goto (-43), 3) := by decide +kernel
theorem d_Mo_badSources_77 : decode c_Mo_badSources 77 = .ok (.iload_n 3, 1) := by decide +kernel
theorem d_Mo_badSources_78 : decode c_Mo_badSources 78 = .ok (.ireturn, 1) := by decide +kernel
theorem d_Mo_badNumber_0 : decode c_Mo_badNumber 0 = .ok (.aload_n 0, 1) := by decide +kernel
theorem d_Mo_badNumber_1 : decode c_Mo_badNumber 1 = .ok (.iload_n 1, 1) := by decide +kernel
theorem d_Mo_badNumber_2 : decode c_Mo_badNumber 2 = .ok (.invokestatic 74, 3) := by decide +kernel
theorem d_Mo_badNumber_5 : decode c_Mo_badNumber 5 = .ok (.istore_n 3, 1) := by decide +kernel
theorem d_Mo_badNumber_6 : decode c_Mo_badNumber 6 = .ok (.aload_n 0, 1) := by decide +kernel
theorem d_Mo_badNumber_7 : decode c_Mo_badNumber 7 = .ok (.iload_n 1, 1) := by decide +kernel
theorem d_Mo_badNumber_8 : decode c_Mo_badNumber 8 = .ok (.invokestatic 58, 3) := by decide +kernel
theorem d_Mo_badNumber_11 : decode c_Mo_badNumber 11 = .ok (.tableswitch 82 32 37 #[71, 71, 53, 82, 37, 37], 37) := by decide +kernel
theorem d_Mo_badNumber_48 : decode c_Mo_badNumber 48 = .ok (.iload_n 3, 1) := by decide +kernel
theorem d_Mo_badNumber_49 : decode c_Mo_badNumber 49 = .ok (.iload_n 1, 1) := by decide +kernel
theorem d_Mo_badNumber_50 : decode c_Mo_badNumber 50 = .ok (.if_icmp .le 8, 3) := by decide +kernel
theorem d_Mo_badNumber_53 : decode c_Mo_badNumber 53 = .ok (.iload_n 3, 1) := by decide +kernel
theorem d_Mo_badNumber_54 : decode c_Mo_badNumber 54 = .ok (.iload_n 2, 1) := by decide +kernel
theorem d_Mo_badNumber_55 : decode c_Mo_badNumber 55 = .ok (.if_icmp .lt 7, 3) := by decide +kernel
theorem d_Mo_badNumber_58 : decode c_Mo_badNumber 58 = .ok (.iconst 1, 1) := by decide +kernel
theorem d_Mo_badNumber_59 : decode c_Mo_badNumber 59 = .ok (.goto 4, 3) := by decide +kernel
theorem d_Mo_badNumber_62 : decode c_Mo_badNumber 62 = .ok (.iconst 0, 1) := by decide +kernel
theorem d_Mo_badNumber_63 : decode c_Mo_badNumber 63 = .ok (.ireturn, 1) := by decide +kernel
theorem d_Mo_badNumber_64 : decode c_Mo_badNumber 64 = .ok (.iload_n 3, 1) := by decide +kernel
theorem d_Mo_badNumber_65 : decode c_Mo_badNumber 65 = .ok (.iconst 1, 1) := by decide +kernel
theorem d_Mo_badNumber_66 : decode c_Mo_badNumber 66 = .ok (.if_icmp .lt 10, 3) := by decide +kernel
theorem d_Mo_badNumber_69 : decode c_Mo_badNumber 69 = .ok (.iload_n 3, 1) := by decide +kernel
theorem d_Mo_badNumber_70 : decode c_Mo_badNumber 70 = .ok (.sipush 255, 3) := by decide +kernel
theorem d_Mo_badNumber_73 : decode c_Mo_badNumber 73 = .ok (.if_icmp .le 7, 3) := by decide +kernel
theorem d_Mo_badNumber_76 : decode c_Mo_badNumber 76 = .ok (.iconst 1, 1) := by decide +kernel
theorem d_Mo_badNumber_77 : decode c_Mo_badNumber 77 = .ok (.goto 4, 3) := by decide +kernel
