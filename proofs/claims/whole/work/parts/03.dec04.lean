theorem d_Ch_follow_17 : decode c_Ch_follow 17 = .ok (.iload_n 2, 1) := by decide +kernel
theorem d_Ch_follow_18 : decode c_Ch_follow 18 = .ok (.aload_n 0, 1) := by decide +kernel
theorem d_Ch_follow_19 : decode c_Ch_follow 19 = .ok (.getfield 20, 3) := by decide +kernel
theorem d_Ch_follow_22 : decode c_Ch_follow 22 = .ok (.invokevirtual 70, 3) := by decide +kernel
theorem d_Ch_follow_25 : decode c_Ch_follow 25 = .ok (.iastore, 1) := by decide +kernel
theorem d_Ch_follow_26 : decode c_Ch_follow 26 = .ok (.aload_n 0, 1) := by decide +kernel
theorem d_Ch_follow_27 : decode c_Ch_follow 27 = .ok (.getfield 20, 3) := by decide +kernel
theorem d_Ch_follow_30 : decode c_Ch_follow 30 = .ok (.invokevirtual 144, 3) := by decide +kernel
theorem d_Ch_follow_33 : decode c_Ch_follow 33 = .ok (.lstore_n 3, 1) := by decide +kernel
theorem d_Ch_follow_34 : decode c_Ch_follow 34 = .ok (.aload_n 0, 1) := by decide +kernel
theorem d_Ch_follow_35 : decode c_Ch_follow 35 = .ok (.dup, 1) := by decide +kernel
theorem d_Ch_follow_36 : decode c_Ch_follow 36 = .ok (.getfield 33, 3) := by decide +kernel
theorem d_Ch_follow_39 : decode c_Ch_follow 39 = .ok (.lload_n 3, 1) := by decide +kernel
theorem d_Ch_follow_40 : decode c_Ch_follow 40 = .ok (.ladd, 1) := by decide +kernel
theorem d_Ch_follow_41 : decode c_Ch_follow 41 = .ok (.putfield 33, 3) := by decide +kernel
theorem d_Ch_follow_44 : decode c_Ch_follow 44 = .ok (.aload_n 1, 1) := by decide +kernel
theorem d_Ch_follow_45 : decode c_Ch_follow 45 = .ok (.iload_n 2, 1) := by decide +kernel
theorem d_Ch_follow_46 : decode c_Ch_follow 46 = .ok (.invokevirtual 77, 3) := by decide +kernel
theorem d_Ch_follow_49 : decode c_Ch_follow 49 = .ok (.bipush 34, 2) := by decide +kernel
theorem d_Ch_follow_51 : decode c_Ch_follow 51 = .ok (.if_icmp .ne 22, 3) := by decide +kernel
theorem d_Ch_follow_54 : decode c_Ch_follow 54 = .ok (.aload_n 0, 1) := by decide +kernel
theorem d_Ch_follow_55 : decode c_Ch_follow 55 = .ok (.getfield 20, 3) := by decide +kernel
theorem d_Ch_follow_58 : decode c_Ch_follow 58 = .ok (.iload_n 2, 1) := by decide +kernel
theorem d_Ch_follow_59 : decode c_Ch_follow 59 = .ok (.lload_n 3, 1) := by decide +kernel
theorem d_Ch_follow_60 : decode c_Ch_follow 60 = .ok (.aload_n 1, 1) := by decide +kernel
theorem d_Ch_follow_61 : decode c_Ch_follow 61 = .ok (.iload_n 2, 1) := by decide +kernel
theorem d_Ch_follow_62 : decode c_Ch_follow 62 = .ok (.invokevirtual 100, 3) := by decide +kernel
theorem d_Ch_follow_65 : decode c_Ch_follow 65 = .ok (.i2l, 1) := by decide +kernel
theorem d_Ch_follow_66 : decode c_Ch_follow 66 = .ok (.lmul, 1) := by decide +kernel
theorem d_Ch_follow_67 : decode c_Ch_follow 67 = .ok (.invokevirtual 148, 3) := by decide +kernel
theorem d_Ch_follow_70 : decode c_Ch_follow 70 = .ok (.goto 20, 3) := by decide +kernel
theorem d_Ch_follow_73 : decode c_Ch_follow 73 = .ok (.aload_n 1, 1) := by decide +kernel
theorem d_Ch_follow_74 : decode c_Ch_follow 74 = .ok (.iload_n 2, 1) := by decide +kernel
theorem d_Ch_follow_75 : decode c_Ch_follow 75 = .ok (.invokevirtual 77, 3) := by decide +kernel
theorem d_Ch_follow_78 : decode c_Ch_follow 78 = .ok (.bipush 35, 2) := by decide +kernel
theorem d_Ch_follow_80 : decode c_Ch_follow 80 = .ok (.if_icmp .ne 10, 3) := by decide +kernel
theorem d_Ch_follow_83 : decode c_Ch_follow 83 = .ok (.aload_n 0, 1) := by decide +kernel
theorem d_Ch_follow_84 : decode c_Ch_follow 84 = .ok (.getfield 20, 3) := by decide +kernel
theorem d_Ch_follow_87 : decode c_Ch_follow 87 = .ok (.invokevirtual 152, 3) := by decide +kernel
theorem d_Ch_follow_90 : decode c_Ch_follow 90 = .ok (.return_, 1) := by decide +kernel
theorem d_Ch_examine_0 : decode c_Ch_examine 0 = .ok (.aload_n 0, 1) := by decide +kernel
theorem d_Ch_examine_1 : decode c_Ch_examine 1 = .ok (.iconst 0, 1) := by decide +kernel
theorem d_Ch_examine_2 : decode c_Ch_examine 2 = .ok (.iconst (-1), 1) := by decide +kernel
theorem d_Ch_examine_3 : decode c_Ch_examine 3 = .ok (.invokevirtual 43, 3) := by decide +kernel
theorem d_Ch_examine_6 : decode c_Ch_examine 6 = .ok (.aload_n 0, 1) := by decide +kernel
theorem d_Ch_examine_7 : decode c_Ch_examine 7 = .ok (.getfield 20, 3) := by decide +kernel
theorem d_Ch_examine_10 : decode c_Ch_examine 10 = .ok (.invokevirtual 47, 3) := by decide +kernel
theorem d_Ch_examine_13 : decode c_Ch_examine 13 = .ok (.aload_n 0, 1) := by decide +kernel
theorem d_Ch_examine_14 : decode c_Ch_examine 14 = .ok (.lconst 0, 1) := by decide +kernel
theorem d_Ch_examine_15 : decode c_Ch_examine 15 = .ok (.putfield 33, 3) := by decide +kernel
theorem d_Ch_examine_18 : decode c_Ch_examine 18 = .ok (.iconst 0, 1) := by decide +kernel
theorem d_Ch_examine_19 : decode c_Ch_examine 19 = .ok (.istore_n 3, 1) := by decide +kernel
theorem d_Ch_examine_20 : decode c_Ch_examine 20 = .ok (.iload_n 3, 1) := by decide +kernel
theorem d_Ch_examine_21 : decode c_Ch_examine 21 = .ok (.aload_n 1, 1) := by decide +kernel
theorem d_Ch_examine_22 : decode c_Ch_examine 22 = .ok (.invokevirtual 50, 3) := by decide +kernel
theorem d_Ch_examine_25 : decode c_Ch_examine 25 = .ok (.if_icmp .ge 37, 3) := by decide +kernel
theorem d_Ch_examine_28 : decode c_Ch_examine 28 = .ok (.aload_n 0, 1) := by decide +kernel
theorem d_Ch_examine_29 : decode c_Ch_examine 29 = .ok (.aload_n 1, 1) := by decide +kernel
theorem d_Ch_examine_30 : decode c_Ch_examine 30 = .ok (.iload_n 3, 1) := by decide +kernel
theorem d_Ch_examine_31 : decode c_Ch_examine 31 = .ok (.iload_n 2, 1) := by decide +kernel
theorem d_Ch_examine_32 : decode c_Ch_examine 32 = .ok (.invokevirtual 54, 3) := by decide +kernel
theorem d_Ch_examine_35 : decode c_Ch_examine 35 = .ok (.istore 4, 2) := by decide +kernel
theorem d_Ch_examine_37 : decode c_Ch_examine 37 = .ok (.iload 4, 2) := by decide +kernel
theorem d_Ch_examine_39 : decode c_Ch_examine 39 = .ok (.ifCond .eq 11, 3) := by decide +kernel
theorem d_Ch_examine_42 : decode c_Ch_examine 42 = .ok (.aload_n 0, 1) := by decide +kernel
theorem d_Ch_examine_43 : decode c_Ch_examine 43 = .ok (.iload 4, 2) := by decide +kernel
theorem d_Ch_examine_45 : decode c_Ch_examine 45 = .ok (.iload_n 3, 1) := by decide +kernel
theorem d_Ch_examine_46 : decode c_Ch_examine 46 = .ok (.invokevirtual 43, 3) := by decide +kernel
theorem d_Ch_examine_49 : decode c_Ch_examine 49 = .ok (.return_, 1) := by decide +kernel
theorem d_Ch_examine_50 : decode c_Ch_examine 50 = .ok (.aload_n 0, 1) := by decide +kernel
theorem d_Ch_examine_51 : decode c_Ch_examine 51 = .ok (.aload_n 1, 1) := by decide +kernel
theorem d_Ch_examine_52 : decode c_Ch_examine 52 = .ok (.iload_n 3, 1) := by decide +kernel
theorem d_Ch_examine_53 : decode c_Ch_examine 53 = .ok (.invokevirtual 58, 3) := by decide +kernel
theorem d_Ch_examine_56 : decode c_Ch_examine 56 = .ok (.iinc 3 1, 3) := by decide +kernel
theorem d_Ch_examine_59 : decode c_Ch_examine 59 = .ok (.goto (-39), 3) := by decide +kernel
theorem d_Ch_examine_62 : decode c_Ch_examine 62 = .ok (.aload_n 0, 1) := by decide +kernel
theorem d_Ch_examine_63 : decode c_Ch_examine 63 = .ok (.aload_n 1, 1) := by decide +kernel
theorem d_Ch_examine_64 : decode c_Ch_examine 64 = .ok (.invokevirtual 62, 3) := by decide +kernel
theorem d_Ch_examine_67 : decode c_Ch_examine 67 = .ok (.return_, 1) := by decide +kernel
theorem d_Ru_wasKilled_0 : decode c_Ru_wasKilled 0 = .ok (.aload_n 0, 1) := by decide +kernel
theorem d_Ru_wasKilled_1 : decode c_Ru_wasKilled 1 = .ok (.getfield 35, 3) := by decide +kernel
theorem d_Ru_wasKilled_4 : decode c_Ru_wasKilled 4 = .ok (.ireturn, 1) := by decide +kernel
theorem d_Ru_negate_0 : decode c_Ru_negate 0 = .ok (.iconst 0, 1) := by decide +kernel
theorem d_Ru_negate_1 : decode c_Ru_negate 1 = .ok (.istore_n 1, 1) := by decide +kernel
theorem d_Ru_negate_2 : decode c_Ru_negate 2 = .ok (.iload_n 1, 1) := by decide +kernel
theorem d_Ru_negate_3 : decode c_Ru_negate 3 = .ok (.aload_n 0, 1) := by decide +kernel
theorem d_Ru_negate_4 : decode c_Ru_negate 4 = .ok (.arraylength, 1) := by decide +kernel
theorem d_Ru_negate_5 : decode c_Ru_negate 5 = .ok (.if_icmp .ge 16, 3) := by decide +kernel
theorem d_Ru_negate_8 : decode c_Ru_negate 8 = .ok (.aload_n 0, 1) := by decide +kernel
theorem d_Ru_negate_9 : decode c_Ru_negate 9 = .ok (.iload_n 1, 1) := by decide +kernel
theorem d_Ru_negate_10 : decode c_Ru_negate 10 = .ok (.aload_n 0, 1) := by decide +kernel
theorem d_Ru_negate_11 : decode c_Ru_negate 11 = .ok (.iload_n 1, 1) := by decide +kernel
theorem d_Ru_negate_12 : decode c_Ru_negate 12 = .ok (.iaload, 1) := by decide +kernel
theorem d_Ru_negate_13 : decode c_Ru_negate 13 = .ok (.ineg, 1) := by decide +kernel
theorem d_Ru_negate_14 : decode c_Ru_negate 14 = .ok (.iastore, 1) := by decide +kernel
theorem d_Ru_negate_15 : decode c_Ru_negate 15 = .ok (.iinc 1 1, 3) := by decide +kernel
theorem d_Ru_negate_18 : decode c_Ru_negate 18 = .ok (.goto (-16), 3) := by decide +kernel
theorem d_Ru_negate_21 : decode c_Ru_negate 21 = .ok (.return_, 1) := by decide +kernel
theorem d_Ru_readSource_0 : decode c_Ru_readSource 0 = .ok (.aload_n 0, 1) := by decide +kernel
theorem d_Ru_readSource_1 : decode c_Ru_readSource 1 = .ok (.getfield 31, 3) := by decide +kernel
theorem d_Ru_readSource_4 : decode c_Ru_readSource 4 = .ok (.iload_n 1, 1) := by decide +kernel
theorem d_Ru_readSource_5 : decode c_Ru_readSource 5 = .ok (.invokestatic 125, 3) := by decide +kernel
theorem d_Ru_readSource_8 : decode c_Ru_readSource 8 = .ok (.invokevirtual 130, 3) := by decide +kernel
theorem d_Ru_readSource_11 : decode c_Ru_readSource 11 = .ok (.astore_n 3, 1) := by decide +kernel
theorem d_Ru_readSource_12 : decode c_Ru_readSource 12 = .ok (.aload_n 3, 1) := by decide +kernel
theorem d_Ru_readSource_13 : decode c_Ru_readSource 13 = .ok (.iload_n 1, 1) := by decide +kernel
theorem d_Ru_readSource_14 : decode c_Ru_readSource 14 = .ok (.invokestatic 134, 3) := by decide +kernel
theorem d_Ru_readSource_17 : decode c_Ru_readSource 17 = .ok (.iload_n 1, 1) := by decide +kernel
theorem d_Ru_readSource_18 : decode c_Ru_readSource 18 = .ok (.invokestatic 135, 3) := by decide +kernel
theorem d_Ru_readSource_21 : decode c_Ru_readSource 21 = .ok (.aload_n 2, 1) := by decide +kernel
theorem d_Ru_readSource_22 : decode c_Ru_readSource 22 = .ok (.invokevirtual 138, 3) := by decide +kernel
theorem d_Ru_readSource_25 : decode c_Ru_readSource 25 = .ok (.iload_n 1, 1) := by decide +kernel
theorem d_Ru_readSource_26 : decode c_Ru_readSource 26 = .ok (.invokestatic 142, 3) := by decide +kernel
theorem d_Ru_readSource_29 : decode c_Ru_readSource 29 = .ok (.ifCond .eq 7, 3) := by decide +kernel
theorem d_Ru_readSource_32 : decode c_Ru_readSource 32 = .ok (.aload_n 2, 1) := by decide +kernel
theorem d_Ru_readSource_33 : decode c_Ru_readSource 33 = .ok (.invokestatic 146, 3) := by decide +kernel
theorem d_Ru_readSource_36 : decode c_Ru_readSource 36 = .ok (.return_, 1) := by decide +kernel
theorem d_Ru_readSources_0 : decode c_Ru_readSources 0 = .ok (.iload_n 3, 1) := by decide +kernel
theorem d_Ru_readSources_1 : decode c_Ru_readSources 1 = .ok (.iconst 1, 1) := by decide +kernel
theorem d_Ru_readSources_2 : decode c_Ru_readSources 2 = .ok (.if_icmp .lt 19, 3) := by decide +kernel
theorem d_Ru_readSources_5 : decode c_Ru_readSources 5 = .ok (.aload_n 0, 1) := by decide +kernel
theorem d_Ru_readSources_6 : decode c_Ru_readSources 6 = .ok (.aload_n 1, 1) := by decide +kernel
theorem d_Ru_readSources_7 : decode c_Ru_readSources 7 = .ok (.iload_n 2, 1) := by decide +kernel
theorem d_Ru_readSources_8 : decode c_Ru_readSources 8 = .ok (.invokevirtual 114, 3) := by decide +kernel
theorem d_Ru_readSources_11 : decode c_Ru_readSources 11 = .ok (.ldc 117, 2) := by decide +kernel
theorem d_Ru_readSources_13 : decode c_Ru_readSources 13 = .ok (.iand, 1) := by decide +kernel
theorem d_Ru_readSources_14 : decode c_Ru_readSources 14 = .ok (.aload_n 0, 1) := by decide +kernel
theorem d_Ru_readSources_15 : decode c_Ru_readSources 15 = .ok (.getfield 9, 3) := by decide +kernel
theorem d_Ru_readSources_18 : decode c_Ru_readSources 18 = .ok (.invokevirtual 118, 3) := by decide +kernel
theorem d_Ru_readSources_21 : decode c_Ru_readSources 21 = .ok (.iload_n 3, 1) := by decide +kernel
theorem d_Ru_readSources_22 : decode c_Ru_readSources 22 = .ok (.iconst 2, 1) := by decide +kernel
theorem d_Ru_readSources_23 : decode c_Ru_readSources 23 = .ok (.if_icmp .lt 19, 3) := by decide +kernel
theorem d_Ru_readSources_26 : decode c_Ru_readSources 26 = .ok (.aload_n 0, 1) := by decide +kernel
theorem d_Ru_readSources_27 : decode c_Ru_readSources 27 = .ok (.aload_n 1, 1) := by decide +kernel
theorem d_Ru_readSources_28 : decode c_Ru_readSources 28 = .ok (.iload_n 2, 1) := by decide +kernel
theorem d_Ru_readSources_29 : decode c_Ru_readSources 29 = .ok (.invokevirtual 114, 3) := by decide +kernel
theorem d_Ru_readSources_32 : decode c_Ru_readSources 32 = .ok (.bipush 16, 2) := by decide +kernel
theorem d_Ru_readSources_34 : decode c_Ru_readSources 34 = .ok (.iushr, 1) := by decide +kernel
theorem d_Ru_readSources_35 : decode c_Ru_readSources 35 = .ok (.aload_n 0, 1) := by decide +kernel
theorem d_Ru_readSources_36 : decode c_Ru_readSources 36 = .ok (.getfield 15, 3) := by decide +kernel
theorem d_Ru_readSources_39 : decode c_Ru_readSources 39 = .ok (.invokevirtual 118, 3) := by decide +kernel
theorem d_Ru_readSources_42 : decode c_Ru_readSources 42 = .ok (.iload_n 3, 1) := by decide +kernel
theorem d_Ru_readSources_43 : decode c_Ru_readSources 43 = .ok (.iconst 3, 1) := by decide +kernel
theorem d_Ru_readSources_44 : decode c_Ru_readSources 44 = .ok (.if_icmp .lt 19, 3) := by decide +kernel
theorem d_Ru_readSources_47 : decode c_Ru_readSources 47 = .ok (.aload_n 0, 1) := by decide +kernel
theorem d_Ru_readSources_48 : decode c_Ru_readSources 48 = .ok (.aload_n 1, 1) := by decide +kernel
theorem d_Ru_readSources_49 : decode c_Ru_readSources 49 = .ok (.iload_n 2, 1) := by decide +kernel
theorem d_Ru_readSources_50 : decode c_Ru_readSources 50 = .ok (.invokevirtual 122, 3) := by decide +kernel
theorem d_Ru_readSources_53 : decode c_Ru_readSources 53 = .ok (.ldc 117, 2) := by decide +kernel
theorem d_Ru_readSources_55 : decode c_Ru_readSources 55 = .ok (.iand, 1) := by decide +kernel
theorem d_Ru_readSources_56 : decode c_Ru_readSources 56 = .ok (.aload_n 0, 1) := by decide +kernel
theorem d_Ru_readSources_57 : decode c_Ru_readSources 57 = .ok (.getfield 18, 3) := by decide +kernel
theorem d_Ru_readSources_60 : decode c_Ru_readSources 60 = .ok (.invokevirtual 118, 3) := by decide +kernel
theorem d_Ru_readSources_63 : decode c_Ru_readSources 63 = .ok (.return_, 1) := by decide +kernel
theorem d_Ru_endRound_0 : decode c_Ru_endRound 0 = .ok (.aload_n 0, 1) := by decide +kernel
theorem d_Ru_endRound_1 : decode c_Ru_endRound 1 = .ok (.getfield 27, 3) := by decide +kernel
theorem d_Ru_endRound_4 : decode c_Ru_endRound 4 = .ok (.invokevirtual 99, 3) := by decide +kernel
theorem d_Ru_endRound_7 : decode c_Ru_endRound 7 = .ok (.lconst 1, 1) := by decide +kernel
theorem d_Ru_endRound_8 : decode c_Ru_endRound 8 = .ok (.lsub, 1) := by decide +kernel
theorem d_Ru_endRound_9 : decode c_Ru_endRound 9 = .ok (.lstore_n 1, 1) := by decide +kernel
theorem d_Ru_endRound_10 : decode c_Ru_endRound 10 = .ok (.lload_n 1, 1) := by decide +kernel
theorem d_Ru_endRound_11 : decode c_Ru_endRound 11 = .ok (.lconst 0, 1) := by decide +kernel
theorem d_Ru_endRound_12 : decode c_Ru_endRound 12 = .ok (.lcmp, 1) := by decide +kernel
theorem d_Ru_endRound_13 : decode c_Ru_endRound 13 = .ok (.ifCond .le 27, 3) := by decide +kernel
theorem d_Ru_endRound_16 : decode c_Ru_endRound 16 = .ok (.aload_n 0, 1) := by decide +kernel
theorem d_Ru_endRound_17 : decode c_Ru_endRound 17 = .ok (.getfield 27, 3) := by decide +kernel
theorem d_Ru_endRound_20 : decode c_Ru_endRound 20 = .ok (.lload_n 1, 1) := by decide +kernel
theorem d_Ru_endRound_21 : decode c_Ru_endRound 21 = .ok (.invokevirtual 103, 3) := by decide +kernel
theorem d_Ru_endRound_24 : decode c_Ru_endRound 24 = .ok (.aload_n 0, 1) := by decide +kernel
theorem d_Ru_endRound_25 : decode c_Ru_endRound 25 = .ok (.aload_n 0, 1) := by decide +kernel
theorem d_Ru_endRound_26 : decode c_Ru_endRound 26 = .ok (.getfield 27, 3) := by decide +kernel
theorem d_Ru_endRound_29 : decode c_Ru_endRound 29 = .ok (.invokevirtual 107, 3) := by decide +kernel
theorem d_Ru_endRound_32 : decode c_Ru_endRound 32 = .ok (.iconst 1, 1) := by decide +kernel
theorem d_Ru_endRound_33 : decode c_Ru_endRound 33 = .ok (.iadd, 1) := by decide +kernel
theorem d_Ru_endRound_34 : decode c_Ru_endRound 34 = .ok (.putfield 52, 3) := by decide +kernel
theorem d_Ru_endRound_37 : decode c_Ru_endRound 37 = .ok (.goto 10, 3) := by decide +kernel
theorem d_Ru_endRound_40 : decode c_Ru_endRound 40 = .ok (.aload_n 0, 1) := by decide +kernel
theorem d_Ru_endRound_41 : decode c_Ru_endRound 41 = .ok (.getfield 27, 3) := by decide +kernel
theorem d_Ru_endRound_44 : decode c_Ru_endRound 44 = .ok (.invokevirtual 111, 3) := by decide +kernel
theorem d_Ru_endRound_47 : decode c_Ru_endRound 47 = .ok (.return_, 1) := by decide +kernel
theorem d_Ru_ofBits_0 : decode c_Ru_ofBits 0 = .ok (.iload_n 0, 1) := by decide +kernel
theorem d_Ru_ofBits_1 : decode c_Ru_ofBits 1 = .ok (.tableswitch 192 11 40 #[135, 140, 192, 192, 192, 192, 192, 192, 192, 192, 192, 192, 145, 149, 153, 157, 161, 168, 175, 192, 192, 192, 192, 192, 192, 192, 192, 192, 182, 187], 135) := by decide +kernel
theorem d_Ru_ofBits_136 : decode c_Ru_ofBits 136 = .ok (.iload_n 1, 1) := by decide +kernel
theorem d_Ru_ofBits_137 : decode c_Ru_ofBits 137 = .ok (.ldc 249, 2) := by decide +kernel
theorem d_Ru_ofBits_139 : decode c_Ru_ofBits 139 = .ok (.iand, 1) := by decide +kernel
theorem d_Ru_ofBits_140 : decode c_Ru_ofBits 140 = .ok (.ireturn, 1) := by decide +kernel
theorem d_Ru_ofBits_141 : decode c_Ru_ofBits 141 = .ok (.iload_n 1, 1) := by decide +kernel
theorem d_Ru_ofBits_142 : decode c_Ru_ofBits 142 = .ok (.ldc 117, 2) := by decide +kernel
theorem d_Ru_ofBits_144 : decode c_Ru_ofBits 144 = .ok (.iand, 1) := by decide +kernel
theorem d_Ru_ofBits_145 : decode c_Ru_ofBits 145 = .ok (.ireturn, 1) := by decide +kernel
theorem d_Ru_ofBits_146 : decode c_Ru_ofBits 146 = .ok (.iload_n 1, 1) := by decide +kernel
theorem d_Ru_ofBits_147 : decode c_Ru_ofBits 147 = .ok (.iload_n 2, 1) := by decide +kernel
theorem d_Ru_ofBits_148 : decode c_Ru_ofBits 148 = .ok (.iand, 1) := by decide +kernel
theorem d_Ru_ofBits_149 : decode c_Ru_ofBits 149 = .ok (.ireturn, 1) := by decide +kernel
theorem d_Ru_ofBits_150 : decode c_Ru_ofBits 150 = .ok (.iload_n 1, 1) := by decide +kernel
theorem d_Ru_ofBits_151 : decode c_Ru_ofBits 151 = .ok (.iload_n 2, 1) := by decide +kernel
theorem d_Ru_ofBits_152 : decode c_Ru_ofBits 152 = .ok (.ior, 1) := by decide +kernel
theorem d_Ru_ofBits_153 : decode c_Ru_ofBits 153 = .ok (.ireturn, 1) := by decide +kernel
theorem d_Ru_ofBits_154 : decode c_Ru_ofBits 154 = .ok (.iload_n 1, 1) := by decide +kernel
theorem d_Ru_ofBits_155 : decode c_Ru_ofBits 155 = .ok (.iload_n 2, 1) := by decide +kernel
theorem d_Ru_ofBits_156 : decode c_Ru_ofBits 156 = .ok (.ixor, 1) := by decide +kernel
theorem d_Ru_ofBits_157 : decode c_Ru_ofBits 157 = .ok (.ireturn, 1) := by decide +kernel
theorem d_Ru_ofBits_158 : decode c_Ru_ofBits 158 = .ok (.iload_n 1, 1) := by decide +kernel
theorem d_Ru_ofBits_159 : decode c_Ru_ofBits 159 = .ok (.iconst (-1), 1) := by decide +kernel
theorem d_Ru_ofBits_160 : decode c_Ru_ofBits 160 = .ok (.ixor, 1) := by decide +kernel
theorem d_Ru_ofBits_161 : decode c_Ru_ofBits 161 = .ok (.ireturn, 1) := by decide +kernel
theorem d_Ru_ofBits_162 : decode c_Ru_ofBits 162 = .ok (.iload_n 1, 1) := by decide +kernel
theorem d_Ru_ofBits_163 : decode c_Ru_ofBits 163 = .ok (.iload_n 2, 1) := by decide +kernel
theorem d_Ru_ofBits_164 : decode c_Ru_ofBits 164 = .ok (.bipush 31, 2) := by decide +kernel
theorem d_Ru_ofBits_166 : decode c_Ru_ofBits 166 = .ok (.iand, 1) := by decide +kernel
theorem d_Ru_ofBits_167 : decode c_Ru_ofBits 167 = .ok (.ishl, 1) := by decide +kernel
theorem d_Ru_ofBits_168 : decode c_Ru_ofBits 168 = .ok (.ireturn, 1) := by decide +kernel
theorem d_Ru_ofBits_169 : decode c_Ru_ofBits 169 = .ok (.iload_n 1, 1) := by decide +kernel
theorem d_Ru_ofBits_170 : decode c_Ru_ofBits 170 = .ok (.iload_n 2, 1) := by decide +kernel
theorem d_Ru_ofBits_171 : decode c_Ru_ofBits 171 = .ok (.bipush 31, 2) := by decide +kernel
theorem d_Ru_ofBits_173 : decode c_Ru_ofBits 173 = .ok (.iand, 1) := by decide +kernel
theorem d_Ru_ofBits_174 : decode c_Ru_ofBits 174 = .ok (.ishr, 1) := by decide +kernel
theorem d_Ru_ofBits_175 : decode c_Ru_ofBits 175 = .ok (.ireturn, 1) := by decide +kernel
theorem d_Ru_ofBits_176 : decode c_Ru_ofBits 176 = .ok (.iload_n 1, 1) := by decide +kernel
theorem d_Ru_ofBits_177 : decode c_Ru_ofBits 177 = .ok (.iload_n 2, 1) := by decide +kernel
theorem d_Ru_ofBits_178 : decode c_Ru_ofBits 178 = .ok (.bipush 31, 2) := by decide +kernel
theorem d_Ru_ofBits_180 : decode c_Ru_ofBits 180 = .ok (.iand, 1) := by decide +kernel
theorem d_Ru_ofBits_181 : decode c_Ru_ofBits 181 = .ok (.iushr, 1) := by decide +kernel
theorem d_Ru_ofBits_182 : decode c_Ru_ofBits 182 = .ok (.ireturn, 1) := by decide +kernel
theorem d_Ru_ofBits_183 : decode c_Ru_ofBits 183 = .ok (.iload_n 1, 1) := by decide +kernel
theorem d_Ru_ofBits_184 : decode c_Ru_ofBits 184 = .ok (.bipush 16, 2) := by decide +kernel
theorem d_Ru_ofBits_186 : decode c_Ru_ofBits 186 = .ok (.ishr, 1) := by decide +kernel
theorem d_Ru_ofBits_187 : decode c_Ru_ofBits 187 = .ok (.ireturn, 1) := by decide +kernel
theorem d_Ru_ofBits_188 : decode c_Ru_ofBits 188 = .ok (.iload_n 1, 1) := by decide +kernel
theorem d_Ru_ofBits_189 : decode c_Ru_ofBits 189 = .ok (.bipush 16, 2) := by decide +kernel
theorem d_Ru_ofBits_191 : decode c_Ru_ofBits 191 = .ok (.ishl, 1) := by decide +kernel
theorem d_Ru_ofBits_192 : decode c_Ru_ofBits 192 = .ok (.ireturn, 1) := by decide +kernel
theorem d_Ru_ofBits_193 : decode c_Ru_ofBits 193 = .ok (.iconst 0, 1) := by decide +kernel
theorem d_Ru_ofBits_194 : decode c_Ru_ofBits 194 = .ok (.ireturn, 1) := by decide +kernel
theorem d_Ru_ofParts_0 : decode c_Ru_ofParts 0 = .ok (.iload_n 0, 1) := by decide +kernel
theorem d_Ru_ofParts_1 : decode c_Ru_ofParts 1 = .ok (.tableswitch 216 1 21 #[99, 101, 105, 109, 115, 216, 216, 123, 129, 135, 216, 216, 216, 216, 216, 140, 154, 168, 182, 196, 206], 99) := by decide +kernel
theorem d_Ru_ofParts_100 : decode c_Ru_ofParts 100 = .ok (.iload_n 1, 1) := by decide +kernel
theorem d_Ru_ofParts_101 : decode c_Ru_ofParts 101 = .ok (.ireturn, 1) := by decide +kernel
theorem d_Ru_ofParts_102 : decode c_Ru_ofParts 102 = .ok (.iload_n 1, 1) := by decide +kernel
theorem d_Ru_ofParts_103 : decode c_Ru_ofParts 103 = .ok (.iload_n 2, 1) := by decide +kernel
theorem d_Ru_ofParts_104 : decode c_Ru_ofParts 104 = .ok (.iadd, 1) := by decide +kernel
theorem d_Ru_ofParts_105 : decode c_Ru_ofParts 105 = .ok (.ireturn, 1) := by decide +kernel
theorem d_Ru_ofParts_106 : decode c_Ru_ofParts 106 = .ok (.iload_n 1, 1) := by decide +kernel
theorem d_Ru_ofParts_107 : decode c_Ru_ofParts 107 = .ok (.iload_n 2, 1) := by decide +kernel
theorem d_Ru_ofParts_108 : decode c_Ru_ofParts 108 = .ok (.isub, 1) := by decide +kernel
theorem d_Ru_ofParts_109 : decode c_Ru_ofParts 109 = .ok (.ireturn, 1) := by decide +kernel
theorem d_Ru_ofParts_110 : decode c_Ru_ofParts 110 = .ok (.iload_n 1, 1) := by decide +kernel
theorem d_Ru_ofParts_111 : decode c_Ru_ofParts 111 = .ok (.iload_n 2, 1) := by decide +kernel
theorem d_Ru_ofParts_112 : decode c_Ru_ofParts 112 = .ok (.invokestatic 209, 3) := by decide +kernel
theorem d_Ru_ofParts_115 : decode c_Ru_ofParts 115 = .ok (.ireturn, 1) := by decide +kernel
