theorem d_Mo_check_64 : decode c_Mo_check 64 = .ok (.invokestatic 105, 3) := by decide +kernel
theorem d_Mo_check_67 : decode c_Mo_check 67 = .ok (.ifCond .ge 11, 3) := by decide +kernel
theorem d_Mo_check_70 : decode c_Mo_check 70 = .ok (.aload_n 0, 1) := by decide +kernel
theorem d_Mo_check_71 : decode c_Mo_check 71 = .ok (.iconst 5, 1) := by decide +kernel
theorem d_Mo_check_72 : decode c_Mo_check 72 = .ok (.iload 4, 2) := by decide +kernel
theorem d_Mo_check_74 : decode c_Mo_check 74 = .ok (.invokevirtual 101, 3) := by decide +kernel
theorem d_Mo_check_77 : decode c_Mo_check 77 = .ok (.ireturn, 1) := by decide +kernel
theorem d_Mo_check_78 : decode c_Mo_check 78 = .ok (.iinc 4 (-1), 3) := by decide +kernel
theorem d_Mo_check_81 : decode c_Mo_check 81 = .ok (.goto (-37), 3) := by decide +kernel
theorem d_Mo_check_84 : decode c_Mo_check 84 = .ok (.iconst 0, 1) := by decide +kernel
theorem d_Mo_check_85 : decode c_Mo_check 85 = .ok (.istore 4, 2) := by decide +kernel
theorem d_Mo_check_87 : decode c_Mo_check 87 = .ok (.iload 4, 2) := by decide +kernel
theorem d_Mo_check_89 : decode c_Mo_check 89 = .ok (.iload_n 2, 1) := by decide +kernel
theorem d_Mo_check_90 : decode c_Mo_check 90 = .ok (.if_icmp .ge 70, 3) := by decide +kernel
theorem d_Mo_check_93 : decode c_Mo_check 93 = .ok (.aload_n 1, 1) := by decide +kernel
theorem d_Mo_check_94 : decode c_Mo_check 94 = .ok (.iload 4, 2) := by decide +kernel
theorem d_Mo_check_96 : decode c_Mo_check 96 = .ok (.invokestatic 58, 3) := by decide +kernel
theorem d_Mo_check_99 : decode c_Mo_check 99 = .ok (.bipush 36, 2) := by decide +kernel
theorem d_Mo_check_101 : decode c_Mo_check 101 = .ok (.if_icmp .eq 14, 3) := by decide +kernel
theorem d_Mo_check_104 : decode c_Mo_check 104 = .ok (.aload_n 1, 1) := by decide +kernel
theorem d_Mo_check_105 : decode c_Mo_check 105 = .ok (.iload 4, 2) := by decide +kernel
theorem d_Mo_check_107 : decode c_Mo_check 107 = .ok (.invokestatic 58, 3) := by decide +kernel
theorem d_Mo_check_110 : decode c_Mo_check 110 = .ok (.bipush 37, 2) := by decide +kernel
theorem d_Mo_check_112 : decode c_Mo_check 112 = .ok (.if_icmp .ne 7, 3) := by decide +kernel
theorem d_Mo_check_115 : decode c_Mo_check 115 = .ok (.iconst 1, 1) := by decide +kernel
theorem d_Mo_check_116 : decode c_Mo_check 116 = .ok (.goto 4, 3) := by decide +kernel
theorem d_Mo_check_119 : decode c_Mo_check 119 = .ok (.iconst 0, 1) := by decide +kernel
theorem d_Mo_check_120 : decode c_Mo_check 120 = .ok (.istore 5, 2) := by decide +kernel
theorem d_Mo_check_122 : decode c_Mo_check 122 = .ok (.iload 5, 2) := by decide +kernel
theorem d_Mo_check_124 : decode c_Mo_check 124 = .ok (.ifCond .eq 30, 3) := by decide +kernel
theorem d_Mo_check_127 : decode c_Mo_check 127 = .ok (.aload_n 1, 1) := by decide +kernel
theorem d_Mo_check_128 : decode c_Mo_check 128 = .ok (.iload 4, 2) := by decide +kernel
theorem d_Mo_check_130 : decode c_Mo_check 130 = .ok (.invokestatic 91, 3) := by decide +kernel
theorem d_Mo_check_133 : decode c_Mo_check 133 = .ok (.aload_n 1, 1) := by decide +kernel
theorem d_Mo_check_134 : decode c_Mo_check 134 = .ok (.aload_n 1, 1) := by decide +kernel
theorem d_Mo_check_135 : decode c_Mo_check 135 = .ok (.iload 4, 2) := by decide +kernel
theorem d_Mo_check_137 : decode c_Mo_check 137 = .ok (.invokestatic 74, 3) := by decide +kernel
theorem d_Mo_check_140 : decode c_Mo_check 140 = .ok (.invokestatic 91, 3) := by decide +kernel
theorem d_Mo_check_143 : decode c_Mo_check 143 = .ok (.if_icmp .eq 11, 3) := by decide +kernel
theorem d_Mo_check_146 : decode c_Mo_check 146 = .ok (.aload_n 0, 1) := by decide +kernel
theorem d_Mo_check_147 : decode c_Mo_check 147 = .ok (.iconst 5, 1) := by decide +kernel
theorem d_Mo_check_148 : decode c_Mo_check 148 = .ok (.iload 4, 2) := by decide +kernel
theorem d_Mo_check_150 : decode c_Mo_check 150 = .ok (.invokevirtual 101, 3) := by decide +kernel
theorem d_Mo_check_153 : decode c_Mo_check 153 = .ok (.ireturn, 1) := by decide +kernel
theorem d_Mo_check_154 : decode c_Mo_check 154 = .ok (.iinc 4 1, 3) := by decide +kernel
theorem d_Mo_check_157 : decode c_Mo_check 157 = .ok (.goto (-70), 3) := by decide +kernel
theorem d_Mo_check_160 : decode c_Mo_check 160 = .ok (.aload_n 1, 1) := by decide +kernel
theorem d_Mo_check_161 : decode c_Mo_check 161 = .ok (.iload_n 2, 1) := by decide +kernel
theorem d_Mo_check_162 : decode c_Mo_check 162 = .ok (.invokestatic 108, 3) := by decide +kernel
theorem d_Mo_check_165 : decode c_Mo_check 165 = .ok (.ldc2_w 112, 3) := by decide +kernel
theorem d_Mo_check_168 : decode c_Mo_check 168 = .ok (.lcmp, 1) := by decide +kernel
theorem d_Mo_check_169 : decode c_Mo_check 169 = .ok (.ifCond .le 13, 3) := by decide +kernel
theorem d_Mo_check_172 : decode c_Mo_check 172 = .ok (.aload_n 0, 1) := by decide +kernel
theorem d_Mo_check_173 : decode c_Mo_check 173 = .ok (.bipush 8, 2) := by decide +kernel
theorem d_Mo_check_175 : decode c_Mo_check 175 = .ok (.iconst (-1), 1) := by decide +kernel
theorem d_Mo_check_176 : decode c_Mo_check 176 = .ok (.invokevirtual 101, 3) := by decide +kernel
theorem d_Mo_check_179 : decode c_Mo_check 179 = .ok (.goto 9, 3) := by decide +kernel
theorem d_Mo_check_182 : decode c_Mo_check 182 = .ok (.aload_n 0, 1) := by decide +kernel
theorem d_Mo_check_183 : decode c_Mo_check 183 = .ok (.iconst 0, 1) := by decide +kernel
theorem d_Mo_check_184 : decode c_Mo_check 184 = .ok (.iconst (-1), 1) := by decide +kernel
theorem d_Mo_check_185 : decode c_Mo_check 185 = .ok (.invokevirtual 101, 3) := by decide +kernel
theorem d_Mo_check_188 : decode c_Mo_check 188 = .ok (.ireturn, 1) := by decide +kernel
theorem d_Mo_refuse_0 : decode c_Mo_refuse 0 = .ok (.aload_n 0, 1) := by decide +kernel
theorem d_Mo_refuse_1 : decode c_Mo_refuse 1 = .ok (.iload_n 1, 1) := by decide +kernel
theorem d_Mo_refuse_2 : decode c_Mo_refuse 2 = .ok (.ifCond .eq 7, 3) := by decide +kernel
theorem d_Mo_refuse_5 : decode c_Mo_refuse 5 = .ok (.iconst 1, 1) := by decide +kernel
theorem d_Mo_refuse_6 : decode c_Mo_refuse 6 = .ok (.goto 4, 3) := by decide +kernel
theorem d_Mo_refuse_9 : decode c_Mo_refuse 9 = .ok (.iconst 0, 1) := by decide +kernel
theorem d_Mo_refuse_10 : decode c_Mo_refuse 10 = .ok (.putfield 50, 3) := by decide +kernel
theorem d_Mo_refuse_13 : decode c_Mo_refuse 13 = .ok (.iload_n 1, 1) := by decide +kernel
theorem d_Mo_refuse_14 : decode c_Mo_refuse 14 = .ok (.ireturn, 1) := by decide +kernel
theorem d_Mo_poke_0 : decode c_Mo_poke 0 = .ok (.aload_n 0, 1) := by decide +kernel
theorem d_Mo_poke_1 : decode c_Mo_poke 1 = .ok (.iload_n 1, 1) := by decide +kernel
theorem d_Mo_poke_2 : decode c_Mo_poke 2 = .ok (.ifCond .lt 10, 3) := by decide +kernel
theorem d_Mo_poke_5 : decode c_Mo_poke 5 = .ok (.iload_n 1, 1) := by decide +kernel
theorem d_Mo_poke_6 : decode c_Mo_poke 6 = .ok (.sipush 1024, 3) := by decide +kernel
theorem d_Mo_poke_9 : decode c_Mo_poke 9 = .ok (.if_icmp .lt 7, 3) := by decide +kernel
theorem d_Mo_poke_12 : decode c_Mo_poke 12 = .ok (.iconst 1, 1) := by decide +kernel
theorem d_Mo_poke_13 : decode c_Mo_poke 13 = .ok (.goto 4, 3) := by decide +kernel
theorem d_Mo_poke_16 : decode c_Mo_poke 16 = .ok (.iconst 0, 1) := by decide +kernel
theorem d_Mo_poke_17 : decode c_Mo_poke 17 = .ok (.invokevirtual 114, 3) := by decide +kernel
theorem d_Mo_poke_20 : decode c_Mo_poke 20 = .ok (.ifCond .eq 4, 3) := by decide +kernel
theorem d_Mo_poke_23 : decode c_Mo_poke 23 = .ok (.return_, 1) := by decide +kernel
theorem d_Mo_poke_24 : decode c_Mo_poke 24 = .ok (.aload_n 0, 1) := by decide +kernel
theorem d_Mo_poke_25 : decode c_Mo_poke 25 = .ok (.getfield 7, 3) := by decide +kernel
theorem d_Mo_poke_28 : decode c_Mo_poke 28 = .ok (.iload_n 1, 1) := by decide +kernel
theorem d_Mo_poke_29 : decode c_Mo_poke 29 = .ok (.iload_n 2, 1) := by decide +kernel
theorem d_Mo_poke_30 : decode c_Mo_poke 30 = .ok (.iastore, 1) := by decide +kernel
theorem d_Mo_poke_31 : decode c_Mo_poke 31 = .ok (.return_, 1) := by decide +kernel
theorem d_Mo_load_0 : decode c_Mo_load 0 = .ok (.aload_n 0, 1) := by decide +kernel
theorem d_Mo_load_1 : decode c_Mo_load 1 = .ok (.iload_n 2, 1) := by decide +kernel
theorem d_Mo_load_2 : decode c_Mo_load 2 = .ok (.iconst 1, 1) := by decide +kernel
theorem d_Mo_load_3 : decode c_Mo_load 3 = .ok (.if_icmp .lt 25, 3) := by decide +kernel
theorem d_Mo_load_6 : decode c_Mo_load 6 = .ok (.iload_n 2, 1) := by decide +kernel
theorem d_Mo_load_7 : decode c_Mo_load 7 = .ok (.sipush 256, 3) := by decide +kernel
theorem d_Mo_load_10 : decode c_Mo_load 10 = .ok (.if_icmp .gt 18, 3) := by decide +kernel
theorem d_Mo_load_13 : decode c_Mo_load 13 = .ok (.iload_n 1, 1) := by decide +kernel
theorem d_Mo_load_14 : decode c_Mo_load 14 = .ok (.ifCond .lt 14, 3) := by decide +kernel
theorem d_Mo_load_17 : decode c_Mo_load 17 = .ok (.iload_n 1, 1) := by decide +kernel
theorem d_Mo_load_18 : decode c_Mo_load 18 = .ok (.sipush 1024, 3) := by decide +kernel
theorem d_Mo_load_21 : decode c_Mo_load 21 = .ok (.iconst 3, 1) := by decide +kernel
theorem d_Mo_load_22 : decode c_Mo_load 22 = .ok (.iload_n 2, 1) := by decide +kernel
theorem d_Mo_load_23 : decode c_Mo_load 23 = .ok (.imul, 1) := by decide +kernel
theorem d_Mo_load_24 : decode c_Mo_load 24 = .ok (.isub, 1) := by decide +kernel
theorem d_Mo_load_25 : decode c_Mo_load 25 = .ok (.if_icmp .le 7, 3) := by decide +kernel
theorem d_Mo_load_28 : decode c_Mo_load 28 = .ok (.iconst 1, 1) := by decide +kernel
theorem d_Mo_load_29 : decode c_Mo_load 29 = .ok (.goto 4, 3) := by decide +kernel
theorem d_Mo_load_32 : decode c_Mo_load 32 = .ok (.iconst 0, 1) := by decide +kernel
theorem d_Mo_load_33 : decode c_Mo_load 33 = .ok (.invokevirtual 114, 3) := by decide +kernel
theorem d_Mo_load_36 : decode c_Mo_load 36 = .ok (.ifCond .eq 5, 3) := by decide +kernel
theorem d_Mo_load_39 : decode c_Mo_load 39 = .ok (.iconst 0, 1) := by decide +kernel
theorem d_Mo_load_40 : decode c_Mo_load 40 = .ok (.ireturn, 1) := by decide +kernel
theorem d_Mo_load_41 : decode c_Mo_load 41 = .ok (.iconst 0, 1) := by decide +kernel
theorem d_Mo_load_42 : decode c_Mo_load 42 = .ok (.istore 4, 2) := by decide +kernel
theorem d_Mo_load_44 : decode c_Mo_load 44 = .ok (.iload 4, 2) := by decide +kernel
theorem d_Mo_load_46 : decode c_Mo_load 46 = .ok (.iconst 3, 1) := by decide +kernel
theorem d_Mo_load_47 : decode c_Mo_load 47 = .ok (.iload_n 2, 1) := by decide +kernel
theorem d_Mo_load_48 : decode c_Mo_load 48 = .ok (.imul, 1) := by decide +kernel
theorem d_Mo_load_49 : decode c_Mo_load 49 = .ok (.if_icmp .ge 25, 3) := by decide +kernel
theorem d_Mo_load_52 : decode c_Mo_load 52 = .ok (.aload_n 0, 1) := by decide +kernel
theorem d_Mo_load_53 : decode c_Mo_load 53 = .ok (.getfield 16, 3) := by decide +kernel
theorem d_Mo_load_56 : decode c_Mo_load 56 = .ok (.iload 4, 2) := by decide +kernel
theorem d_Mo_load_58 : decode c_Mo_load 58 = .ok (.aload_n 0, 1) := by decide +kernel
theorem d_Mo_load_59 : decode c_Mo_load 59 = .ok (.getfield 7, 3) := by decide +kernel
theorem d_Mo_load_62 : decode c_Mo_load 62 = .ok (.iload_n 1, 1) := by decide +kernel
theorem d_Mo_load_63 : decode c_Mo_load 63 = .ok (.iload 4, 2) := by decide +kernel
theorem d_Mo_load_65 : decode c_Mo_load 65 = .ok (.iadd, 1) := by decide +kernel
theorem d_Mo_load_66 : decode c_Mo_load 66 = .ok (.iaload, 1) := by decide +kernel
theorem d_Mo_load_67 : decode c_Mo_load 67 = .ok (.iastore, 1) := by decide +kernel
theorem d_Mo_load_68 : decode c_Mo_load 68 = .ok (.iinc 4 1, 3) := by decide +kernel
theorem d_Mo_load_71 : decode c_Mo_load 71 = .ok (.goto (-27), 3) := by decide +kernel
theorem d_Mo_load_74 : decode c_Mo_load 74 = .ok (.aload_n 0, 1) := by decide +kernel
theorem d_Mo_load_75 : decode c_Mo_load 75 = .ok (.aload_n 0, 1) := by decide +kernel
theorem d_Mo_load_76 : decode c_Mo_load 76 = .ok (.getfield 16, 3) := by decide +kernel
theorem d_Mo_load_79 : decode c_Mo_load 79 = .ok (.iload_n 2, 1) := by decide +kernel
theorem d_Mo_load_80 : decode c_Mo_load 80 = .ok (.iload_n 3, 1) := by decide +kernel
theorem d_Mo_load_81 : decode c_Mo_load 81 = .ok (.invokevirtual 118, 3) := by decide +kernel
theorem d_Mo_load_84 : decode c_Mo_load 84 = .ok (.ifCond .le 10, 3) := by decide +kernel
theorem d_Mo_load_87 : decode c_Mo_load 87 = .ok (.aload_n 0, 1) := by decide +kernel
theorem d_Mo_load_88 : decode c_Mo_load 88 = .ok (.iconst 2, 1) := by decide +kernel
theorem d_Mo_load_89 : decode c_Mo_load 89 = .ok (.putfield 50, 3) := by decide +kernel
theorem d_Mo_load_92 : decode c_Mo_load 92 = .ok (.iconst 0, 1) := by decide +kernel
theorem d_Mo_load_93 : decode c_Mo_load 93 = .ok (.ireturn, 1) := by decide +kernel
theorem d_Mo_load_94 : decode c_Mo_load 94 = .ok (.iconst 0, 1) := by decide +kernel
theorem d_Mo_load_95 : decode c_Mo_load 95 = .ok (.istore 4, 2) := by decide +kernel
theorem d_Mo_load_97 : decode c_Mo_load 97 = .ok (.iload 4, 2) := by decide +kernel
theorem d_Mo_load_99 : decode c_Mo_load 99 = .ok (.iconst 3, 1) := by decide +kernel
theorem d_Mo_load_100 : decode c_Mo_load 100 = .ok (.iload_n 2, 1) := by decide +kernel
theorem d_Mo_load_101 : decode c_Mo_load 101 = .ok (.imul, 1) := by decide +kernel
theorem d_Mo_load_102 : decode c_Mo_load 102 = .ok (.if_icmp .ge 23, 3) := by decide +kernel
theorem d_Mo_load_105 : decode c_Mo_load 105 = .ok (.aload_n 0, 1) := by decide +kernel
theorem d_Mo_load_106 : decode c_Mo_load 106 = .ok (.getfield 13, 3) := by decide +kernel
theorem d_Mo_load_109 : decode c_Mo_load 109 = .ok (.iload 4, 2) := by decide +kernel
theorem d_Mo_load_111 : decode c_Mo_load 111 = .ok (.aload_n 0, 1) := by decide +kernel
theorem d_Mo_load_112 : decode c_Mo_load 112 = .ok (.getfield 16, 3) := by decide +kernel
theorem d_Mo_load_115 : decode c_Mo_load 115 = .ok (.iload 4, 2) := by decide +kernel
theorem d_Mo_load_117 : decode c_Mo_load 117 = .ok (.iaload, 1) := by decide +kernel
theorem d_Mo_load_118 : decode c_Mo_load 118 = .ok (.iastore, 1) := by decide +kernel
theorem d_Mo_load_119 : decode c_Mo_load 119 = .ok (.iinc 4 1, 3) := by decide +kernel
theorem d_Mo_load_122 : decode c_Mo_load 122 = .ok (.goto (-25), 3) := by decide +kernel
theorem d_Mo_load_125 : decode c_Mo_load 125 = .ok (.iconst 0, 1) := by decide +kernel
theorem d_Mo_load_126 : decode c_Mo_load 126 = .ok (.istore 4, 2) := by decide +kernel
theorem d_Mo_load_128 : decode c_Mo_load 128 = .ok (.iload 4, 2) := by decide +kernel
theorem d_Mo_load_130 : decode c_Mo_load 130 = .ok (.iload_n 2, 1) := by decide +kernel
theorem d_Mo_load_131 : decode c_Mo_load 131 = .ok (.if_icmp .ge 25, 3) := by decide +kernel
theorem d_Mo_load_134 : decode c_Mo_load 134 = .ok (.aload_n 0, 1) := by decide +kernel
theorem d_Mo_load_135 : decode c_Mo_load 135 = .ok (.getfield 47, 3) := by decide +kernel
theorem d_Mo_load_138 : decode c_Mo_load 138 = .ok (.iload 4, 2) := by decide +kernel
theorem d_Mo_load_140 : decode c_Mo_load 140 = .ok (.aload_n 0, 1) := by decide +kernel
theorem d_Mo_load_141 : decode c_Mo_load 141 = .ok (.getfield 13, 3) := by decide +kernel
theorem d_Mo_load_144 : decode c_Mo_load 144 = .ok (.iload 4, 2) := by decide +kernel
theorem d_Mo_load_146 : decode c_Mo_load 146 = .ok (.invokestatic 91, 3) := by decide +kernel
theorem d_Mo_load_149 : decode c_Mo_load 149 = .ok (.iastore, 1) := by decide +kernel
theorem d_Mo_load_150 : decode c_Mo_load 150 = .ok (.iinc 4 1, 3) := by decide +kernel
theorem d_Mo_load_153 : decode c_Mo_load 153 = .ok (.goto (-25), 3) := by decide +kernel
theorem d_Mo_load_156 : decode c_Mo_load 156 = .ok (.aload_n 0, 1) := by decide +kernel
theorem d_Mo_load_157 : decode c_Mo_load 157 = .ok (.iconst 1, 1) := by decide +kernel
theorem d_Mo_load_158 : decode c_Mo_load 158 = .ok (.putfield 122, 3) := by decide +kernel
theorem d_Mo_load_161 : decode c_Mo_load 161 = .ok (.aload_n 0, 1) := by decide +kernel
theorem d_Mo_load_162 : decode c_Mo_load 162 = .ok (.getfield 13, 3) := by decide +kernel
theorem d_Mo_load_165 : decode c_Mo_load 165 = .ok (.iload_n 2, 1) := by decide +kernel
theorem d_Mo_load_166 : decode c_Mo_load 166 = .ok (.invokestatic 108, 3) := by decide +kernel
theorem d_Mo_load_169 : decode c_Mo_load 169 = .ok (.l2i, 1) := by decide +kernel
theorem d_Mo_load_170 : decode c_Mo_load 170 = .ok (.ireturn, 1) := by decide +kernel
theorem d_Mo_fault_0 : decode c_Mo_fault 0 = .ok (.aload_n 0, 1) := by decide +kernel
theorem d_Mo_fault_1 : decode c_Mo_fault 1 = .ok (.iconst 0, 1) := by decide +kernel
theorem d_Mo_fault_2 : decode c_Mo_fault 2 = .ok (.putfield 50, 3) := by decide +kernel
theorem d_Mo_fault_5 : decode c_Mo_fault 5 = .ok (.iload_n 1, 1) := by decide +kernel
theorem d_Mo_fault_6 : decode c_Mo_fault 6 = .ok (.ifCond .ne 10, 3) := by decide +kernel
theorem d_Mo_fault_9 : decode c_Mo_fault 9 = .ok (.aload_n 0, 1) := by decide +kernel
theorem d_Mo_fault_10 : decode c_Mo_fault 10 = .ok (.getfield 94, 3) := by decide +kernel
theorem d_Mo_fault_13 : decode c_Mo_fault 13 = .ok (.goto 16, 3) := by decide +kernel
theorem d_Mo_fault_16 : decode c_Mo_fault 16 = .ok (.iload_n 1, 1) := by decide +kernel
theorem d_Mo_fault_17 : decode c_Mo_fault 17 = .ok (.iconst 1, 1) := by decide +kernel
theorem d_Mo_fault_18 : decode c_Mo_fault 18 = .ok (.if_icmp .ne 10, 3) := by decide +kernel
theorem d_Mo_fault_21 : decode c_Mo_fault 21 = .ok (.aload_n 0, 1) := by decide +kernel
theorem d_Mo_fault_22 : decode c_Mo_fault 22 = .ok (.getfield 19, 3) := by decide +kernel
theorem d_Mo_fault_25 : decode c_Mo_fault 25 = .ok (.goto 4, 3) := by decide +kernel
theorem d_Mo_fault_28 : decode c_Mo_fault 28 = .ok (.iconst (-1), 1) := by decide +kernel
theorem d_Mo_fault_29 : decode c_Mo_fault 29 = .ok (.ireturn, 1) := by decide +kernel
theorem d_Mo_set_0 : decode c_Mo_set 0 = .ok (.aload_n 1, 1) := by decide +kernel
theorem d_Mo_set_1 : decode c_Mo_set 1 = .ok (.iconst 4, 1) := by decide +kernel
theorem d_Mo_set_2 : decode c_Mo_set 2 = .ok (.iload_n 2, 1) := by decide +kernel
theorem d_Mo_set_3 : decode c_Mo_set 3 = .ok (.imul, 1) := by decide +kernel
theorem d_Mo_set_4 : decode c_Mo_set 4 = .ok (.iload_n 3, 1) := by decide +kernel
theorem d_Mo_set_5 : decode c_Mo_set 5 = .ok (.iastore, 1) := by decide +kernel
theorem d_Mo_set_6 : decode c_Mo_set 6 = .ok (.aload_n 1, 1) := by decide +kernel
theorem d_Mo_set_7 : decode c_Mo_set 7 = .ok (.iconst 4, 1) := by decide +kernel
theorem d_Mo_set_8 : decode c_Mo_set 8 = .ok (.iload_n 2, 1) := by decide +kernel
theorem d_Mo_set_9 : decode c_Mo_set 9 = .ok (.imul, 1) := by decide +kernel
theorem d_Mo_set_10 : decode c_Mo_set 10 = .ok (.iconst 1, 1) := by decide +kernel
theorem d_Mo_set_11 : decode c_Mo_set 11 = .ok (.iadd, 1) := by decide +kernel
theorem d_Mo_set_12 : decode c_Mo_set 12 = .ok (.iload 4, 2) := by decide +kernel
theorem d_Mo_set_14 : decode c_Mo_set 14 = .ok (.iastore, 1) := by decide +kernel
theorem d_Mo_set_15 : decode c_Mo_set 15 = .ok (.aload_n 1, 1) := by decide +kernel
theorem d_Mo_set_16 : decode c_Mo_set 16 = .ok (.iconst 4, 1) := by decide +kernel
theorem d_Mo_set_17 : decode c_Mo_set 17 = .ok (.iload_n 2, 1) := by decide +kernel
theorem d_Mo_set_18 : decode c_Mo_set 18 = .ok (.imul, 1) := by decide +kernel
theorem d_Mo_set_19 : decode c_Mo_set 19 = .ok (.iconst 2, 1) := by decide +kernel
theorem d_Mo_set_20 : decode c_Mo_set 20 = .ok (.iadd, 1) := by decide +kernel
theorem d_Mo_set_21 : decode c_Mo_set 21 = .ok (.iload 5, 2) := by decide +kernel
theorem d_Mo_set_23 : decode c_Mo_set 23 = .ok (.iastore, 1) := by decide +kernel
theorem d_Mo_set_24 : decode c_Mo_set 24 = .ok (.aload_n 1, 1) := by decide +kernel
theorem d_Mo_set_25 : decode c_Mo_set 25 = .ok (.iconst 4, 1) := by decide +kernel
theorem d_Mo_set_26 : decode c_Mo_set 26 = .ok (.iload_n 2, 1) := by decide +kernel
theorem d_Mo_set_27 : decode c_Mo_set 27 = .ok (.imul, 1) := by decide +kernel
theorem d_Mo_set_28 : decode c_Mo_set 28 = .ok (.iconst 3, 1) := by decide +kernel
theorem d_Mo_set_29 : decode c_Mo_set 29 = .ok (.iadd, 1) := by decide +kernel
theorem d_Mo_set_30 : decode c_Mo_set 30 = .ok (.iload 6, 2) := by decide +kernel
theorem d_Mo_set_32 : decode c_Mo_set 32 = .ok (.iastore, 1) := by decide +kernel
theorem d_Mo_set_33 : decode c_Mo_set 33 = .ok (.return_, 1) := by decide +kernel
theorem d_Mo_in_0 : decode c_Mo_in 0 = .ok (.aload_n 0, 1) := by decide +kernel
theorem d_Mo_in_1 : decode c_Mo_in 1 = .ok (.iload_n 1, 1) := by decide +kernel
theorem d_Mo_in_2 : decode c_Mo_in 2 = .ok (.ifCond .lt 9, 3) := by decide +kernel
theorem d_Mo_in_5 : decode c_Mo_in 5 = .ok (.iload_n 1, 1) := by decide +kernel
theorem d_Mo_in_6 : decode c_Mo_in 6 = .ok (.bipush 7, 2) := by decide +kernel
theorem d_Mo_in_8 : decode c_Mo_in 8 = .ok (.if_icmp .le 7, 3) := by decide +kernel
theorem d_Mo_in_11 : decode c_Mo_in 11 = .ok (.iconst 1, 1) := by decide +kernel
theorem d_Mo_in_12 : decode c_Mo_in 12 = .ok (.goto 4, 3) := by decide +kernel
theorem d_Mo_in_15 : decode c_Mo_in 15 = .ok (.iconst 0, 1) := by decide +kernel
theorem d_Mo_in_16 : decode c_Mo_in 16 = .ok (.invokevirtual 114, 3) := by decide +kernel
theorem d_Mo_in_19 : decode c_Mo_in 19 = .ok (.ifCond .ne 18, 3) := by decide +kernel
theorem d_Mo_in_22 : decode c_Mo_in 22 = .ok (.aload_n 0, 1) := by decide +kernel
theorem d_Mo_in_23 : decode c_Mo_in 23 = .ok (.aload_n 0, 1) := by decide +kernel
theorem d_Mo_in_24 : decode c_Mo_in 24 = .ok (.getfield 26, 3) := by decide +kernel
theorem d_Mo_in_27 : decode c_Mo_in 27 = .ok (.iload_n 1, 1) := by decide +kernel
theorem d_Mo_in_28 : decode c_Mo_in 28 = .ok (.iload_n 2, 1) := by decide +kernel
theorem d_Mo_in_29 : decode c_Mo_in 29 = .ok (.iload_n 3, 1) := by decide +kernel
theorem d_Mo_in_30 : decode c_Mo_in 30 = .ok (.iload 4, 2) := by decide +kernel
theorem d_Mo_in_32 : decode c_Mo_in 32 = .ok (.iload 5, 2) := by decide +kernel
