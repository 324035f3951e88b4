theorem d_Ru_ofParts_116 : decode c_Ru_ofParts 116 = .ok (.iload_n 1, 1) := by decide +kernel
theorem d_Ru_ofParts_117 : decode c_Ru_ofParts 117 = .ok (.iload_n 2, 1) := by decide +kernel
theorem d_Ru_ofParts_118 : decode c_Ru_ofParts 118 = .ok (.invokestatic 209, 3) := by decide +kernel
theorem d_Ru_ofParts_121 : decode c_Ru_ofParts 121 = .ok (.iload_n 3, 1) := by decide +kernel
theorem d_Ru_ofParts_122 : decode c_Ru_ofParts 122 = .ok (.iadd, 1) := by decide +kernel
theorem d_Ru_ofParts_123 : decode c_Ru_ofParts 123 = .ok (.ireturn, 1) := by decide +kernel
theorem d_Ru_ofParts_124 : decode c_Ru_ofParts 124 = .ok (.iload_n 1, 1) := by decide +kernel
theorem d_Ru_ofParts_125 : decode c_Ru_ofParts 125 = .ok (.iload_n 2, 1) := by decide +kernel
theorem d_Ru_ofParts_126 : decode c_Ru_ofParts 126 = .ok (.invokestatic 230, 3) := by decide +kernel
theorem d_Ru_ofParts_129 : decode c_Ru_ofParts 129 = .ok (.ireturn, 1) := by decide +kernel
theorem d_Ru_ofParts_130 : decode c_Ru_ofParts 130 = .ok (.iload_n 1, 1) := by decide +kernel
theorem d_Ru_ofParts_131 : decode c_Ru_ofParts 131 = .ok (.iload_n 2, 1) := by decide +kernel
theorem d_Ru_ofParts_132 : decode c_Ru_ofParts 132 = .ok (.invokestatic 235, 3) := by decide +kernel
theorem d_Ru_ofParts_135 : decode c_Ru_ofParts 135 = .ok (.ireturn, 1) := by decide +kernel
theorem d_Ru_ofParts_136 : decode c_Ru_ofParts 136 = .ok (.iload_n 1, 1) := by decide +kernel
theorem d_Ru_ofParts_137 : decode c_Ru_ofParts 137 = .ok (.invokestatic 238, 3) := by decide +kernel
theorem d_Ru_ofParts_140 : decode c_Ru_ofParts 140 = .ok (.ireturn, 1) := by decide +kernel
theorem d_Ru_ofParts_141 : decode c_Ru_ofParts 141 = .ok (.iload_n 1, 1) := by decide +kernel
theorem d_Ru_ofParts_142 : decode c_Ru_ofParts 142 = .ok (.iload_n 2, 1) := by decide +kernel
theorem d_Ru_ofParts_143 : decode c_Ru_ofParts 143 = .ok (.if_icmp .ge 7, 3) := by decide +kernel
theorem d_Ru_ofParts_146 : decode c_Ru_ofParts 146 = .ok (.iconst 1, 1) := by decide +kernel
theorem d_Ru_ofParts_147 : decode c_Ru_ofParts 147 = .ok (.goto 4, 3) := by decide +kernel
theorem d_Ru_ofParts_150 : decode c_Ru_ofParts 150 = .ok (.iconst 0, 1) := by decide +kernel
theorem d_Ru_ofParts_151 : decode c_Ru_ofParts 151 = .ok (.invokestatic 241, 3) := by decide +kernel
theorem d_Ru_ofParts_154 : decode c_Ru_ofParts 154 = .ok (.ireturn, 1) := by decide +kernel
theorem d_Ru_ofParts_155 : decode c_Ru_ofParts 155 = .ok (.iload_n 1, 1) := by decide +kernel
theorem d_Ru_ofParts_156 : decode c_Ru_ofParts 156 = .ok (.iload_n 2, 1) := by decide +kernel
theorem d_Ru_ofParts_157 : decode c_Ru_ofParts 157 = .ok (.if_icmp .lt 7, 3) := by decide +kernel
theorem d_Ru_ofParts_160 : decode c_Ru_ofParts 160 = .ok (.iconst 1, 1) := by decide +kernel
theorem d_Ru_ofParts_161 : decode c_Ru_ofParts 161 = .ok (.goto 4, 3) := by decide +kernel
theorem d_Ru_ofParts_164 : decode c_Ru_ofParts 164 = .ok (.iconst 0, 1) := by decide +kernel
theorem d_Ru_ofParts_165 : decode c_Ru_ofParts 165 = .ok (.invokestatic 241, 3) := by decide +kernel
theorem d_Ru_ofParts_168 : decode c_Ru_ofParts 168 = .ok (.ireturn, 1) := by decide +kernel
theorem d_Ru_ofParts_169 : decode c_Ru_ofParts 169 = .ok (.iload_n 1, 1) := by decide +kernel
theorem d_Ru_ofParts_170 : decode c_Ru_ofParts 170 = .ok (.iload_n 2, 1) := by decide +kernel
theorem d_Ru_ofParts_171 : decode c_Ru_ofParts 171 = .ok (.if_icmp .ne 7, 3) := by decide +kernel
theorem d_Ru_ofParts_174 : decode c_Ru_ofParts 174 = .ok (.iconst 1, 1) := by decide +kernel
theorem d_Ru_ofParts_175 : decode c_Ru_ofParts 175 = .ok (.goto 4, 3) := by decide +kernel
theorem d_Ru_ofParts_178 : decode c_Ru_ofParts 178 = .ok (.iconst 0, 1) := by decide +kernel
theorem d_Ru_ofParts_179 : decode c_Ru_ofParts 179 = .ok (.invokestatic 241, 3) := by decide +kernel
theorem d_Ru_ofParts_182 : decode c_Ru_ofParts 182 = .ok (.ireturn, 1) := by decide +kernel
theorem d_Ru_ofParts_183 : decode c_Ru_ofParts 183 = .ok (.iload_n 1, 1) := by decide +kernel
theorem d_Ru_ofParts_184 : decode c_Ru_ofParts 184 = .ok (.iload_n 2, 1) := by decide +kernel
theorem d_Ru_ofParts_185 : decode c_Ru_ofParts 185 = .ok (.if_icmp .eq 7, 3) := by decide +kernel
theorem d_Ru_ofParts_188 : decode c_Ru_ofParts 188 = .ok (.iconst 1, 1) := by decide +kernel
theorem d_Ru_ofParts_189 : decode c_Ru_ofParts 189 = .ok (.goto 4, 3) := by decide +kernel
theorem d_Ru_ofParts_192 : decode c_Ru_ofParts 192 = .ok (.iconst 0, 1) := by decide +kernel
theorem d_Ru_ofParts_193 : decode c_Ru_ofParts 193 = .ok (.invokestatic 241, 3) := by decide +kernel
theorem d_Ru_ofParts_196 : decode c_Ru_ofParts 196 = .ok (.ireturn, 1) := by decide +kernel
theorem d_Ru_ofParts_197 : decode c_Ru_ofParts 197 = .ok (.iload_n 1, 1) := by decide +kernel
theorem d_Ru_ofParts_198 : decode c_Ru_ofParts 198 = .ok (.ifCond .lt 7, 3) := by decide +kernel
theorem d_Ru_ofParts_201 : decode c_Ru_ofParts 201 = .ok (.iload_n 2, 1) := by decide +kernel
theorem d_Ru_ofParts_202 : decode c_Ru_ofParts 202 = .ok (.goto 4, 3) := by decide +kernel
theorem d_Ru_ofParts_205 : decode c_Ru_ofParts 205 = .ok (.iload_n 3, 1) := by decide +kernel
theorem d_Ru_ofParts_206 : decode c_Ru_ofParts 206 = .ok (.ireturn, 1) := by decide +kernel
theorem d_Ru_ofParts_207 : decode c_Ru_ofParts 207 = .ok (.iload_n 1, 1) := by decide +kernel
theorem d_Ru_ofParts_208 : decode c_Ru_ofParts 208 = .ok (.iload_n 2, 1) := by decide +kernel
theorem d_Ru_ofParts_209 : decode c_Ru_ofParts 209 = .ok (.iload_n 3, 1) := by decide +kernel
theorem d_Ru_ofParts_210 : decode c_Ru_ofParts 210 = .ok (.isub, 1) := by decide +kernel
theorem d_Ru_ofParts_211 : decode c_Ru_ofParts 211 = .ok (.invokestatic 209, 3) := by decide +kernel
theorem d_Ru_ofParts_214 : decode c_Ru_ofParts 214 = .ok (.iload_n 3, 1) := by decide +kernel
theorem d_Ru_ofParts_215 : decode c_Ru_ofParts 215 = .ok (.iadd, 1) := by decide +kernel
theorem d_Ru_ofParts_216 : decode c_Ru_ofParts 216 = .ok (.ireturn, 1) := by decide +kernel
theorem d_Ru_ofParts_217 : decode c_Ru_ofParts 217 = .ok (.iload_n 0, 1) := by decide +kernel
theorem d_Ru_ofParts_218 : decode c_Ru_ofParts 218 = .ok (.iload_n 1, 1) := by decide +kernel
theorem d_Ru_ofParts_219 : decode c_Ru_ofParts 219 = .ok (.iload_n 2, 1) := by decide +kernel
theorem d_Ru_ofParts_220 : decode c_Ru_ofParts 220 = .ok (.invokestatic 245, 3) := by decide +kernel
theorem d_Ru_ofParts_223 : decode c_Ru_ofParts 223 = .ok (.ireturn, 1) := by decide +kernel
theorem d_Ru_computeParts_0 : decode c_Ru_computeParts 0 = .ok (.iconst 0, 1) := by decide +kernel
theorem d_Ru_computeParts_1 : decode c_Ru_computeParts 1 = .ok (.istore_n 2, 1) := by decide +kernel
theorem d_Ru_computeParts_2 : decode c_Ru_computeParts 2 = .ok (.iload_n 2, 1) := by decide +kernel
theorem d_Ru_computeParts_3 : decode c_Ru_computeParts 3 = .ok (.iconst 4, 1) := by decide +kernel
theorem d_Ru_computeParts_4 : decode c_Ru_computeParts 4 = .ok (.if_icmp .ge 37, 3) := by decide +kernel
theorem d_Ru_computeParts_7 : decode c_Ru_computeParts 7 = .ok (.aload_n 0, 1) := by decide +kernel
theorem d_Ru_computeParts_8 : decode c_Ru_computeParts 8 = .ok (.getfield 21, 3) := by decide +kernel
theorem d_Ru_computeParts_11 : decode c_Ru_computeParts 11 = .ok (.iload_n 2, 1) := by decide +kernel
theorem d_Ru_computeParts_12 : decode c_Ru_computeParts 12 = .ok (.iload_n 1, 1) := by decide +kernel
theorem d_Ru_computeParts_13 : decode c_Ru_computeParts 13 = .ok (.aload_n 0, 1) := by decide +kernel
theorem d_Ru_computeParts_14 : decode c_Ru_computeParts 14 = .ok (.getfield 9, 3) := by decide +kernel
theorem d_Ru_computeParts_17 : decode c_Ru_computeParts 17 = .ok (.iload_n 2, 1) := by decide +kernel
theorem d_Ru_computeParts_18 : decode c_Ru_computeParts 18 = .ok (.iaload, 1) := by decide +kernel
theorem d_Ru_computeParts_19 : decode c_Ru_computeParts 19 = .ok (.aload_n 0, 1) := by decide +kernel
theorem d_Ru_computeParts_20 : decode c_Ru_computeParts 20 = .ok (.getfield 15, 3) := by decide +kernel
theorem d_Ru_computeParts_23 : decode c_Ru_computeParts 23 = .ok (.iload_n 2, 1) := by decide +kernel
theorem d_Ru_computeParts_24 : decode c_Ru_computeParts 24 = .ok (.iaload, 1) := by decide +kernel
theorem d_Ru_computeParts_25 : decode c_Ru_computeParts 25 = .ok (.aload_n 0, 1) := by decide +kernel
theorem d_Ru_computeParts_26 : decode c_Ru_computeParts 26 = .ok (.getfield 18, 3) := by decide +kernel
theorem d_Ru_computeParts_29 : decode c_Ru_computeParts 29 = .ok (.iload_n 2, 1) := by decide +kernel
theorem d_Ru_computeParts_30 : decode c_Ru_computeParts 30 = .ok (.iaload, 1) := by decide +kernel
theorem d_Ru_computeParts_31 : decode c_Ru_computeParts 31 = .ok (.invokestatic 226, 3) := by decide +kernel
theorem d_Ru_computeParts_34 : decode c_Ru_computeParts 34 = .ok (.iastore, 1) := by decide +kernel
theorem d_Ru_computeParts_35 : decode c_Ru_computeParts 35 = .ok (.iinc 2 1, 3) := by decide +kernel
theorem d_Ru_computeParts_38 : decode c_Ru_computeParts 38 = .ok (.goto (-36), 3) := by decide +kernel
theorem d_Ru_computeParts_41 : decode c_Ru_computeParts 41 = .ok (.return_, 1) := by decide +kernel
theorem d_Ru_dot_0 : decode c_Ru_dot 0 = .ok (.iconst 0, 1) := by decide +kernel
theorem d_Ru_dot_1 : decode c_Ru_dot 1 = .ok (.istore_n 2, 1) := by decide +kernel
theorem d_Ru_dot_2 : decode c_Ru_dot 2 = .ok (.iconst 0, 1) := by decide +kernel
theorem d_Ru_dot_3 : decode c_Ru_dot 3 = .ok (.istore_n 3, 1) := by decide +kernel
theorem d_Ru_dot_4 : decode c_Ru_dot 4 = .ok (.iload_n 3, 1) := by decide +kernel
theorem d_Ru_dot_5 : decode c_Ru_dot 5 = .ok (.iload_n 1, 1) := by decide +kernel
theorem d_Ru_dot_6 : decode c_Ru_dot 6 = .ok (.if_icmp .ge 32, 3) := by decide +kernel
theorem d_Ru_dot_9 : decode c_Ru_dot 9 = .ok (.iload_n 3, 1) := by decide +kernel
theorem d_Ru_dot_10 : decode c_Ru_dot 10 = .ok (.iconst 4, 1) := by decide +kernel
theorem d_Ru_dot_11 : decode c_Ru_dot 11 = .ok (.if_icmp .ge 27, 3) := by decide +kernel
theorem d_Ru_dot_14 : decode c_Ru_dot 14 = .ok (.iload_n 2, 1) := by decide +kernel
theorem d_Ru_dot_15 : decode c_Ru_dot 15 = .ok (.aload_n 0, 1) := by decide +kernel
theorem d_Ru_dot_16 : decode c_Ru_dot 16 = .ok (.getfield 9, 3) := by decide +kernel
theorem d_Ru_dot_19 : decode c_Ru_dot 19 = .ok (.iload_n 3, 1) := by decide +kernel
theorem d_Ru_dot_20 : decode c_Ru_dot 20 = .ok (.iaload, 1) := by decide +kernel
theorem d_Ru_dot_21 : decode c_Ru_dot 21 = .ok (.aload_n 0, 1) := by decide +kernel
theorem d_Ru_dot_22 : decode c_Ru_dot 22 = .ok (.getfield 15, 3) := by decide +kernel
theorem d_Ru_dot_25 : decode c_Ru_dot 25 = .ok (.iload_n 3, 1) := by decide +kernel
theorem d_Ru_dot_26 : decode c_Ru_dot 26 = .ok (.iaload, 1) := by decide +kernel
theorem d_Ru_dot_27 : decode c_Ru_dot 27 = .ok (.invokestatic 209, 3) := by decide +kernel
theorem d_Ru_dot_30 : decode c_Ru_dot 30 = .ok (.iadd, 1) := by decide +kernel
theorem d_Ru_dot_31 : decode c_Ru_dot 31 = .ok (.istore_n 2, 1) := by decide +kernel
theorem d_Ru_dot_32 : decode c_Ru_dot 32 = .ok (.iinc 3 1, 3) := by decide +kernel
theorem d_Ru_dot_35 : decode c_Ru_dot 35 = .ok (.goto (-31), 3) := by decide +kernel
theorem d_Ru_dot_38 : decode c_Ru_dot 38 = .ok (.iload_n 2, 1) := by decide +kernel
theorem d_Ru_dot_39 : decode c_Ru_dot 39 = .ok (.ireturn, 1) := by decide +kernel
theorem d_Ru_spread_0 : decode c_Ru_spread 0 = .ok (.aload_n 0, 1) := by decide +kernel
theorem d_Ru_spread_1 : decode c_Ru_spread 1 = .ok (.getfield 21, 3) := by decide +kernel
theorem d_Ru_spread_4 : decode c_Ru_spread 4 = .ok (.iload_n 1, 1) := by decide +kernel
theorem d_Ru_spread_5 : decode c_Ru_spread 5 = .ok (.invokestatic 203, 3) := by decide +kernel
theorem d_Ru_spread_8 : decode c_Ru_spread 8 = .ok (.return_, 1) := by decide +kernel
theorem d_Ru_setResult_0 : decode c_Ru_setResult 0 = .ok (.aload_n 0, 1) := by decide +kernel
theorem d_Ru_setResult_1 : decode c_Ru_setResult 1 = .ok (.getfield 21, 3) := by decide +kernel
theorem d_Ru_setResult_4 : decode c_Ru_setResult 4 = .ok (.iconst 0, 1) := by decide +kernel
theorem d_Ru_setResult_5 : decode c_Ru_setResult 5 = .ok (.iload_n 1, 1) := by decide +kernel
theorem d_Ru_setResult_6 : decode c_Ru_setResult 6 = .ok (.iastore, 1) := by decide +kernel
theorem d_Ru_setResult_7 : decode c_Ru_setResult 7 = .ok (.aload_n 0, 1) := by decide +kernel
theorem d_Ru_setResult_8 : decode c_Ru_setResult 8 = .ok (.getfield 21, 3) := by decide +kernel
theorem d_Ru_setResult_11 : decode c_Ru_setResult 11 = .ok (.iconst 1, 1) := by decide +kernel
theorem d_Ru_setResult_12 : decode c_Ru_setResult 12 = .ok (.iload_n 2, 1) := by decide +kernel
theorem d_Ru_setResult_13 : decode c_Ru_setResult 13 = .ok (.iastore, 1) := by decide +kernel
theorem d_Ru_setResult_14 : decode c_Ru_setResult 14 = .ok (.aload_n 0, 1) := by decide +kernel
theorem d_Ru_setResult_15 : decode c_Ru_setResult 15 = .ok (.getfield 21, 3) := by decide +kernel
theorem d_Ru_setResult_18 : decode c_Ru_setResult 18 = .ok (.iconst 2, 1) := by decide +kernel
theorem d_Ru_setResult_19 : decode c_Ru_setResult 19 = .ok (.iload_n 3, 1) := by decide +kernel
theorem d_Ru_setResult_20 : decode c_Ru_setResult 20 = .ok (.iastore, 1) := by decide +kernel
theorem d_Ru_setResult_21 : decode c_Ru_setResult 21 = .ok (.aload_n 0, 1) := by decide +kernel
theorem d_Ru_setResult_22 : decode c_Ru_setResult 22 = .ok (.getfield 21, 3) := by decide +kernel
theorem d_Ru_setResult_25 : decode c_Ru_setResult 25 = .ok (.iconst 3, 1) := by decide +kernel
theorem d_Ru_setResult_26 : decode c_Ru_setResult 26 = .ok (.iload 4, 2) := by decide +kernel
theorem d_Ru_setResult_28 : decode c_Ru_setResult 28 = .ok (.iastore, 1) := by decide +kernel
theorem d_Ru_setResult_29 : decode c_Ru_setResult 29 = .ok (.return_, 1) := by decide +kernel
theorem d_Ru_cross_0 : decode c_Ru_cross 0 = .ok (.aload_n 0, 1) := by decide +kernel
theorem d_Ru_cross_1 : decode c_Ru_cross 1 = .ok (.aload_n 0, 1) := by decide +kernel
theorem d_Ru_cross_2 : decode c_Ru_cross 2 = .ok (.getfield 9, 3) := by decide +kernel
theorem d_Ru_cross_5 : decode c_Ru_cross 5 = .ok (.iconst 1, 1) := by decide +kernel
theorem d_Ru_cross_6 : decode c_Ru_cross 6 = .ok (.iaload, 1) := by decide +kernel
theorem d_Ru_cross_7 : decode c_Ru_cross 7 = .ok (.aload_n 0, 1) := by decide +kernel
theorem d_Ru_cross_8 : decode c_Ru_cross 8 = .ok (.getfield 15, 3) := by decide +kernel
theorem d_Ru_cross_11 : decode c_Ru_cross 11 = .ok (.iconst 2, 1) := by decide +kernel
theorem d_Ru_cross_12 : decode c_Ru_cross 12 = .ok (.iaload, 1) := by decide +kernel
theorem d_Ru_cross_13 : decode c_Ru_cross 13 = .ok (.invokestatic 209, 3) := by decide +kernel
theorem d_Ru_cross_16 : decode c_Ru_cross 16 = .ok (.aload_n 0, 1) := by decide +kernel
theorem d_Ru_cross_17 : decode c_Ru_cross 17 = .ok (.getfield 9, 3) := by decide +kernel
theorem d_Ru_cross_20 : decode c_Ru_cross 20 = .ok (.iconst 2, 1) := by decide +kernel
theorem d_Ru_cross_21 : decode c_Ru_cross 21 = .ok (.iaload, 1) := by decide +kernel
theorem d_Ru_cross_22 : decode c_Ru_cross 22 = .ok (.aload_n 0, 1) := by decide +kernel
theorem d_Ru_cross_23 : decode c_Ru_cross 23 = .ok (.getfield 15, 3) := by decide +kernel
theorem d_Ru_cross_26 : decode c_Ru_cross 26 = .ok (.iconst 1, 1) := by decide +kernel
theorem d_Ru_cross_27 : decode c_Ru_cross 27 = .ok (.iaload, 1) := by decide +kernel
theorem d_Ru_cross_28 : decode c_Ru_cross 28 = .ok (.invokestatic 209, 3) := by decide +kernel
theorem d_Ru_cross_31 : decode c_Ru_cross 31 = .ok (.isub, 1) := by decide +kernel
theorem d_Ru_cross_32 : decode c_Ru_cross 32 = .ok (.aload_n 0, 1) := by decide +kernel
theorem d_Ru_cross_33 : decode c_Ru_cross 33 = .ok (.getfield 9, 3) := by decide +kernel
theorem d_Ru_cross_36 : decode c_Ru_cross 36 = .ok (.iconst 2, 1) := by decide +kernel
theorem d_Ru_cross_37 : decode c_Ru_cross 37 = .ok (.iaload, 1) := by decide +kernel
theorem d_Ru_cross_38 : decode c_Ru_cross 38 = .ok (.aload_n 0, 1) := by decide +kernel
theorem d_Ru_cross_39 : decode c_Ru_cross 39 = .ok (.getfield 15, 3) := by decide +kernel
theorem d_Ru_cross_42 : decode c_Ru_cross 42 = .ok (.iconst 0, 1) := by decide +kernel
theorem d_Ru_cross_43 : decode c_Ru_cross 43 = .ok (.iaload, 1) := by decide +kernel
theorem d_Ru_cross_44 : decode c_Ru_cross 44 = .ok (.invokestatic 209, 3) := by decide +kernel
theorem d_Ru_cross_47 : decode c_Ru_cross 47 = .ok (.aload_n 0, 1) := by decide +kernel
theorem d_Ru_cross_48 : decode c_Ru_cross 48 = .ok (.getfield 9, 3) := by decide +kernel
theorem d_Ru_cross_51 : decode c_Ru_cross 51 = .ok (.iconst 0, 1) := by decide +kernel
theorem d_Ru_cross_52 : decode c_Ru_cross 52 = .ok (.iaload, 1) := by decide +kernel
theorem d_Ru_cross_53 : decode c_Ru_cross 53 = .ok (.aload_n 0, 1) := by decide +kernel
theorem d_Ru_cross_54 : decode c_Ru_cross 54 = .ok (.getfield 15, 3) := by decide +kernel
theorem d_Ru_cross_57 : decode c_Ru_cross 57 = .ok (.iconst 2, 1) := by decide +kernel
theorem d_Ru_cross_58 : decode c_Ru_cross 58 = .ok (.iaload, 1) := by decide +kernel
theorem d_Ru_cross_59 : decode c_Ru_cross 59 = .ok (.invokestatic 209, 3) := by decide +kernel
theorem d_Ru_cross_62 : decode c_Ru_cross 62 = .ok (.isub, 1) := by decide +kernel
theorem d_Ru_cross_63 : decode c_Ru_cross 63 = .ok (.aload_n 0, 1) := by decide +kernel
theorem d_Ru_cross_64 : decode c_Ru_cross 64 = .ok (.getfield 9, 3) := by decide +kernel
theorem d_Ru_cross_67 : decode c_Ru_cross 67 = .ok (.iconst 0, 1) := by decide +kernel
theorem d_Ru_cross_68 : decode c_Ru_cross 68 = .ok (.iaload, 1) := by decide +kernel
theorem d_Ru_cross_69 : decode c_Ru_cross 69 = .ok (.aload_n 0, 1) := by decide +kernel
theorem d_Ru_cross_70 : decode c_Ru_cross 70 = .ok (.getfield 15, 3) := by decide +kernel
theorem d_Ru_cross_73 : decode c_Ru_cross 73 = .ok (.iconst 1, 1) := by decide +kernel
theorem d_Ru_cross_74 : decode c_Ru_cross 74 = .ok (.iaload, 1) := by decide +kernel
theorem d_Ru_cross_75 : decode c_Ru_cross 75 = .ok (.invokestatic 209, 3) := by decide +kernel
theorem d_Ru_cross_78 : decode c_Ru_cross 78 = .ok (.aload_n 0, 1) := by decide +kernel
theorem d_Ru_cross_79 : decode c_Ru_cross 79 = .ok (.getfield 9, 3) := by decide +kernel
theorem d_Ru_cross_82 : decode c_Ru_cross 82 = .ok (.iconst 1, 1) := by decide +kernel
theorem d_Ru_cross_83 : decode c_Ru_cross 83 = .ok (.iaload, 1) := by decide +kernel
theorem d_Ru_cross_84 : decode c_Ru_cross 84 = .ok (.aload_n 0, 1) := by decide +kernel
theorem d_Ru_cross_85 : decode c_Ru_cross 85 = .ok (.getfield 15, 3) := by decide +kernel
theorem d_Ru_cross_88 : decode c_Ru_cross 88 = .ok (.iconst 0, 1) := by decide +kernel
theorem d_Ru_cross_89 : decode c_Ru_cross 89 = .ok (.iaload, 1) := by decide +kernel
theorem d_Ru_cross_90 : decode c_Ru_cross 90 = .ok (.invokestatic 209, 3) := by decide +kernel
theorem d_Ru_cross_93 : decode c_Ru_cross 93 = .ok (.isub, 1) := by decide +kernel
theorem d_Ru_cross_94 : decode c_Ru_cross 94 = .ok (.iconst 0, 1) := by decide +kernel
theorem d_Ru_cross_95 : decode c_Ru_cross 95 = .ok (.invokevirtual 213, 3) := by decide +kernel
theorem d_Ru_cross_98 : decode c_Ru_cross 98 = .ok (.return_, 1) := by decide +kernel
theorem d_Ru_takeWords_0 : decode c_Ru_takeWords 0 = .ok (.iconst 0, 1) := by decide +kernel
theorem d_Ru_takeWords_1 : decode c_Ru_takeWords 1 = .ok (.istore_n 2, 1) := by decide +kernel
theorem d_Ru_takeWords_2 : decode c_Ru_takeWords 2 = .ok (.iload_n 2, 1) := by decide +kernel
theorem d_Ru_takeWords_3 : decode c_Ru_takeWords 3 = .ok (.iconst 4, 1) := by decide +kernel
theorem d_Ru_takeWords_4 : decode c_Ru_takeWords 4 = .ok (.if_icmp .ge 25, 3) := by decide +kernel
theorem d_Ru_takeWords_7 : decode c_Ru_takeWords 7 = .ok (.aload_n 0, 1) := by decide +kernel
theorem d_Ru_takeWords_8 : decode c_Ru_takeWords 8 = .ok (.getfield 21, 3) := by decide +kernel
theorem d_Ru_takeWords_11 : decode c_Ru_takeWords 11 = .ok (.iload_n 2, 1) := by decide +kernel
theorem d_Ru_takeWords_12 : decode c_Ru_takeWords 12 = .ok (.aload_n 0, 1) := by decide +kernel
theorem d_Ru_takeWords_13 : decode c_Ru_takeWords 13 = .ok (.getfield 31, 3) := by decide +kernel
theorem d_Ru_takeWords_16 : decode c_Ru_takeWords 16 = .ok (.iload_n 1, 1) := by decide +kernel
theorem d_Ru_takeWords_17 : decode c_Ru_takeWords 17 = .ok (.iload_n 2, 1) := by decide +kernel
theorem d_Ru_takeWords_18 : decode c_Ru_takeWords 18 = .ok (.iadd, 1) := by decide +kernel
theorem d_Ru_takeWords_19 : decode c_Ru_takeWords 19 = .ok (.invokevirtual 217, 3) := by decide +kernel
theorem d_Ru_takeWords_22 : decode c_Ru_takeWords 22 = .ok (.iastore, 1) := by decide +kernel
theorem d_Ru_takeWords_23 : decode c_Ru_takeWords 23 = .ok (.iinc 2 1, 3) := by decide +kernel
theorem d_Ru_takeWords_26 : decode c_Ru_takeWords 26 = .ok (.goto (-24), 3) := by decide +kernel
theorem d_Ru_takeWords_29 : decode c_Ru_takeWords 29 = .ok (.return_, 1) := by decide +kernel
theorem d_Ru_takeTexture_0 : decode c_Ru_takeTexture 0 = .ok (.aload_n 0, 1) := by decide +kernel
theorem d_Ru_takeTexture_1 : decode c_Ru_takeTexture 1 = .ok (.getfield 31, 3) := by decide +kernel
theorem d_Ru_takeTexture_4 : decode c_Ru_takeTexture 4 = .ok (.getfield 220, 3) := by decide +kernel
theorem d_Ru_takeTexture_7 : decode c_Ru_takeTexture 7 = .ok (.astore_n 3, 1) := by decide +kernel
theorem d_Ru_takeTexture_8 : decode c_Ru_takeTexture 8 = .ok (.aload_n 0, 1) := by decide +kernel
theorem d_Ru_takeTexture_9 : decode c_Ru_takeTexture 9 = .ok (.aload_n 3, 1) := by decide +kernel
theorem d_Ru_takeTexture_10 : decode c_Ru_takeTexture 10 = .ok (.iload_n 1, 1) := by decide +kernel
theorem d_Ru_takeTexture_11 : decode c_Ru_takeTexture 11 = .ok (.iconst 0, 1) := by decide +kernel
theorem d_Ru_takeTexture_12 : decode c_Ru_takeTexture 12 = .ok (.invokevirtual 223, 3) := by decide +kernel
theorem d_Ru_takeTexture_15 : decode c_Ru_takeTexture 15 = .ok (.aload_n 0, 1) := by decide +kernel
theorem d_Ru_takeTexture_16 : decode c_Ru_takeTexture 16 = .ok (.getfield 9, 3) := by decide +kernel
theorem d_Ru_takeTexture_19 : decode c_Ru_takeTexture 19 = .ok (.iconst 0, 1) := by decide +kernel
theorem d_Ru_takeTexture_20 : decode c_Ru_takeTexture 20 = .ok (.iaload, 1) := by decide +kernel
theorem d_Ru_takeTexture_21 : decode c_Ru_takeTexture 21 = .ok (.iadd, 1) := by decide +kernel
theorem d_Ru_takeTexture_22 : decode c_Ru_takeTexture 22 = .ok (.aload_n 3, 1) := by decide +kernel
theorem d_Ru_takeTexture_23 : decode c_Ru_takeTexture 23 = .ok (.iload_n 1, 1) := by decide +kernel
theorem d_Ru_takeTexture_24 : decode c_Ru_takeTexture 24 = .ok (.iconst 1, 1) := by decide +kernel
theorem d_Ru_takeTexture_25 : decode c_Ru_takeTexture 25 = .ok (.invokevirtual 223, 3) := by decide +kernel
theorem d_Ru_takeTexture_28 : decode c_Ru_takeTexture 28 = .ok (.aload_n 0, 1) := by decide +kernel
theorem d_Ru_takeTexture_29 : decode c_Ru_takeTexture 29 = .ok (.getfield 9, 3) := by decide +kernel
theorem d_Ru_takeTexture_32 : decode c_Ru_takeTexture 32 = .ok (.iconst 1, 1) := by decide +kernel
theorem d_Ru_takeTexture_33 : decode c_Ru_takeTexture 33 = .ok (.iaload, 1) := by decide +kernel
theorem d_Ru_takeTexture_34 : decode c_Ru_takeTexture 34 = .ok (.iadd, 1) := by decide +kernel
theorem d_Ru_takeTexture_35 : decode c_Ru_takeTexture 35 = .ok (.aload_n 3, 1) := by decide +kernel
theorem d_Ru_takeTexture_36 : decode c_Ru_takeTexture 36 = .ok (.iload_n 1, 1) := by decide +kernel
