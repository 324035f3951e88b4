theorem d_Ru_takeTexture_37 : decode c_Ru_takeTexture 37 = .ok (.iconst 2, 1) := by decide +kernel
theorem d_Ru_takeTexture_38 : decode c_Ru_takeTexture 38 = .ok (.invokevirtual 223, 3) := by decide +kernel
theorem d_Ru_takeTexture_41 : decode c_Ru_takeTexture 41 = .ok (.iload_n 2, 1) := by decide +kernel
theorem d_Ru_takeTexture_42 : decode c_Ru_takeTexture 42 = .ok (.iadd, 1) := by decide +kernel
theorem d_Ru_takeTexture_43 : decode c_Ru_takeTexture 43 = .ok (.aload_n 3, 1) := by decide +kernel
theorem d_Ru_takeTexture_44 : decode c_Ru_takeTexture 44 = .ok (.iload_n 1, 1) := by decide +kernel
theorem d_Ru_takeTexture_45 : decode c_Ru_takeTexture 45 = .ok (.iconst 3, 1) := by decide +kernel
theorem d_Ru_takeTexture_46 : decode c_Ru_takeTexture 46 = .ok (.invokevirtual 223, 3) := by decide +kernel
theorem d_Ru_takeTexture_49 : decode c_Ru_takeTexture 49 = .ok (.invokevirtual 213, 3) := by decide +kernel
theorem d_Ru_takeTexture_52 : decode c_Ru_takeTexture 52 = .ok (.return_, 1) := by decide +kernel
theorem d_Ru_compute_0 : decode c_Ru_compute 0 = .ok (.iload_n 1, 1) := by decide +kernel
theorem d_Ru_compute_1 : decode c_Ru_compute 1 = .ok (.tableswitch 274 6 33 #[127, 139, 274, 274, 274, 274, 274, 151, 167, 183, 274, 274, 274, 274, 274, 274, 199, 274, 274, 274, 274, 274, 274, 274, 206, 235, 251, 260], 127) := by decide +kernel
theorem d_Ru_compute_128 : decode c_Ru_compute 128 = .ok (.aload_n 0, 1) := by decide +kernel
theorem d_Ru_compute_129 : decode c_Ru_compute 129 = .ok (.aload_n 0, 1) := by decide +kernel
theorem d_Ru_compute_130 : decode c_Ru_compute 130 = .ok (.iconst 3, 1) := by decide +kernel
theorem d_Ru_compute_131 : decode c_Ru_compute 131 = .ok (.invokevirtual 173, 3) := by decide +kernel
theorem d_Ru_compute_134 : decode c_Ru_compute 134 = .ok (.invokevirtual 176, 3) := by decide +kernel
theorem d_Ru_compute_137 : decode c_Ru_compute 137 = .ok (.goto 143, 3) := by decide +kernel
theorem d_Ru_compute_140 : decode c_Ru_compute 140 = .ok (.aload_n 0, 1) := by decide +kernel
theorem d_Ru_compute_141 : decode c_Ru_compute 141 = .ok (.aload_n 0, 1) := by decide +kernel
theorem d_Ru_compute_142 : decode c_Ru_compute 142 = .ok (.iconst 4, 1) := by decide +kernel
theorem d_Ru_compute_143 : decode c_Ru_compute 143 = .ok (.invokevirtual 173, 3) := by decide +kernel
theorem d_Ru_compute_146 : decode c_Ru_compute 146 = .ok (.invokevirtual 176, 3) := by decide +kernel
theorem d_Ru_compute_149 : decode c_Ru_compute 149 = .ok (.goto 131, 3) := by decide +kernel
theorem d_Ru_compute_152 : decode c_Ru_compute 152 = .ok (.aload_n 0, 1) := by decide +kernel
theorem d_Ru_compute_153 : decode c_Ru_compute 153 = .ok (.aload_n 0, 1) := by decide +kernel
theorem d_Ru_compute_154 : decode c_Ru_compute 154 = .ok (.getfield 9, 3) := by decide +kernel
theorem d_Ru_compute_157 : decode c_Ru_compute 157 = .ok (.iconst 0, 1) := by decide +kernel
theorem d_Ru_compute_158 : decode c_Ru_compute 158 = .ok (.iaload, 1) := by decide +kernel
theorem d_Ru_compute_159 : decode c_Ru_compute 159 = .ok (.invokestatic 179, 3) := by decide +kernel
theorem d_Ru_compute_162 : decode c_Ru_compute 162 = .ok (.invokevirtual 176, 3) := by decide +kernel
theorem d_Ru_compute_165 : decode c_Ru_compute 165 = .ok (.goto 115, 3) := by decide +kernel
theorem d_Ru_compute_168 : decode c_Ru_compute 168 = .ok (.aload_n 0, 1) := by decide +kernel
theorem d_Ru_compute_169 : decode c_Ru_compute 169 = .ok (.aload_n 0, 1) := by decide +kernel
theorem d_Ru_compute_170 : decode c_Ru_compute 170 = .ok (.getfield 9, 3) := by decide +kernel
theorem d_Ru_compute_173 : decode c_Ru_compute 173 = .ok (.iconst 0, 1) := by decide +kernel
theorem d_Ru_compute_174 : decode c_Ru_compute 174 = .ok (.iaload, 1) := by decide +kernel
theorem d_Ru_compute_175 : decode c_Ru_compute 175 = .ok (.invokestatic 182, 3) := by decide +kernel
theorem d_Ru_compute_178 : decode c_Ru_compute 178 = .ok (.invokevirtual 176, 3) := by decide +kernel
theorem d_Ru_compute_181 : decode c_Ru_compute 181 = .ok (.goto 99, 3) := by decide +kernel
theorem d_Ru_compute_184 : decode c_Ru_compute 184 = .ok (.aload_n 0, 1) := by decide +kernel
theorem d_Ru_compute_185 : decode c_Ru_compute 185 = .ok (.aload_n 0, 1) := by decide +kernel
theorem d_Ru_compute_186 : decode c_Ru_compute 186 = .ok (.getfield 9, 3) := by decide +kernel
theorem d_Ru_compute_189 : decode c_Ru_compute 189 = .ok (.iconst 0, 1) := by decide +kernel
theorem d_Ru_compute_190 : decode c_Ru_compute 190 = .ok (.iaload, 1) := by decide +kernel
theorem d_Ru_compute_191 : decode c_Ru_compute 191 = .ok (.invokestatic 185, 3) := by decide +kernel
theorem d_Ru_compute_194 : decode c_Ru_compute 194 = .ok (.invokevirtual 176, 3) := by decide +kernel
theorem d_Ru_compute_197 : decode c_Ru_compute 197 = .ok (.goto 83, 3) := by decide +kernel
theorem d_Ru_compute_200 : decode c_Ru_compute 200 = .ok (.aload_n 0, 1) := by decide +kernel
theorem d_Ru_compute_201 : decode c_Ru_compute 201 = .ok (.invokevirtual 188, 3) := by decide +kernel
theorem d_Ru_compute_204 : decode c_Ru_compute 204 = .ok (.goto 76, 3) := by decide +kernel
theorem d_Ru_compute_207 : decode c_Ru_compute 207 = .ok (.aload_n 0, 1) := by decide +kernel
theorem d_Ru_compute_208 : decode c_Ru_compute 208 = .ok (.getfield 31, 3) := by decide +kernel
theorem d_Ru_compute_211 : decode c_Ru_compute 211 = .ok (.getfield 191, 3) := by decide +kernel
theorem d_Ru_compute_214 : decode c_Ru_compute 214 = .ok (.aload_n 0, 1) := by decide +kernel
theorem d_Ru_compute_215 : decode c_Ru_compute 215 = .ok (.getfield 9, 3) := by decide +kernel
theorem d_Ru_compute_218 : decode c_Ru_compute 218 = .ok (.iconst 0, 1) := by decide +kernel
theorem d_Ru_compute_219 : decode c_Ru_compute 219 = .ok (.iaload, 1) := by decide +kernel
theorem d_Ru_compute_220 : decode c_Ru_compute 220 = .ok (.bipush 16, 2) := by decide +kernel
theorem d_Ru_compute_222 : decode c_Ru_compute 222 = .ok (.ishr, 1) := by decide +kernel
theorem d_Ru_compute_223 : decode c_Ru_compute 223 = .ok (.sipush 228, 3) := by decide +kernel
theorem d_Ru_compute_226 : decode c_Ru_compute 226 = .ok (.aload_n 0, 1) := by decide +kernel
theorem d_Ru_compute_227 : decode c_Ru_compute 227 = .ok (.getfield 21, 3) := by decide +kernel
theorem d_Ru_compute_230 : decode c_Ru_compute 230 = .ok (.invokevirtual 138, 3) := by decide +kernel
theorem d_Ru_compute_233 : decode c_Ru_compute 233 = .ok (.goto 47, 3) := by decide +kernel
theorem d_Ru_compute_236 : decode c_Ru_compute 236 = .ok (.aload_n 0, 1) := by decide +kernel
theorem d_Ru_compute_237 : decode c_Ru_compute 237 = .ok (.aload_n 0, 1) := by decide +kernel
theorem d_Ru_compute_238 : decode c_Ru_compute 238 = .ok (.getfield 9, 3) := by decide +kernel
theorem d_Ru_compute_241 : decode c_Ru_compute 241 = .ok (.iconst 0, 1) := by decide +kernel
theorem d_Ru_compute_242 : decode c_Ru_compute 242 = .ok (.iaload, 1) := by decide +kernel
theorem d_Ru_compute_243 : decode c_Ru_compute 243 = .ok (.bipush 16, 2) := by decide +kernel
theorem d_Ru_compute_245 : decode c_Ru_compute 245 = .ok (.ishr, 1) := by decide +kernel
theorem d_Ru_compute_246 : decode c_Ru_compute 246 = .ok (.invokevirtual 194, 3) := by decide +kernel
theorem d_Ru_compute_249 : decode c_Ru_compute 249 = .ok (.goto 31, 3) := by decide +kernel
theorem d_Ru_compute_252 : decode c_Ru_compute 252 = .ok (.aload_n 0, 1) := by decide +kernel
theorem d_Ru_compute_253 : decode c_Ru_compute 253 = .ok (.iload_n 2, 1) := by decide +kernel
theorem d_Ru_compute_254 : decode c_Ru_compute 254 = .ok (.iconst 0, 1) := by decide +kernel
theorem d_Ru_compute_255 : decode c_Ru_compute 255 = .ok (.invokevirtual 197, 3) := by decide +kernel
theorem d_Ru_compute_258 : decode c_Ru_compute 258 = .ok (.goto 22, 3) := by decide +kernel
theorem d_Ru_compute_261 : decode c_Ru_compute 261 = .ok (.aload_n 0, 1) := by decide +kernel
theorem d_Ru_compute_262 : decode c_Ru_compute 262 = .ok (.iload_n 2, 1) := by decide +kernel
theorem d_Ru_compute_263 : decode c_Ru_compute 263 = .ok (.aload_n 0, 1) := by decide +kernel
theorem d_Ru_compute_264 : decode c_Ru_compute 264 = .ok (.getfield 9, 3) := by decide +kernel
theorem d_Ru_compute_267 : decode c_Ru_compute 267 = .ok (.iconst 2, 1) := by decide +kernel
theorem d_Ru_compute_268 : decode c_Ru_compute 268 = .ok (.iaload, 1) := by decide +kernel
theorem d_Ru_compute_269 : decode c_Ru_compute 269 = .ok (.invokevirtual 197, 3) := by decide +kernel
theorem d_Ru_compute_272 : decode c_Ru_compute 272 = .ok (.goto 8, 3) := by decide +kernel
theorem d_Ru_compute_275 : decode c_Ru_compute 275 = .ok (.aload_n 0, 1) := by decide +kernel
theorem d_Ru_compute_276 : decode c_Ru_compute 276 = .ok (.iload_n 1, 1) := by decide +kernel
theorem d_Ru_compute_277 : decode c_Ru_compute 277 = .ok (.invokevirtual 200, 3) := by decide +kernel
theorem d_Ru_compute_280 : decode c_Ru_compute 280 = .ok (.return_, 1) := by decide +kernel
theorem d_Ru_setTarget_0 : decode c_Ru_setTarget 0 = .ok (.aload_n 0, 1) := by decide +kernel
theorem d_Ru_setTarget_1 : decode c_Ru_setTarget 1 = .ok (.getfield 31, 3) := by decide +kernel
theorem d_Ru_setTarget_4 : decode c_Ru_setTarget 4 = .ok (.iload_n 1, 1) := by decide +kernel
theorem d_Ru_setTarget_5 : decode c_Ru_setTarget 5 = .ok (.invokestatic 150, 3) := by decide +kernel
theorem d_Ru_setTarget_8 : decode c_Ru_setTarget 8 = .ok (.invokevirtual 153, 3) := by decide +kernel
theorem d_Ru_setTarget_11 : decode c_Ru_setTarget 11 = .ok (.astore_n 2, 1) := by decide +kernel
theorem d_Ru_setTarget_12 : decode c_Ru_setTarget 12 = .ok (.iload_n 1, 1) := by decide +kernel
theorem d_Ru_setTarget_13 : decode c_Ru_setTarget 13 = .ok (.invokestatic 156, 3) := by decide +kernel
theorem d_Ru_setTarget_16 : decode c_Ru_setTarget 16 = .ok (.istore_n 3, 1) := by decide +kernel
theorem d_Ru_setTarget_17 : decode c_Ru_setTarget 17 = .ok (.iload_n 1, 1) := by decide +kernel
theorem d_Ru_setTarget_18 : decode c_Ru_setTarget 18 = .ok (.invokestatic 157, 3) := by decide +kernel
theorem d_Ru_setTarget_21 : decode c_Ru_setTarget 21 = .ok (.istore 4, 2) := by decide +kernel
theorem d_Ru_setTarget_23 : decode c_Ru_setTarget 23 = .ok (.iconst 0, 1) := by decide +kernel
theorem d_Ru_setTarget_24 : decode c_Ru_setTarget 24 = .ok (.istore 5, 2) := by decide +kernel
theorem d_Ru_setTarget_26 : decode c_Ru_setTarget 26 = .ok (.iload 5, 2) := by decide +kernel
theorem d_Ru_setTarget_28 : decode c_Ru_setTarget 28 = .ok (.iconst 4, 1) := by decide +kernel
theorem d_Ru_setTarget_29 : decode c_Ru_setTarget 29 = .ok (.if_icmp .ge 50, 3) := by decide +kernel
theorem d_Ru_setTarget_32 : decode c_Ru_setTarget 32 = .ok (.iload_n 1, 1) := by decide +kernel
theorem d_Ru_setTarget_33 : decode c_Ru_setTarget 33 = .ok (.iload 5, 2) := by decide +kernel
theorem d_Ru_setTarget_35 : decode c_Ru_setTarget 35 = .ok (.invokestatic 160, 3) := by decide +kernel
theorem d_Ru_setTarget_38 : decode c_Ru_setTarget 38 = .ok (.ifCond .eq 35, 3) := by decide +kernel
theorem d_Ru_setTarget_41 : decode c_Ru_setTarget 41 = .ok (.aload_n 2, 1) := by decide +kernel
theorem d_Ru_setTarget_42 : decode c_Ru_setTarget 42 = .ok (.iload_n 3, 1) := by decide +kernel
theorem d_Ru_setTarget_43 : decode c_Ru_setTarget 43 = .ok (.iload 5, 2) := by decide +kernel
theorem d_Ru_setTarget_45 : decode c_Ru_setTarget 45 = .ok (.iload 4, 2) := by decide +kernel
theorem d_Ru_setTarget_47 : decode c_Ru_setTarget 47 = .ok (.ifCond .eq 16, 3) := by decide +kernel
theorem d_Ru_setTarget_50 : decode c_Ru_setTarget 50 = .ok (.aload_n 0, 1) := by decide +kernel
theorem d_Ru_setTarget_51 : decode c_Ru_setTarget 51 = .ok (.getfield 21, 3) := by decide +kernel
theorem d_Ru_setTarget_54 : decode c_Ru_setTarget 54 = .ok (.iload 5, 2) := by decide +kernel
theorem d_Ru_setTarget_56 : decode c_Ru_setTarget 56 = .ok (.iaload, 1) := by decide +kernel
theorem d_Ru_setTarget_57 : decode c_Ru_setTarget 57 = .ok (.invokestatic 164, 3) := by decide +kernel
theorem d_Ru_setTarget_60 : decode c_Ru_setTarget 60 = .ok (.goto 10, 3) := by decide +kernel
theorem d_Ru_setTarget_63 : decode c_Ru_setTarget 63 = .ok (.aload_n 0, 1) := by decide +kernel
theorem d_Ru_setTarget_64 : decode c_Ru_setTarget 64 = .ok (.getfield 21, 3) := by decide +kernel
theorem d_Ru_setTarget_67 : decode c_Ru_setTarget 67 = .ok (.iload 5, 2) := by decide +kernel
theorem d_Ru_setTarget_69 : decode c_Ru_setTarget 69 = .ok (.iaload, 1) := by decide +kernel
theorem d_Ru_setTarget_70 : decode c_Ru_setTarget 70 = .ok (.invokevirtual 169, 3) := by decide +kernel
theorem d_Ru_setTarget_73 : decode c_Ru_setTarget 73 = .ok (.iinc 5 1, 3) := by decide +kernel
theorem d_Ru_setTarget_76 : decode c_Ru_setTarget 76 = .ok (.goto (-50), 3) := by decide +kernel
theorem d_Ru_setTarget_79 : decode c_Ru_setTarget 79 = .ok (.return_, 1) := by decide +kernel
theorem d_Ru_step_0 : decode c_Ru_step 0 = .ok (.aload_n 0, 1) := by decide +kernel
theorem d_Ru_step_1 : decode c_Ru_step 1 = .ok (.getfield 52, 3) := by decide +kernel
theorem d_Ru_step_4 : decode c_Ru_step 4 = .ok (.istore_n 2, 1) := by decide +kernel
theorem d_Ru_step_5 : decode c_Ru_step 5 = .ok (.aload_n 1, 1) := by decide +kernel
theorem d_Ru_step_6 : decode c_Ru_step 6 = .ok (.iload_n 2, 1) := by decide +kernel
theorem d_Ru_step_7 : decode c_Ru_step 7 = .ok (.invokevirtual 63, 3) := by decide +kernel
theorem d_Ru_step_10 : decode c_Ru_step 10 = .ok (.istore_n 3, 1) := by decide +kernel
theorem d_Ru_step_11 : decode c_Ru_step 11 = .ok (.aload_n 1, 1) := by decide +kernel
theorem d_Ru_step_12 : decode c_Ru_step 12 = .ok (.iload_n 2, 1) := by decide +kernel
theorem d_Ru_step_13 : decode c_Ru_step 13 = .ok (.invokevirtual 69, 3) := by decide +kernel
theorem d_Ru_step_16 : decode c_Ru_step 16 = .ok (.istore 4, 2) := by decide +kernel
theorem d_Ru_step_18 : decode c_Ru_step 18 = .ok (.aload_n 0, 1) := by decide +kernel
theorem d_Ru_step_19 : decode c_Ru_step 19 = .ok (.iload_n 2, 1) := by decide +kernel
theorem d_Ru_step_20 : decode c_Ru_step 20 = .ok (.iconst 1, 1) := by decide +kernel
theorem d_Ru_step_21 : decode c_Ru_step 21 = .ok (.iadd, 1) := by decide +kernel
theorem d_Ru_step_22 : decode c_Ru_step 22 = .ok (.putfield 52, 3) := by decide +kernel
theorem d_Ru_step_25 : decode c_Ru_step 25 = .ok (.aload_n 0, 1) := by decide +kernel
theorem d_Ru_step_26 : decode c_Ru_step 26 = .ok (.aload_n 1, 1) := by decide +kernel
theorem d_Ru_step_27 : decode c_Ru_step 27 = .ok (.iload_n 2, 1) := by decide +kernel
theorem d_Ru_step_28 : decode c_Ru_step 28 = .ok (.iload_n 3, 1) := by decide +kernel
theorem d_Ru_step_29 : decode c_Ru_step 29 = .ok (.invokestatic 72, 3) := by decide +kernel
theorem d_Ru_step_32 : decode c_Ru_step 32 = .ok (.invokevirtual 77, 3) := by decide +kernel
theorem d_Ru_step_35 : decode c_Ru_step 35 = .ok (.iload_n 3, 1) := by decide +kernel
theorem d_Ru_step_36 : decode c_Ru_step 36 = .ok (.lookupswitch 171 #[(0, 60), (34, 62), (35, 75), (36, 81), (37, 105), (38, 113)], 60) := by decide +kernel
theorem d_Ru_step_96 : decode c_Ru_step 96 = .ok (.iconst 0, 1) := by decide +kernel
theorem d_Ru_step_97 : decode c_Ru_step 97 = .ok (.ireturn, 1) := by decide +kernel
theorem d_Ru_step_98 : decode c_Ru_step 98 = .ok (.aload_n 0, 1) := by decide +kernel
theorem d_Ru_step_99 : decode c_Ru_step 99 = .ok (.getfield 27, 3) := by decide +kernel
theorem d_Ru_step_102 : decode c_Ru_step 102 = .ok (.iload_n 2, 1) := by decide +kernel
theorem d_Ru_step_103 : decode c_Ru_step 103 = .ok (.iload 4, 2) := by decide +kernel
theorem d_Ru_step_105 : decode c_Ru_step 105 = .ok (.i2l, 1) := by decide +kernel
theorem d_Ru_step_106 : decode c_Ru_step 106 = .ok (.invokevirtual 81, 3) := by decide +kernel
theorem d_Ru_step_109 : decode c_Ru_step 109 = .ok (.iconst 1, 1) := by decide +kernel
theorem d_Ru_step_110 : decode c_Ru_step 110 = .ok (.ireturn, 1) := by decide +kernel
theorem d_Ru_step_111 : decode c_Ru_step 111 = .ok (.aload_n 0, 1) := by decide +kernel
theorem d_Ru_step_112 : decode c_Ru_step 112 = .ok (.invokevirtual 85, 3) := by decide +kernel
theorem d_Ru_step_115 : decode c_Ru_step 115 = .ok (.iconst 1, 1) := by decide +kernel
theorem d_Ru_step_116 : decode c_Ru_step 116 = .ok (.ireturn, 1) := by decide +kernel
theorem d_Ru_step_117 : decode c_Ru_step 117 = .ok (.aload_n 0, 1) := by decide +kernel
theorem d_Ru_step_118 : decode c_Ru_step 118 = .ok (.aload_n 0, 1) := by decide +kernel
theorem d_Ru_step_119 : decode c_Ru_step 119 = .ok (.getfield 9, 3) := by decide +kernel
theorem d_Ru_step_122 : decode c_Ru_step 122 = .ok (.iconst 0, 1) := by decide +kernel
theorem d_Ru_step_123 : decode c_Ru_step 123 = .ok (.iaload, 1) := by decide +kernel
theorem d_Ru_step_124 : decode c_Ru_step 124 = .ok (.ifCond .le 10, 3) := by decide +kernel
theorem d_Ru_step_127 : decode c_Ru_step 127 = .ok (.aload_n 0, 1) := by decide +kernel
theorem d_Ru_step_128 : decode c_Ru_step 128 = .ok (.getfield 52, 3) := by decide +kernel
theorem d_Ru_step_131 : decode c_Ru_step 131 = .ok (.goto 5, 3) := by decide +kernel
theorem d_Ru_step_134 : decode c_Ru_step 134 = .ok (.iload 4, 2) := by decide +kernel
theorem d_Ru_step_136 : decode c_Ru_step 136 = .ok (.putfield 52, 3) := by decide +kernel
theorem d_Ru_step_139 : decode c_Ru_step 139 = .ok (.iconst 1, 1) := by decide +kernel
theorem d_Ru_step_140 : decode c_Ru_step 140 = .ok (.ireturn, 1) := by decide +kernel
theorem d_Ru_step_141 : decode c_Ru_step 141 = .ok (.aload_n 0, 1) := by decide +kernel
theorem d_Ru_step_142 : decode c_Ru_step 142 = .ok (.iload 4, 2) := by decide +kernel
theorem d_Ru_step_144 : decode c_Ru_step 144 = .ok (.putfield 52, 3) := by decide +kernel
theorem d_Ru_step_147 : decode c_Ru_step 147 = .ok (.iconst 1, 1) := by decide +kernel
theorem d_Ru_step_148 : decode c_Ru_step 148 = .ok (.ireturn, 1) := by decide +kernel
theorem d_Ru_step_149 : decode c_Ru_step 149 = .ok (.aload_n 0, 1) := by decide +kernel
theorem d_Ru_step_150 : decode c_Ru_step 150 = .ok (.aload_n 0, 1) := by decide +kernel
theorem d_Ru_step_151 : decode c_Ru_step 151 = .ok (.getfield 9, 3) := by decide +kernel
theorem d_Ru_step_154 : decode c_Ru_step 154 = .ok (.iconst 0, 1) := by decide +kernel
theorem d_Ru_step_155 : decode c_Ru_step 155 = .ok (.iaload, 1) := by decide +kernel
theorem d_Ru_step_156 : decode c_Ru_step 156 = .ok (.ifCond .lt 30, 3) := by decide +kernel
theorem d_Ru_step_159 : decode c_Ru_step 159 = .ok (.aload_n 0, 1) := by decide +kernel
theorem d_Ru_step_160 : decode c_Ru_step 160 = .ok (.getfield 9, 3) := by decide +kernel
theorem d_Ru_step_163 : decode c_Ru_step 163 = .ok (.iconst 1, 1) := by decide +kernel
theorem d_Ru_step_164 : decode c_Ru_step 164 = .ok (.iaload, 1) := by decide +kernel
theorem d_Ru_step_165 : decode c_Ru_step 165 = .ok (.ifCond .lt 21, 3) := by decide +kernel
theorem d_Ru_step_168 : decode c_Ru_step 168 = .ok (.aload_n 0, 1) := by decide +kernel
theorem d_Ru_step_169 : decode c_Ru_step 169 = .ok (.getfield 9, 3) := by decide +kernel
theorem d_Ru_step_172 : decode c_Ru_step 172 = .ok (.iconst 2, 1) := by decide +kernel
theorem d_Ru_step_173 : decode c_Ru_step 173 = .ok (.iaload, 1) := by decide +kernel
theorem d_Ru_step_174 : decode c_Ru_step 174 = .ok (.ifCond .lt 12, 3) := by decide +kernel
theorem d_Ru_step_177 : decode c_Ru_step 177 = .ok (.aload_n 0, 1) := by decide +kernel
theorem d_Ru_step_178 : decode c_Ru_step 178 = .ok (.getfield 9, 3) := by decide +kernel
theorem d_Ru_step_181 : decode c_Ru_step 181 = .ok (.iconst 3, 1) := by decide +kernel
theorem d_Ru_step_182 : decode c_Ru_step 182 = .ok (.iaload, 1) := by decide +kernel
theorem d_Ru_step_183 : decode c_Ru_step 183 = .ok (.ifCond .ge 7, 3) := by decide +kernel
theorem d_Ru_step_186 : decode c_Ru_step 186 = .ok (.iconst 1, 1) := by decide +kernel
theorem d_Ru_step_187 : decode c_Ru_step 187 = .ok (.goto 4, 3) := by decide +kernel
theorem d_Ru_step_190 : decode c_Ru_step 190 = .ok (.iconst 0, 1) := by decide +kernel
theorem d_Ru_step_191 : decode c_Ru_step 191 = .ok (.putfield 35, 3) := by decide +kernel
theorem d_Ru_step_194 : decode c_Ru_step 194 = .ok (.aload_n 0, 1) := by decide +kernel
theorem d_Ru_step_195 : decode c_Ru_step 195 = .ok (.getfield 35, 3) := by decide +kernel
theorem d_Ru_step_198 : decode c_Ru_step 198 = .ok (.ifCond .ne 7, 3) := by decide +kernel
theorem d_Ru_step_201 : decode c_Ru_step 201 = .ok (.iconst 1, 1) := by decide +kernel
theorem d_Ru_step_202 : decode c_Ru_step 202 = .ok (.goto 4, 3) := by decide +kernel
theorem d_Ru_step_205 : decode c_Ru_step 205 = .ok (.iconst 0, 1) := by decide +kernel
theorem d_Ru_step_206 : decode c_Ru_step 206 = .ok (.ireturn, 1) := by decide +kernel
theorem d_Ru_step_207 : decode c_Ru_step 207 = .ok (.aload_n 0, 1) := by decide +kernel
theorem d_Ru_step_208 : decode c_Ru_step 208 = .ok (.iload_n 3, 1) := by decide +kernel
theorem d_Ru_step_209 : decode c_Ru_step 209 = .ok (.iload 4, 2) := by decide +kernel
theorem d_Ru_step_211 : decode c_Ru_step 211 = .ok (.invokevirtual 88, 3) := by decide +kernel
theorem d_Ru_step_214 : decode c_Ru_step 214 = .ok (.aload_n 0, 1) := by decide +kernel
theorem d_Ru_step_215 : decode c_Ru_step 215 = .ok (.aload_n 1, 1) := by decide +kernel
theorem d_Ru_step_216 : decode c_Ru_step 216 = .ok (.iload_n 2, 1) := by decide +kernel
theorem d_Ru_step_217 : decode c_Ru_step 217 = .ok (.invokevirtual 92, 3) := by decide +kernel
theorem d_Ru_step_220 : decode c_Ru_step 220 = .ok (.invokevirtual 95, 3) := by decide +kernel
theorem d_Ru_step_223 : decode c_Ru_step 223 = .ok (.iconst 1, 1) := by decide +kernel
theorem d_Ru_step_224 : decode c_Ru_step 224 = .ok (.ireturn, 1) := by decide +kernel
theorem d_Ru_perform_0 : decode c_Ru_perform 0 = .ok (.aload_n 0, 1) := by decide +kernel
theorem d_Ru_perform_1 : decode c_Ru_perform 1 = .ok (.getfield 31, 3) := by decide +kernel
theorem d_Ru_perform_4 : decode c_Ru_perform 4 = .ok (.getfield 39, 3) := by decide +kernel
theorem d_Ru_perform_7 : decode c_Ru_perform 7 = .ok (.invokevirtual 45, 3) := by decide +kernel
theorem d_Ru_perform_10 : decode c_Ru_perform 10 = .ok (.aload_n 0, 1) := by decide +kernel
theorem d_Ru_perform_11 : decode c_Ru_perform 11 = .ok (.getfield 31, 3) := by decide +kernel
theorem d_Ru_perform_14 : decode c_Ru_perform 14 = .ok (.getfield 48, 3) := by decide +kernel
theorem d_Ru_perform_17 : decode c_Ru_perform 17 = .ok (.invokevirtual 45, 3) := by decide +kernel
theorem d_Ru_perform_20 : decode c_Ru_perform 20 = .ok (.aload_n 0, 1) := by decide +kernel
theorem d_Ru_perform_21 : decode c_Ru_perform 21 = .ok (.getfield 27, 3) := by decide +kernel
theorem d_Ru_perform_24 : decode c_Ru_perform 24 = .ok (.invokevirtual 51, 3) := by decide +kernel
theorem d_Ru_perform_27 : decode c_Ru_perform 27 = .ok (.aload_n 0, 1) := by decide +kernel
theorem d_Ru_perform_28 : decode c_Ru_perform 28 = .ok (.iconst 0, 1) := by decide +kernel
theorem d_Ru_perform_29 : decode c_Ru_perform 29 = .ok (.putfield 52, 3) := by decide +kernel
theorem d_Ru_perform_32 : decode c_Ru_perform 32 = .ok (.aload_n 0, 1) := by decide +kernel
theorem d_Ru_perform_33 : decode c_Ru_perform 33 = .ok (.iconst 0, 1) := by decide +kernel
theorem d_Ru_perform_34 : decode c_Ru_perform 34 = .ok (.putfield 35, 3) := by decide +kernel
theorem d_Ru_perform_37 : decode c_Ru_perform 37 = .ok (.iconst 0, 1) := by decide +kernel
theorem d_Ru_perform_38 : decode c_Ru_perform 38 = .ok (.istore_n 2, 1) := by decide +kernel
theorem d_Ru_perform_39 : decode c_Ru_perform 39 = .ok (.iconst 1, 1) := by decide +kernel
