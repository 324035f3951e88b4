theorem d_Mo_more_150 : decode c_Mo_more 150 = .ok (.aload_n 0, 1) := by decide +kernel
theorem d_Mo_more_151 : decode c_Mo_more 151 = .ok (.getfield 38, 3) := by decide +kernel
theorem d_Mo_more_154 : decode c_Mo_more 154 = .ok (.iconst 4, 1) := by decide +kernel
theorem d_Mo_more_155 : decode c_Mo_more 155 = .ok (.iload 7, 2) := by decide +kernel
theorem d_Mo_more_157 : decode c_Mo_more 157 = .ok (.iadd, 1) := by decide +kernel
theorem d_Mo_more_158 : decode c_Mo_more 158 = .ok (.iaload, 1) := by decide +kernel
theorem d_Mo_more_159 : decode c_Mo_more 159 = .ok (.invokestatic 140, 3) := by decide +kernel
theorem d_Mo_more_162 : decode c_Mo_more 162 = .ok (.aload_n 0, 1) := by decide +kernel
theorem d_Mo_more_163 : decode c_Mo_more 163 = .ok (.getfield 38, 3) := by decide +kernel
theorem d_Mo_more_166 : decode c_Mo_more 166 = .ok (.iload 7, 2) := by decide +kernel
theorem d_Mo_more_168 : decode c_Mo_more 168 = .ok (.iaload, 1) := by decide +kernel
theorem d_Mo_more_169 : decode c_Mo_more 169 = .ok (.aload_n 0, 1) := by decide +kernel
theorem d_Mo_more_170 : decode c_Mo_more 170 = .ok (.getfield 38, 3) := by decide +kernel
theorem d_Mo_more_173 : decode c_Mo_more 173 = .ok (.iconst 4, 1) := by decide +kernel
theorem d_Mo_more_174 : decode c_Mo_more 174 = .ok (.iload 6, 2) := by decide +kernel
theorem d_Mo_more_176 : decode c_Mo_more 176 = .ok (.iadd, 1) := by decide +kernel
theorem d_Mo_more_177 : decode c_Mo_more 177 = .ok (.iaload, 1) := by decide +kernel
theorem d_Mo_more_178 : decode c_Mo_more 178 = .ok (.invokestatic 140, 3) := by decide +kernel
theorem d_Mo_more_181 : decode c_Mo_more 181 = .ok (.isub, 1) := by decide +kernel
theorem d_Mo_more_182 : decode c_Mo_more 182 = .ok (.ireturn, 1) := by decide +kernel
theorem d_Mo_more_183 : decode c_Mo_more 183 = .ok (.iload_n 3, 1) := by decide +kernel
theorem d_Mo_more_184 : decode c_Mo_more 184 = .ok (.iload 4, 2) := by decide +kernel
theorem d_Mo_more_186 : decode c_Mo_more 186 = .ok (.iand, 1) := by decide +kernel
theorem d_Mo_more_187 : decode c_Mo_more 187 = .ok (.ireturn, 1) := by decide +kernel
theorem d_Mo_more_188 : decode c_Mo_more 188 = .ok (.iload_n 3, 1) := by decide +kernel
theorem d_Mo_more_189 : decode c_Mo_more 189 = .ok (.iload 4, 2) := by decide +kernel
theorem d_Mo_more_191 : decode c_Mo_more 191 = .ok (.ior, 1) := by decide +kernel
theorem d_Mo_more_192 : decode c_Mo_more 192 = .ok (.ireturn, 1) := by decide +kernel
theorem d_Mo_more_193 : decode c_Mo_more 193 = .ok (.iload_n 3, 1) := by decide +kernel
theorem d_Mo_more_194 : decode c_Mo_more 194 = .ok (.iload 4, 2) := by decide +kernel
theorem d_Mo_more_196 : decode c_Mo_more 196 = .ok (.ixor, 1) := by decide +kernel
theorem d_Mo_more_197 : decode c_Mo_more 197 = .ok (.ireturn, 1) := by decide +kernel
theorem d_Mo_more_198 : decode c_Mo_more 198 = .ok (.iload_n 3, 1) := by decide +kernel
theorem d_Mo_more_199 : decode c_Mo_more 199 = .ok (.iconst (-1), 1) := by decide +kernel
theorem d_Mo_more_200 : decode c_Mo_more 200 = .ok (.ixor, 1) := by decide +kernel
theorem d_Mo_more_201 : decode c_Mo_more 201 = .ok (.ireturn, 1) := by decide +kernel
theorem d_Mo_more_202 : decode c_Mo_more 202 = .ok (.iload_n 3, 1) := by decide +kernel
theorem d_Mo_more_203 : decode c_Mo_more 203 = .ok (.iload 4, 2) := by decide +kernel
theorem d_Mo_more_205 : decode c_Mo_more 205 = .ok (.bipush 31, 2) := by decide +kernel
theorem d_Mo_more_207 : decode c_Mo_more 207 = .ok (.iand, 1) := by decide +kernel
theorem d_Mo_more_208 : decode c_Mo_more 208 = .ok (.ishl, 1) := by decide +kernel
theorem d_Mo_more_209 : decode c_Mo_more 209 = .ok (.ireturn, 1) := by decide +kernel
theorem d_Mo_more_210 : decode c_Mo_more 210 = .ok (.iload_n 3, 1) := by decide +kernel
theorem d_Mo_more_211 : decode c_Mo_more 211 = .ok (.iload 4, 2) := by decide +kernel
theorem d_Mo_more_213 : decode c_Mo_more 213 = .ok (.bipush 31, 2) := by decide +kernel
theorem d_Mo_more_215 : decode c_Mo_more 215 = .ok (.iand, 1) := by decide +kernel
theorem d_Mo_more_216 : decode c_Mo_more 216 = .ok (.ishr, 1) := by decide +kernel
theorem d_Mo_more_217 : decode c_Mo_more 217 = .ok (.ireturn, 1) := by decide +kernel
theorem d_Mo_more_218 : decode c_Mo_more 218 = .ok (.iload_n 3, 1) := by decide +kernel
theorem d_Mo_more_219 : decode c_Mo_more 219 = .ok (.iload 4, 2) := by decide +kernel
theorem d_Mo_more_221 : decode c_Mo_more 221 = .ok (.bipush 31, 2) := by decide +kernel
theorem d_Mo_more_223 : decode c_Mo_more 223 = .ok (.iand, 1) := by decide +kernel
theorem d_Mo_more_224 : decode c_Mo_more 224 = .ok (.iushr, 1) := by decide +kernel
theorem d_Mo_more_225 : decode c_Mo_more 225 = .ok (.ireturn, 1) := by decide +kernel
theorem d_Mo_more_226 : decode c_Mo_more 226 = .ok (.iload 5, 2) := by decide +kernel
theorem d_Mo_more_228 : decode c_Mo_more 228 = .ok (.ifCond .lt 24, 3) := by decide +kernel
theorem d_Mo_more_231 : decode c_Mo_more 231 = .ok (.iload 5, 2) := by decide +kernel
theorem d_Mo_more_233 : decode c_Mo_more 233 = .ok (.bipush 32, 2) := by decide +kernel
theorem d_Mo_more_235 : decode c_Mo_more 235 = .ok (.if_icmp .ge 17, 3) := by decide +kernel
theorem d_Mo_more_238 : decode c_Mo_more 238 = .ok (.aload_n 0, 1) := by decide +kernel
theorem d_Mo_more_239 : decode c_Mo_more 239 = .ok (.getfield 32, 3) := by decide +kernel
theorem d_Mo_more_242 : decode c_Mo_more 242 = .ok (.iconst 4, 1) := by decide +kernel
theorem d_Mo_more_243 : decode c_Mo_more 243 = .ok (.iload 5, 2) := by decide +kernel
theorem d_Mo_more_245 : decode c_Mo_more 245 = .ok (.imul, 1) := by decide +kernel
theorem d_Mo_more_246 : decode c_Mo_more 246 = .ok (.iload_n 2, 1) := by decide +kernel
theorem d_Mo_more_247 : decode c_Mo_more 247 = .ok (.iadd, 1) := by decide +kernel
theorem d_Mo_more_248 : decode c_Mo_more 248 = .ok (.iaload, 1) := by decide +kernel
theorem d_Mo_more_249 : decode c_Mo_more 249 = .ok (.goto 4, 3) := by decide +kernel
theorem d_Mo_more_252 : decode c_Mo_more 252 = .ok (.iconst 0, 1) := by decide +kernel
theorem d_Mo_more_253 : decode c_Mo_more 253 = .ok (.ireturn, 1) := by decide +kernel
theorem d_Mo_more_254 : decode c_Mo_more 254 = .ok (.aload_n 0, 1) := by decide +kernel
theorem d_Mo_more_255 : decode c_Mo_more 255 = .ok (.iload 5, 2) := by decide +kernel
theorem d_Mo_more_257 : decode c_Mo_more 257 = .ok (.iload_n 2, 1) := by decide +kernel
theorem d_Mo_more_258 : decode c_Mo_more 258 = .ok (.iadd, 1) := by decide +kernel
theorem d_Mo_more_259 : decode c_Mo_more 259 = .ok (.invokevirtual 157, 3) := by decide +kernel
theorem d_Mo_more_262 : decode c_Mo_more 262 = .ok (.ireturn, 1) := by decide +kernel
theorem d_Mo_more_263 : decode c_Mo_more 263 = .ok (.iload_n 3, 1) := by decide +kernel
theorem d_Mo_more_264 : decode c_Mo_more 264 = .ok (.bipush 16, 2) := by decide +kernel
theorem d_Mo_more_266 : decode c_Mo_more 266 = .ok (.ishr, 1) := by decide +kernel
theorem d_Mo_more_267 : decode c_Mo_more 267 = .ok (.ireturn, 1) := by decide +kernel
theorem d_Mo_more_268 : decode c_Mo_more 268 = .ok (.iload_n 3, 1) := by decide +kernel
theorem d_Mo_more_269 : decode c_Mo_more 269 = .ok (.bipush 16, 2) := by decide +kernel
theorem d_Mo_more_271 : decode c_Mo_more 271 = .ok (.ishl, 1) := by decide +kernel
theorem d_Mo_more_272 : decode c_Mo_more 272 = .ok (.ireturn, 1) := by decide +kernel
theorem d_Mo_more_273 : decode c_Mo_more 273 = .ok (.aload_n 0, 1) := by decide +kernel
theorem d_Mo_more_274 : decode c_Mo_more 274 = .ok (.getfield 35, 3) := by decide +kernel
theorem d_Mo_more_277 : decode c_Mo_more 277 = .ok (.iconst 4, 1) := by decide +kernel
theorem d_Mo_more_278 : decode c_Mo_more 278 = .ok (.aload_n 0, 1) := by decide +kernel
theorem d_Mo_more_279 : decode c_Mo_more 279 = .ok (.getfield 160, 3) := by decide +kernel
theorem d_Mo_more_282 : decode c_Mo_more 282 = .ok (.imul, 1) := by decide +kernel
theorem d_Mo_more_283 : decode c_Mo_more 283 = .ok (.iload_n 2, 1) := by decide +kernel
theorem d_Mo_more_284 : decode c_Mo_more 284 = .ok (.iadd, 1) := by decide +kernel
theorem d_Mo_more_285 : decode c_Mo_more 285 = .ok (.iaload, 1) := by decide +kernel
theorem d_Mo_more_286 : decode c_Mo_more 286 = .ok (.iload_n 2, 1) := by decide +kernel
theorem d_Mo_more_287 : decode c_Mo_more 287 = .ok (.iconst 2, 1) := by decide +kernel
theorem d_Mo_more_288 : decode c_Mo_more 288 = .ok (.if_icmp .ge 12, 3) := by decide +kernel
theorem d_Mo_more_291 : decode c_Mo_more 291 = .ok (.aload_n 0, 1) := by decide +kernel
theorem d_Mo_more_292 : decode c_Mo_more 292 = .ok (.getfield 38, 3) := by decide +kernel
theorem d_Mo_more_295 : decode c_Mo_more 295 = .ok (.iload_n 2, 1) := by decide +kernel
theorem d_Mo_more_296 : decode c_Mo_more 296 = .ok (.iaload, 1) := by decide +kernel
theorem d_Mo_more_297 : decode c_Mo_more 297 = .ok (.goto 24, 3) := by decide +kernel
theorem d_Mo_more_300 : decode c_Mo_more 300 = .ok (.iload_n 2, 1) := by decide +kernel
theorem d_Mo_more_301 : decode c_Mo_more 301 = .ok (.iconst 2, 1) := by decide +kernel
theorem d_Mo_more_302 : decode c_Mo_more 302 = .ok (.if_icmp .ne 18, 3) := by decide +kernel
theorem d_Mo_more_305 : decode c_Mo_more 305 = .ok (.iload_n 1, 1) := by decide +kernel
theorem d_Mo_more_306 : decode c_Mo_more 306 = .ok (.bipush 33, 2) := by decide +kernel
theorem d_Mo_more_308 : decode c_Mo_more 308 = .ok (.if_icmp .ne 12, 3) := by decide +kernel
theorem d_Mo_more_311 : decode c_Mo_more 311 = .ok (.aload_n 0, 1) := by decide +kernel
theorem d_Mo_more_312 : decode c_Mo_more 312 = .ok (.getfield 38, 3) := by decide +kernel
theorem d_Mo_more_315 : decode c_Mo_more 315 = .ok (.iconst 2, 1) := by decide +kernel
theorem d_Mo_more_316 : decode c_Mo_more 316 = .ok (.iaload, 1) := by decide +kernel
theorem d_Mo_more_317 : decode c_Mo_more 317 = .ok (.goto 4, 3) := by decide +kernel
theorem d_Mo_more_320 : decode c_Mo_more 320 = .ok (.iconst 0, 1) := by decide +kernel
theorem d_Mo_more_321 : decode c_Mo_more 321 = .ok (.iadd, 1) := by decide +kernel
theorem d_Mo_more_322 : decode c_Mo_more 322 = .ok (.ireturn, 1) := by decide +kernel
theorem d_Mo_part_0 : decode c_Mo_part 0 = .ok (.aload_n 0, 1) := by decide +kernel
theorem d_Mo_part_1 : decode c_Mo_part 1 = .ok (.getfield 38, 3) := by decide +kernel
theorem d_Mo_part_4 : decode c_Mo_part 4 = .ok (.iload_n 2, 1) := by decide +kernel
theorem d_Mo_part_5 : decode c_Mo_part 5 = .ok (.iaload, 1) := by decide +kernel
theorem d_Mo_part_6 : decode c_Mo_part 6 = .ok (.istore_n 3, 1) := by decide +kernel
theorem d_Mo_part_7 : decode c_Mo_part 7 = .ok (.aload_n 0, 1) := by decide +kernel
theorem d_Mo_part_8 : decode c_Mo_part 8 = .ok (.getfield 38, 3) := by decide +kernel
theorem d_Mo_part_11 : decode c_Mo_part 11 = .ok (.iconst 4, 1) := by decide +kernel
theorem d_Mo_part_12 : decode c_Mo_part 12 = .ok (.iload_n 2, 1) := by decide +kernel
theorem d_Mo_part_13 : decode c_Mo_part 13 = .ok (.iadd, 1) := by decide +kernel
theorem d_Mo_part_14 : decode c_Mo_part 14 = .ok (.iaload, 1) := by decide +kernel
theorem d_Mo_part_15 : decode c_Mo_part 15 = .ok (.istore 4, 2) := by decide +kernel
theorem d_Mo_part_17 : decode c_Mo_part 17 = .ok (.aload_n 0, 1) := by decide +kernel
theorem d_Mo_part_18 : decode c_Mo_part 18 = .ok (.getfield 38, 3) := by decide +kernel
theorem d_Mo_part_21 : decode c_Mo_part 21 = .ok (.bipush 8, 2) := by decide +kernel
theorem d_Mo_part_23 : decode c_Mo_part 23 = .ok (.iload_n 2, 1) := by decide +kernel
theorem d_Mo_part_24 : decode c_Mo_part 24 = .ok (.iadd, 1) := by decide +kernel
theorem d_Mo_part_25 : decode c_Mo_part 25 = .ok (.iaload, 1) := by decide +kernel
theorem d_Mo_part_26 : decode c_Mo_part 26 = .ok (.istore 5, 2) := by decide +kernel
theorem d_Mo_part_28 : decode c_Mo_part 28 = .ok (.aload_n 0, 1) := by decide +kernel
theorem d_Mo_part_29 : decode c_Mo_part 29 = .ok (.getfield 38, 3) := by decide +kernel
theorem d_Mo_part_32 : decode c_Mo_part 32 = .ok (.iconst 0, 1) := by decide +kernel
theorem d_Mo_part_33 : decode c_Mo_part 33 = .ok (.iaload, 1) := by decide +kernel
theorem d_Mo_part_34 : decode c_Mo_part 34 = .ok (.istore 6, 2) := by decide +kernel
theorem d_Mo_part_36 : decode c_Mo_part 36 = .ok (.iload_n 1, 1) := by decide +kernel
theorem d_Mo_part_37 : decode c_Mo_part 37 = .ok (.tableswitch 425 1 21 #[99, 101, 106, 111, 118, 128, 177, 243, 256, 269, 291, 296, 301, 307, 328, 348, 361, 374, 387, 400, 412], 99) := by decide +kernel
theorem d_Mo_part_136 : decode c_Mo_part 136 = .ok (.iload_n 3, 1) := by decide +kernel
theorem d_Mo_part_137 : decode c_Mo_part 137 = .ok (.ireturn, 1) := by decide +kernel
theorem d_Mo_part_138 : decode c_Mo_part 138 = .ok (.iload_n 3, 1) := by decide +kernel
theorem d_Mo_part_139 : decode c_Mo_part 139 = .ok (.iload 4, 2) := by decide +kernel
theorem d_Mo_part_141 : decode c_Mo_part 141 = .ok (.iadd, 1) := by decide +kernel
theorem d_Mo_part_142 : decode c_Mo_part 142 = .ok (.ireturn, 1) := by decide +kernel
theorem d_Mo_part_143 : decode c_Mo_part 143 = .ok (.iload_n 3, 1) := by decide +kernel
theorem d_Mo_part_144 : decode c_Mo_part 144 = .ok (.iload 4, 2) := by decide +kernel
theorem d_Mo_part_146 : decode c_Mo_part 146 = .ok (.isub, 1) := by decide +kernel
theorem d_Mo_part_147 : decode c_Mo_part 147 = .ok (.ireturn, 1) := by decide +kernel
theorem d_Mo_part_148 : decode c_Mo_part 148 = .ok (.iload_n 3, 1) := by decide +kernel
theorem d_Mo_part_149 : decode c_Mo_part 149 = .ok (.iload 4, 2) := by decide +kernel
theorem d_Mo_part_151 : decode c_Mo_part 151 = .ok (.invokestatic 140, 3) := by decide +kernel
theorem d_Mo_part_154 : decode c_Mo_part 154 = .ok (.ireturn, 1) := by decide +kernel
theorem d_Mo_part_155 : decode c_Mo_part 155 = .ok (.iload_n 3, 1) := by decide +kernel
theorem d_Mo_part_156 : decode c_Mo_part 156 = .ok (.iload 4, 2) := by decide +kernel
theorem d_Mo_part_158 : decode c_Mo_part 158 = .ok (.invokestatic 140, 3) := by decide +kernel
theorem d_Mo_part_161 : decode c_Mo_part 161 = .ok (.iload 5, 2) := by decide +kernel
theorem d_Mo_part_163 : decode c_Mo_part 163 = .ok (.iadd, 1) := by decide +kernel
theorem d_Mo_part_164 : decode c_Mo_part 164 = .ok (.ireturn, 1) := by decide +kernel
theorem d_Mo_part_165 : decode c_Mo_part 165 = .ok (.aload_n 0, 1) := by decide +kernel
theorem d_Mo_part_166 : decode c_Mo_part 166 = .ok (.getfield 38, 3) := by decide +kernel
theorem d_Mo_part_169 : decode c_Mo_part 169 = .ok (.iconst 0, 1) := by decide +kernel
theorem d_Mo_part_170 : decode c_Mo_part 170 = .ok (.iaload, 1) := by decide +kernel
theorem d_Mo_part_171 : decode c_Mo_part 171 = .ok (.aload_n 0, 1) := by decide +kernel
theorem d_Mo_part_172 : decode c_Mo_part 172 = .ok (.getfield 38, 3) := by decide +kernel
theorem d_Mo_part_175 : decode c_Mo_part 175 = .ok (.iconst 4, 1) := by decide +kernel
theorem d_Mo_part_176 : decode c_Mo_part 176 = .ok (.iaload, 1) := by decide +kernel
theorem d_Mo_part_177 : decode c_Mo_part 177 = .ok (.invokestatic 140, 3) := by decide +kernel
theorem d_Mo_part_180 : decode c_Mo_part 180 = .ok (.aload_n 0, 1) := by decide +kernel
theorem d_Mo_part_181 : decode c_Mo_part 181 = .ok (.getfield 38, 3) := by decide +kernel
theorem d_Mo_part_184 : decode c_Mo_part 184 = .ok (.iconst 1, 1) := by decide +kernel
theorem d_Mo_part_185 : decode c_Mo_part 185 = .ok (.iaload, 1) := by decide +kernel
theorem d_Mo_part_186 : decode c_Mo_part 186 = .ok (.aload_n 0, 1) := by decide +kernel
theorem d_Mo_part_187 : decode c_Mo_part 187 = .ok (.getfield 38, 3) := by decide +kernel
theorem d_Mo_part_190 : decode c_Mo_part 190 = .ok (.iconst 5, 1) := by decide +kernel
theorem d_Mo_part_191 : decode c_Mo_part 191 = .ok (.iaload, 1) := by decide +kernel
theorem d_Mo_part_192 : decode c_Mo_part 192 = .ok (.invokestatic 140, 3) := by decide +kernel
theorem d_Mo_part_195 : decode c_Mo_part 195 = .ok (.iadd, 1) := by decide +kernel
theorem d_Mo_part_196 : decode c_Mo_part 196 = .ok (.aload_n 0, 1) := by decide +kernel
theorem d_Mo_part_197 : decode c_Mo_part 197 = .ok (.getfield 38, 3) := by decide +kernel
theorem d_Mo_part_200 : decode c_Mo_part 200 = .ok (.iconst 2, 1) := by decide +kernel
theorem d_Mo_part_201 : decode c_Mo_part 201 = .ok (.iaload, 1) := by decide +kernel
theorem d_Mo_part_202 : decode c_Mo_part 202 = .ok (.aload_n 0, 1) := by decide +kernel
theorem d_Mo_part_203 : decode c_Mo_part 203 = .ok (.getfield 38, 3) := by decide +kernel
theorem d_Mo_part_206 : decode c_Mo_part 206 = .ok (.bipush 6, 2) := by decide +kernel
theorem d_Mo_part_208 : decode c_Mo_part 208 = .ok (.iaload, 1) := by decide +kernel
theorem d_Mo_part_209 : decode c_Mo_part 209 = .ok (.invokestatic 140, 3) := by decide +kernel
theorem d_Mo_part_212 : decode c_Mo_part 212 = .ok (.iadd, 1) := by decide +kernel
theorem d_Mo_part_213 : decode c_Mo_part 213 = .ok (.ireturn, 1) := by decide +kernel
theorem d_Mo_part_214 : decode c_Mo_part 214 = .ok (.aload_n 0, 1) := by decide +kernel
theorem d_Mo_part_215 : decode c_Mo_part 215 = .ok (.getfield 38, 3) := by decide +kernel
theorem d_Mo_part_218 : decode c_Mo_part 218 = .ok (.iconst 0, 1) := by decide +kernel
theorem d_Mo_part_219 : decode c_Mo_part 219 = .ok (.iaload, 1) := by decide +kernel
theorem d_Mo_part_220 : decode c_Mo_part 220 = .ok (.aload_n 0, 1) := by decide +kernel
theorem d_Mo_part_221 : decode c_Mo_part 221 = .ok (.getfield 38, 3) := by decide +kernel
theorem d_Mo_part_224 : decode c_Mo_part 224 = .ok (.iconst 4, 1) := by decide +kernel
theorem d_Mo_part_225 : decode c_Mo_part 225 = .ok (.iaload, 1) := by decide +kernel
theorem d_Mo_part_226 : decode c_Mo_part 226 = .ok (.invokestatic 140, 3) := by decide +kernel
theorem d_Mo_part_229 : decode c_Mo_part 229 = .ok (.aload_n 0, 1) := by decide +kernel
theorem d_Mo_part_230 : decode c_Mo_part 230 = .ok (.getfield 38, 3) := by decide +kernel
theorem d_Mo_part_233 : decode c_Mo_part 233 = .ok (.iconst 1, 1) := by decide +kernel
theorem d_Mo_part_234 : decode c_Mo_part 234 = .ok (.iaload, 1) := by decide +kernel
theorem d_Mo_part_235 : decode c_Mo_part 235 = .ok (.aload_n 0, 1) := by decide +kernel
theorem d_Mo_part_236 : decode c_Mo_part 236 = .ok (.getfield 38, 3) := by decide +kernel
theorem d_Mo_part_239 : decode c_Mo_part 239 = .ok (.iconst 5, 1) := by decide +kernel
theorem d_Mo_part_240 : decode c_Mo_part 240 = .ok (.iaload, 1) := by decide +kernel
theorem d_Mo_part_241 : decode c_Mo_part 241 = .ok (.invokestatic 140, 3) := by decide +kernel
theorem d_Mo_part_244 : decode c_Mo_part 244 = .ok (.iadd, 1) := by decide +kernel
theorem d_Mo_part_245 : decode c_Mo_part 245 = .ok (.aload_n 0, 1) := by decide +kernel
theorem d_Mo_part_246 : decode c_Mo_part 246 = .ok (.getfield 38, 3) := by decide +kernel
theorem d_Mo_part_249 : decode c_Mo_part 249 = .ok (.iconst 2, 1) := by decide +kernel
theorem d_Mo_part_250 : decode c_Mo_part 250 = .ok (.iaload, 1) := by decide +kernel
theorem d_Mo_part_251 : decode c_Mo_part 251 = .ok (.aload_n 0, 1) := by decide +kernel
theorem d_Mo_part_252 : decode c_Mo_part 252 = .ok (.getfield 38, 3) := by decide +kernel
theorem d_Mo_part_255 : decode c_Mo_part 255 = .ok (.bipush 6, 2) := by decide +kernel
theorem d_Mo_part_257 : decode c_Mo_part 257 = .ok (.iaload, 1) := by decide +kernel
theorem d_Mo_part_258 : decode c_Mo_part 258 = .ok (.invokestatic 140, 3) := by decide +kernel
theorem d_Mo_part_261 : decode c_Mo_part 261 = .ok (.iadd, 1) := by decide +kernel
theorem d_Mo_part_262 : decode c_Mo_part 262 = .ok (.aload_n 0, 1) := by decide +kernel
theorem d_Mo_part_263 : decode c_Mo_part 263 = .ok (.getfield 38, 3) := by decide +kernel
theorem d_Mo_part_266 : decode c_Mo_part 266 = .ok (.iconst 3, 1) := by decide +kernel
theorem d_Mo_part_267 : decode c_Mo_part 267 = .ok (.iaload, 1) := by decide +kernel
theorem d_Mo_part_268 : decode c_Mo_part 268 = .ok (.aload_n 0, 1) := by decide +kernel
theorem d_Mo_part_269 : decode c_Mo_part 269 = .ok (.getfield 38, 3) := by decide +kernel
theorem d_Mo_part_272 : decode c_Mo_part 272 = .ok (.bipush 7, 2) := by decide +kernel
theorem d_Mo_part_274 : decode c_Mo_part 274 = .ok (.iaload, 1) := by decide +kernel
theorem d_Mo_part_275 : decode c_Mo_part 275 = .ok (.invokestatic 140, 3) := by decide +kernel
theorem d_Mo_part_278 : decode c_Mo_part 278 = .ok (.iadd, 1) := by decide +kernel
theorem d_Mo_part_279 : decode c_Mo_part 279 = .ok (.ireturn, 1) := by decide +kernel
theorem d_Mo_part_280 : decode c_Mo_part 280 = .ok (.iload_n 3, 1) := by decide +kernel
theorem d_Mo_part_281 : decode c_Mo_part 281 = .ok (.iload 4, 2) := by decide +kernel
theorem d_Mo_part_283 : decode c_Mo_part 283 = .ok (.if_icmp .ge 7, 3) := by decide +kernel
theorem d_Mo_part_286 : decode c_Mo_part 286 = .ok (.iload_n 3, 1) := by decide +kernel
theorem d_Mo_part_287 : decode c_Mo_part 287 = .ok (.goto 5, 3) := by decide +kernel
theorem d_Mo_part_290 : decode c_Mo_part 290 = .ok (.iload 4, 2) := by decide +kernel
theorem d_Mo_part_292 : decode c_Mo_part 292 = .ok (.ireturn, 1) := by decide +kernel
theorem d_Mo_part_293 : decode c_Mo_part 293 = .ok (.iload_n 3, 1) := by decide +kernel
theorem d_Mo_part_294 : decode c_Mo_part 294 = .ok (.iload 4, 2) := by decide +kernel
theorem d_Mo_part_296 : decode c_Mo_part 296 = .ok (.if_icmp .le 7, 3) := by decide +kernel
theorem d_Mo_part_299 : decode c_Mo_part 299 = .ok (.iload_n 3, 1) := by decide +kernel
theorem d_Mo_part_300 : decode c_Mo_part 300 = .ok (.goto 5, 3) := by decide +kernel
theorem d_Mo_part_303 : decode c_Mo_part 303 = .ok (.iload 4, 2) := by decide +kernel
theorem d_Mo_part_305 : decode c_Mo_part 305 = .ok (.ireturn, 1) := by decide +kernel
theorem d_Mo_part_306 : decode c_Mo_part 306 = .ok (.iload_n 3, 1) := by decide +kernel
theorem d_Mo_part_307 : decode c_Mo_part 307 = .ok (.ldc 137, 2) := by decide +kernel
theorem d_Mo_part_309 : decode c_Mo_part 309 = .ok (.if_icmp .ne 8, 3) := by decide +kernel
theorem d_Mo_part_312 : decode c_Mo_part 312 = .ok (.ldc 130, 2) := by decide +kernel
theorem d_Mo_part_314 : decode c_Mo_part 314 = .ok (.goto 13, 3) := by decide +kernel
