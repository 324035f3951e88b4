theorem d_Mo_run_143 : decode c_Mo_run 143 = .ok (.iconst 1, 1) := by decide +kernel
theorem d_Mo_run_144 : decode c_Mo_run 144 = .ok (.iadd, 1) := by decide +kernel
theorem d_Mo_run_145 : decode c_Mo_run 145 = .ok (.istore 4, 2) := by decide +kernel
theorem d_Mo_run_147 : decode c_Mo_run 147 = .ok (.iload_n 3, 1) := by decide +kernel
theorem d_Mo_run_148 : decode c_Mo_run 148 = .ok (.tableswitch 178 34 38 #[36, 49, 92, 115, 124], 36) := by decide +kernel
theorem d_Mo_run_184 : decode c_Mo_run 184 = .ok (.aload_n 0, 1) := by decide +kernel
theorem d_Mo_run_185 : decode c_Mo_run 185 = .ok (.getfield 44, 3) := by decide +kernel
theorem d_Mo_run_188 : decode c_Mo_run 188 = .ok (.iload_n 2, 1) := by decide +kernel
theorem d_Mo_run_189 : decode c_Mo_run 189 = .ok (.aload_n 0, 1) := by decide +kernel
theorem d_Mo_run_190 : decode c_Mo_run 190 = .ok (.getfield 160, 3) := by decide +kernel
theorem d_Mo_run_193 : decode c_Mo_run 193 = .ok (.iastore, 1) := by decide +kernel
theorem d_Mo_run_194 : decode c_Mo_run 194 = .ok (.goto 132, 3) := by decide +kernel
theorem d_Mo_run_197 : decode c_Mo_run 197 = .ok (.aload_n 0, 1) := by decide +kernel
theorem d_Mo_run_198 : decode c_Mo_run 198 = .ok (.getfield 47, 3) := by decide +kernel
theorem d_Mo_run_201 : decode c_Mo_run 201 = .ok (.iload_n 2, 1) := by decide +kernel
theorem d_Mo_run_202 : decode c_Mo_run 202 = .ok (.iaload, 1) := by decide +kernel
theorem d_Mo_run_203 : decode c_Mo_run 203 = .ok (.istore 5, 2) := by decide +kernel
theorem d_Mo_run_205 : decode c_Mo_run 205 = .ok (.aload_n 0, 1) := by decide +kernel
theorem d_Mo_run_206 : decode c_Mo_run 206 = .ok (.getfield 44, 3) := by decide +kernel
theorem d_Mo_run_209 : decode c_Mo_run 209 = .ok (.iload 5, 2) := by decide +kernel
theorem d_Mo_run_211 : decode c_Mo_run 211 = .ok (.dup2, 1) := by decide +kernel
theorem d_Mo_run_212 : decode c_Mo_run 212 = .ok (.iaload, 1) := by decide +kernel
theorem d_Mo_run_213 : decode c_Mo_run 213 = .ok (.iconst 1, 1) := by decide +kernel
theorem d_Mo_run_214 : decode c_Mo_run 214 = .ok (.isub, 1) := by decide +kernel
theorem d_Mo_run_215 : decode c_Mo_run 215 = .ok (.iastore, 1) := by decide +kernel
theorem d_Mo_run_216 : decode c_Mo_run 216 = .ok (.aload_n 0, 1) := by decide +kernel
theorem d_Mo_run_217 : decode c_Mo_run 217 = .ok (.getfield 44, 3) := by decide +kernel
theorem d_Mo_run_220 : decode c_Mo_run 220 = .ok (.iload 5, 2) := by decide +kernel
theorem d_Mo_run_222 : decode c_Mo_run 222 = .ok (.iaload, 1) := by decide +kernel
theorem d_Mo_run_223 : decode c_Mo_run 223 = .ok (.ifCond .le 10, 3) := by decide +kernel
theorem d_Mo_run_226 : decode c_Mo_run 226 = .ok (.iload 5, 2) := by decide +kernel
theorem d_Mo_run_228 : decode c_Mo_run 228 = .ok (.iconst 1, 1) := by decide +kernel
theorem d_Mo_run_229 : decode c_Mo_run 229 = .ok (.iadd, 1) := by decide +kernel
theorem d_Mo_run_230 : decode c_Mo_run 230 = .ok (.goto 5, 3) := by decide +kernel
theorem d_Mo_run_233 : decode c_Mo_run 233 = .ok (.iload 4, 2) := by decide +kernel
theorem d_Mo_run_235 : decode c_Mo_run 235 = .ok (.istore 4, 2) := by decide +kernel
theorem d_Mo_run_237 : decode c_Mo_run 237 = .ok (.goto 89, 3) := by decide +kernel
theorem d_Mo_run_240 : decode c_Mo_run 240 = .ok (.aload_n 0, 1) := by decide +kernel
theorem d_Mo_run_241 : decode c_Mo_run 241 = .ok (.getfield 38, 3) := by decide +kernel
theorem d_Mo_run_244 : decode c_Mo_run 244 = .ok (.iconst 0, 1) := by decide +kernel
theorem d_Mo_run_245 : decode c_Mo_run 245 = .ok (.iaload, 1) := by decide +kernel
theorem d_Mo_run_246 : decode c_Mo_run 246 = .ok (.ifCond .gt 10, 3) := by decide +kernel
theorem d_Mo_run_249 : decode c_Mo_run 249 = .ok (.aload_n 0, 1) := by decide +kernel
theorem d_Mo_run_250 : decode c_Mo_run 250 = .ok (.getfield 160, 3) := by decide +kernel
theorem d_Mo_run_253 : decode c_Mo_run 253 = .ok (.goto 5, 3) := by decide +kernel
theorem d_Mo_run_256 : decode c_Mo_run 256 = .ok (.iload 4, 2) := by decide +kernel
theorem d_Mo_run_258 : decode c_Mo_run 258 = .ok (.istore 4, 2) := by decide +kernel
theorem d_Mo_run_260 : decode c_Mo_run 260 = .ok (.goto 66, 3) := by decide +kernel
theorem d_Mo_run_263 : decode c_Mo_run 263 = .ok (.aload_n 0, 1) := by decide +kernel
theorem d_Mo_run_264 : decode c_Mo_run 264 = .ok (.getfield 160, 3) := by decide +kernel
theorem d_Mo_run_267 : decode c_Mo_run 267 = .ok (.istore 4, 2) := by decide +kernel
theorem d_Mo_run_269 : decode c_Mo_run 269 = .ok (.goto 57, 3) := by decide +kernel
theorem d_Mo_run_272 : decode c_Mo_run 272 = .ok (.aload_n 0, 1) := by decide +kernel
theorem d_Mo_run_273 : decode c_Mo_run 273 = .ok (.aload_n 0, 1) := by decide +kernel
theorem d_Mo_run_274 : decode c_Mo_run 274 = .ok (.getfield 38, 3) := by decide +kernel
theorem d_Mo_run_277 : decode c_Mo_run 277 = .ok (.iconst 0, 1) := by decide +kernel
theorem d_Mo_run_278 : decode c_Mo_run 278 = .ok (.iaload, 1) := by decide +kernel
theorem d_Mo_run_279 : decode c_Mo_run 279 = .ok (.ifCond .lt 30, 3) := by decide +kernel
theorem d_Mo_run_282 : decode c_Mo_run 282 = .ok (.aload_n 0, 1) := by decide +kernel
theorem d_Mo_run_283 : decode c_Mo_run 283 = .ok (.getfield 38, 3) := by decide +kernel
theorem d_Mo_run_286 : decode c_Mo_run 286 = .ok (.iconst 1, 1) := by decide +kernel
theorem d_Mo_run_287 : decode c_Mo_run 287 = .ok (.iaload, 1) := by decide +kernel
theorem d_Mo_run_288 : decode c_Mo_run 288 = .ok (.ifCond .lt 21, 3) := by decide +kernel
theorem d_Mo_run_291 : decode c_Mo_run 291 = .ok (.aload_n 0, 1) := by decide +kernel
theorem d_Mo_run_292 : decode c_Mo_run 292 = .ok (.getfield 38, 3) := by decide +kernel
theorem d_Mo_run_295 : decode c_Mo_run 295 = .ok (.iconst 2, 1) := by decide +kernel
theorem d_Mo_run_296 : decode c_Mo_run 296 = .ok (.iaload, 1) := by decide +kernel
theorem d_Mo_run_297 : decode c_Mo_run 297 = .ok (.ifCond .lt 12, 3) := by decide +kernel
theorem d_Mo_run_300 : decode c_Mo_run 300 = .ok (.aload_n 0, 1) := by decide +kernel
theorem d_Mo_run_301 : decode c_Mo_run 301 = .ok (.getfield 38, 3) := by decide +kernel
theorem d_Mo_run_304 : decode c_Mo_run 304 = .ok (.iconst 3, 1) := by decide +kernel
theorem d_Mo_run_305 : decode c_Mo_run 305 = .ok (.iaload, 1) := by decide +kernel
theorem d_Mo_run_306 : decode c_Mo_run 306 = .ok (.ifCond .ge 7, 3) := by decide +kernel
theorem d_Mo_run_309 : decode c_Mo_run 309 = .ok (.iconst 1, 1) := by decide +kernel
theorem d_Mo_run_310 : decode c_Mo_run 310 = .ok (.goto 4, 3) := by decide +kernel
theorem d_Mo_run_313 : decode c_Mo_run 313 = .ok (.iconst 0, 1) := by decide +kernel
theorem d_Mo_run_314 : decode c_Mo_run 314 = .ok (.putfield 166, 3) := by decide +kernel
theorem d_Mo_run_317 : decode c_Mo_run 317 = .ok (.aload_n 0, 1) := by decide +kernel
theorem d_Mo_run_318 : decode c_Mo_run 318 = .ok (.getfield 166, 3) := by decide +kernel
theorem d_Mo_run_321 : decode c_Mo_run 321 = .ok (.ifCond .eq 5, 3) := by decide +kernel
theorem d_Mo_run_324 : decode c_Mo_run 324 = .ok (.iload_n 1, 1) := by decide +kernel
theorem d_Mo_run_325 : decode c_Mo_run 325 = .ok (.ireturn, 1) := by decide +kernel
theorem d_Mo_run_326 : decode c_Mo_run 326 = .ok (.iload 4, 2) := by decide +kernel
theorem d_Mo_run_328 : decode c_Mo_run 328 = .ok (.istore_n 2, 1) := by decide +kernel
theorem d_Mo_run_329 : decode c_Mo_run 329 = .ok (.goto (-268), 3) := by decide +kernel
theorem d_Mo_killed_0 : decode c_Mo_killed 0 = .ok (.aload_n 0, 1) := by decide +kernel
theorem d_Mo_killed_1 : decode c_Mo_killed 1 = .ok (.iconst 0, 1) := by decide +kernel
theorem d_Mo_killed_2 : decode c_Mo_killed 2 = .ok (.putfield 50, 3) := by decide +kernel
theorem d_Mo_killed_5 : decode c_Mo_killed 5 = .ok (.aload_n 0, 1) := by decide +kernel
theorem d_Mo_killed_6 : decode c_Mo_killed 6 = .ok (.getfield 166, 3) := by decide +kernel
theorem d_Mo_killed_9 : decode c_Mo_killed 9 = .ok (.ireturn, 1) := by decide +kernel
theorem d_Mo_out_0 : decode c_Mo_out 0 = .ok (.aload_n 0, 1) := by decide +kernel
theorem d_Mo_out_1 : decode c_Mo_out 1 = .ok (.iload_n 1, 1) := by decide +kernel
theorem d_Mo_out_2 : decode c_Mo_out 2 = .ok (.ifCond .lt 18, 3) := by decide +kernel
theorem d_Mo_out_5 : decode c_Mo_out 5 = .ok (.iload_n 1, 1) := by decide +kernel
theorem d_Mo_out_6 : decode c_Mo_out 6 = .ok (.bipush 7, 2) := by decide +kernel
theorem d_Mo_out_8 : decode c_Mo_out 8 = .ok (.if_icmp .gt 12, 3) := by decide +kernel
theorem d_Mo_out_11 : decode c_Mo_out 11 = .ok (.iload_n 2, 1) := by decide +kernel
theorem d_Mo_out_12 : decode c_Mo_out 12 = .ok (.ifCond .lt 8, 3) := by decide +kernel
theorem d_Mo_out_15 : decode c_Mo_out 15 = .ok (.iload_n 2, 1) := by decide +kernel
theorem d_Mo_out_16 : decode c_Mo_out 16 = .ok (.iconst 3, 1) := by decide +kernel
theorem d_Mo_out_17 : decode c_Mo_out 17 = .ok (.if_icmp .le 7, 3) := by decide +kernel
theorem d_Mo_out_20 : decode c_Mo_out 20 = .ok (.iconst 1, 1) := by decide +kernel
theorem d_Mo_out_21 : decode c_Mo_out 21 = .ok (.goto 4, 3) := by decide +kernel
theorem d_Mo_out_24 : decode c_Mo_out 24 = .ok (.iconst 0, 1) := by decide +kernel
theorem d_Mo_out_25 : decode c_Mo_out 25 = .ok (.invokevirtual 114, 3) := by decide +kernel
theorem d_Mo_out_28 : decode c_Mo_out 28 = .ok (.ifCond .eq 5, 3) := by decide +kernel
theorem d_Mo_out_31 : decode c_Mo_out 31 = .ok (.iconst 0, 1) := by decide +kernel
theorem d_Mo_out_32 : decode c_Mo_out 32 = .ok (.ireturn, 1) := by decide +kernel
theorem d_Mo_out_33 : decode c_Mo_out 33 = .ok (.aload_n 0, 1) := by decide +kernel
theorem d_Mo_out_34 : decode c_Mo_out 34 = .ok (.getfield 29, 3) := by decide +kernel
theorem d_Mo_out_37 : decode c_Mo_out 37 = .ok (.iconst 4, 1) := by decide +kernel
theorem d_Mo_out_38 : decode c_Mo_out 38 = .ok (.iload_n 1, 1) := by decide +kernel
theorem d_Mo_out_39 : decode c_Mo_out 39 = .ok (.imul, 1) := by decide +kernel
theorem d_Mo_out_40 : decode c_Mo_out 40 = .ok (.iload_n 2, 1) := by decide +kernel
theorem d_Mo_out_41 : decode c_Mo_out 41 = .ok (.iadd, 1) := by decide +kernel
theorem d_Mo_out_42 : decode c_Mo_out 42 = .ok (.iaload, 1) := by decide +kernel
theorem d_Mo_out_43 : decode c_Mo_out 43 = .ok (.ireturn, 1) := by decide +kernel
theorem d_Mo_temporary_0 : decode c_Mo_temporary 0 = .ok (.aload_n 0, 1) := by decide +kernel
theorem d_Mo_temporary_1 : decode c_Mo_temporary 1 = .ok (.iload_n 1, 1) := by decide +kernel
theorem d_Mo_temporary_2 : decode c_Mo_temporary 2 = .ok (.ifCond .lt 18, 3) := by decide +kernel
theorem d_Mo_temporary_5 : decode c_Mo_temporary 5 = .ok (.iload_n 1, 1) := by decide +kernel
theorem d_Mo_temporary_6 : decode c_Mo_temporary 6 = .ok (.bipush 15, 2) := by decide +kernel
theorem d_Mo_temporary_8 : decode c_Mo_temporary 8 = .ok (.if_icmp .gt 12, 3) := by decide +kernel
theorem d_Mo_temporary_11 : decode c_Mo_temporary 11 = .ok (.iload_n 2, 1) := by decide +kernel
theorem d_Mo_temporary_12 : decode c_Mo_temporary 12 = .ok (.ifCond .lt 8, 3) := by decide +kernel
theorem d_Mo_temporary_15 : decode c_Mo_temporary 15 = .ok (.iload_n 2, 1) := by decide +kernel
theorem d_Mo_temporary_16 : decode c_Mo_temporary 16 = .ok (.iconst 3, 1) := by decide +kernel
theorem d_Mo_temporary_17 : decode c_Mo_temporary 17 = .ok (.if_icmp .le 7, 3) := by decide +kernel
theorem d_Mo_temporary_20 : decode c_Mo_temporary 20 = .ok (.iconst 1, 1) := by decide +kernel
theorem d_Mo_temporary_21 : decode c_Mo_temporary 21 = .ok (.goto 4, 3) := by decide +kernel
theorem d_Mo_temporary_24 : decode c_Mo_temporary 24 = .ok (.iconst 0, 1) := by decide +kernel
theorem d_Mo_temporary_25 : decode c_Mo_temporary 25 = .ok (.invokevirtual 114, 3) := by decide +kernel
theorem d_Mo_temporary_28 : decode c_Mo_temporary 28 = .ok (.ifCond .eq 5, 3) := by decide +kernel
theorem d_Mo_temporary_31 : decode c_Mo_temporary 31 = .ok (.iconst 0, 1) := by decide +kernel
theorem d_Mo_temporary_32 : decode c_Mo_temporary 32 = .ok (.ireturn, 1) := by decide +kernel
theorem d_Mo_temporary_33 : decode c_Mo_temporary 33 = .ok (.aload_n 0, 1) := by decide +kernel
theorem d_Mo_temporary_34 : decode c_Mo_temporary 34 = .ok (.getfield 23, 3) := by decide +kernel
theorem d_Mo_temporary_37 : decode c_Mo_temporary 37 = .ok (.iconst 4, 1) := by decide +kernel
theorem d_Mo_temporary_38 : decode c_Mo_temporary 38 = .ok (.iload_n 1, 1) := by decide +kernel
theorem d_Mo_temporary_39 : decode c_Mo_temporary 39 = .ok (.imul, 1) := by decide +kernel
theorem d_Mo_temporary_40 : decode c_Mo_temporary 40 = .ok (.iload_n 2, 1) := by decide +kernel
theorem d_Mo_temporary_41 : decode c_Mo_temporary 41 = .ok (.iadd, 1) := by decide +kernel
theorem d_Mo_temporary_42 : decode c_Mo_temporary 42 = .ok (.iaload, 1) := by decide +kernel
theorem d_Mo_temporary_43 : decode c_Mo_temporary 43 = .ok (.ireturn, 1) := by decide +kernel
theorem d_SM_fault_0 : decode c_SM_fault 0 = .ok (.iload_n 1, 1) := by decide +kernel
theorem d_SM_fault_1 : decode c_SM_fault 1 = .ok (.ifCond .ne 11, 3) := by decide +kernel
theorem d_SM_fault_4 : decode c_SM_fault 4 = .ok (.aload_n 0, 1) := by decide +kernel
theorem d_SM_fault_5 : decode c_SM_fault 5 = .ok (.getfield 19, 3) := by decide +kernel
theorem d_SM_fault_8 : decode c_SM_fault 8 = .ok (.invokevirtual 69, 3) := by decide +kernel
theorem d_SM_fault_11 : decode c_SM_fault 11 = .ok (.ireturn, 1) := by decide +kernel
theorem d_SM_fault_12 : decode c_SM_fault 12 = .ok (.iload_n 1, 1) := by decide +kernel
theorem d_SM_fault_13 : decode c_SM_fault 13 = .ok (.iconst 1, 1) := by decide +kernel
theorem d_SM_fault_14 : decode c_SM_fault 14 = .ok (.if_icmp .ne 13, 3) := by decide +kernel
theorem d_SM_fault_17 : decode c_SM_fault 17 = .ok (.aload_n 0, 1) := by decide +kernel
theorem d_SM_fault_18 : decode c_SM_fault 18 = .ok (.getfield 19, 3) := by decide +kernel
theorem d_SM_fault_21 : decode c_SM_fault 21 = .ok (.invokevirtual 81, 3) := by decide +kernel
theorem d_SM_fault_24 : decode c_SM_fault 24 = .ok (.goto 4, 3) := by decide +kernel
theorem d_SM_fault_27 : decode c_SM_fault 27 = .ok (.iconst (-1), 1) := by decide +kernel
theorem d_SM_fault_28 : decode c_SM_fault 28 = .ok (.ireturn, 1) := by decide +kernel
theorem d_SM_killed_0 : decode c_SM_killed 0 = .ok (.aload_n 0, 1) := by decide +kernel
theorem d_SM_killed_1 : decode c_SM_killed 1 = .ok (.getfield 28, 3) := by decide +kernel
theorem d_SM_killed_4 : decode c_SM_killed 4 = .ok (.invokevirtual 117, 3) := by decide +kernel
theorem d_SM_killed_7 : decode c_SM_killed 7 = .ok (.ireturn, 1) := by decide +kernel
theorem d_SM_poke_0 : decode c_SM_poke 0 = .ok (.aload_n 0, 1) := by decide +kernel
theorem d_SM_poke_1 : decode c_SM_poke 1 = .ok (.getfield 10, 3) := by decide +kernel
theorem d_SM_poke_4 : decode c_SM_poke 4 = .ok (.iload_n 1, 1) := by decide +kernel
theorem d_SM_poke_5 : decode c_SM_poke 5 = .ok (.invokevirtual 42, 3) := by decide +kernel
theorem d_SM_poke_8 : decode c_SM_poke 8 = .ok (.ifCond .ne 13, 3) := by decide +kernel
theorem d_SM_poke_11 : decode c_SM_poke 11 = .ok (.new 46, 3) := by decide +kernel
theorem d_SM_poke_14 : decode c_SM_poke 14 = .ok (.dup, 1) := by decide +kernel
theorem d_SM_poke_15 : decode c_SM_poke 15 = .ok (.ldc 48, 2) := by decide +kernel
theorem d_SM_poke_17 : decode c_SM_poke 17 = .ok (.invokespecial 50, 3) := by decide +kernel
theorem d_SM_poke_20 : decode c_SM_poke 20 = .ok (.athrow, 1) := by decide +kernel
theorem d_SM_poke_21 : decode c_SM_poke 21 = .ok (.aload_n 0, 1) := by decide +kernel
theorem d_SM_poke_22 : decode c_SM_poke 22 = .ok (.getfield 10, 3) := by decide +kernel
theorem d_SM_poke_25 : decode c_SM_poke 25 = .ok (.iload_n 1, 1) := by decide +kernel
theorem d_SM_poke_26 : decode c_SM_poke 26 = .ok (.iload_n 2, 1) := by decide +kernel
theorem d_SM_poke_27 : decode c_SM_poke 27 = .ok (.invokevirtual 53, 3) := by decide +kernel
theorem d_SM_poke_30 : decode c_SM_poke 30 = .ok (.return_, 1) := by decide +kernel
theorem d_SM_load_0 : decode c_SM_load 0 = .ok (.iload_n 2, 1) := by decide +kernel
theorem d_SM_load_1 : decode c_SM_load 1 = .ok (.iconst 1, 1) := by decide +kernel
theorem d_SM_load_2 : decode c_SM_load 2 = .ok (.if_icmp .lt 10, 3) := by decide +kernel
theorem d_SM_load_5 : decode c_SM_load 5 = .ok (.iload_n 2, 1) := by decide +kernel
theorem d_SM_load_6 : decode c_SM_load 6 = .ok (.sipush 256, 3) := by decide +kernel
theorem d_SM_load_9 : decode c_SM_load 9 = .ok (.if_icmp .le 13, 3) := by decide +kernel
theorem d_SM_load_12 : decode c_SM_load 12 = .ok (.new 46, 3) := by decide +kernel
theorem d_SM_load_15 : decode c_SM_load 15 = .ok (.dup, 1) := by decide +kernel
theorem d_SM_load_16 : decode c_SM_load 16 = .ok (.ldc 57, 2) := by decide +kernel
theorem d_SM_load_18 : decode c_SM_load 18 = .ok (.invokespecial 50, 3) := by decide +kernel
theorem d_SM_load_21 : decode c_SM_load 21 = .ok (.athrow, 1) := by decide +kernel
theorem d_SM_load_22 : decode c_SM_load 22 = .ok (.iload_n 1, 1) := by decide +kernel
theorem d_SM_load_23 : decode c_SM_load 23 = .ok (.ifCond .lt 14, 3) := by decide +kernel
theorem d_SM_load_26 : decode c_SM_load 26 = .ok (.iload_n 1, 1) := by decide +kernel
theorem d_SM_load_27 : decode c_SM_load 27 = .ok (.sipush 1024, 3) := by decide +kernel
theorem d_SM_load_30 : decode c_SM_load 30 = .ok (.iconst 3, 1) := by decide +kernel
theorem d_SM_load_31 : decode c_SM_load 31 = .ok (.iload_n 2, 1) := by decide +kernel
theorem d_SM_load_32 : decode c_SM_load 32 = .ok (.imul, 1) := by decide +kernel
theorem d_SM_load_33 : decode c_SM_load 33 = .ok (.isub, 1) := by decide +kernel
theorem d_SM_load_34 : decode c_SM_load 34 = .ok (.if_icmp .le 13, 3) := by decide +kernel
theorem d_SM_load_37 : decode c_SM_load 37 = .ok (.new 46, 3) := by decide +kernel
theorem d_SM_load_40 : decode c_SM_load 40 = .ok (.dup, 1) := by decide +kernel
theorem d_SM_load_41 : decode c_SM_load 41 = .ok (.ldc 59, 2) := by decide +kernel
theorem d_SM_load_43 : decode c_SM_load 43 = .ok (.invokespecial 50, 3) := by decide +kernel
theorem d_SM_load_46 : decode c_SM_load 46 = .ok (.athrow, 1) := by decide +kernel
theorem d_SM_load_47 : decode c_SM_load 47 = .ok (.aload_n 0, 1) := by decide +kernel
theorem d_SM_load_48 : decode c_SM_load 48 = .ok (.getfield 39, 3) := by decide +kernel
theorem d_SM_load_51 : decode c_SM_load 51 = .ok (.aload_n 0, 1) := by decide +kernel
theorem d_SM_load_52 : decode c_SM_load 52 = .ok (.getfield 10, 3) := by decide +kernel
theorem d_SM_load_55 : decode c_SM_load 55 = .ok (.iload_n 1, 1) := by decide +kernel
theorem d_SM_load_56 : decode c_SM_load 56 = .ok (.iload_n 2, 1) := by decide +kernel
theorem d_SM_load_57 : decode c_SM_load 57 = .ok (.invokevirtual 61, 3) := by decide +kernel
theorem d_SM_load_60 : decode c_SM_load 60 = .ok (.aload_n 0, 1) := by decide +kernel
theorem d_SM_load_61 : decode c_SM_load 61 = .ok (.getfield 19, 3) := by decide +kernel
theorem d_SM_load_64 : decode c_SM_load 64 = .ok (.aload_n 0, 1) := by decide +kernel
theorem d_SM_load_65 : decode c_SM_load 65 = .ok (.getfield 39, 3) := by decide +kernel
theorem d_SM_load_68 : decode c_SM_load 68 = .ok (.iload_n 3, 1) := by decide +kernel
theorem d_SM_load_69 : decode c_SM_load 69 = .ok (.invokevirtual 65, 3) := by decide +kernel
theorem d_SM_load_72 : decode c_SM_load 72 = .ok (.aload_n 0, 1) := by decide +kernel
theorem d_SM_load_73 : decode c_SM_load 73 = .ok (.getfield 19, 3) := by decide +kernel
theorem d_SM_load_76 : decode c_SM_load 76 = .ok (.invokevirtual 69, 3) := by decide +kernel
theorem d_SM_load_79 : decode c_SM_load 79 = .ok (.ifCond .eq 13, 3) := by decide +kernel
theorem d_SM_load_82 : decode c_SM_load 82 = .ok (.new 73, 3) := by decide +kernel
theorem d_SM_load_85 : decode c_SM_load 85 = .ok (.dup, 1) := by decide +kernel
theorem d_SM_load_86 : decode c_SM_load 86 = .ok (.ldc 75, 2) := by decide +kernel
theorem d_SM_load_88 : decode c_SM_load 88 = .ok (.invokespecial 77, 3) := by decide +kernel
theorem d_SM_load_91 : decode c_SM_load 91 = .ok (.athrow, 1) := by decide +kernel
theorem d_SM_load_92 : decode c_SM_load 92 = .ok (.aload_n 0, 1) := by decide +kernel
theorem d_SM_load_93 : decode c_SM_load 93 = .ok (.getfield 35, 3) := by decide +kernel
theorem d_SM_load_96 : decode c_SM_load 96 = .ok (.astore 4, 2) := by decide +kernel
theorem d_SM_load_98 : decode c_SM_load 98 = .ok (.aload_n 0, 1) := by decide +kernel
theorem d_SM_load_99 : decode c_SM_load 99 = .ok (.aload_n 0, 1) := by decide +kernel
theorem d_SM_load_100 : decode c_SM_load 100 = .ok (.getfield 39, 3) := by decide +kernel
theorem d_SM_load_103 : decode c_SM_load 103 = .ok (.putfield 35, 3) := by decide +kernel
theorem d_SM_load_106 : decode c_SM_load 106 = .ok (.aload_n 0, 1) := by decide +kernel
theorem d_SM_load_107 : decode c_SM_load 107 = .ok (.aload 4, 2) := by decide +kernel
theorem d_SM_load_109 : decode c_SM_load 109 = .ok (.putfield 39, 3) := by decide +kernel
theorem d_SM_load_112 : decode c_SM_load 112 = .ok (.aload_n 0, 1) := by decide +kernel
theorem d_SM_load_113 : decode c_SM_load 113 = .ok (.getfield 19, 3) := by decide +kernel
theorem d_SM_load_116 : decode c_SM_load 116 = .ok (.invokevirtual 78, 3) := by decide +kernel
theorem d_SM_load_119 : decode c_SM_load 119 = .ok (.ireturn, 1) := by decide +kernel
theorem d_SM_mustHave_0 : decode c_SM_mustHave 0 = .ok (.aload_n 0, 1) := by decide +kernel
theorem d_SM_mustHave_1 : decode c_SM_mustHave 1 = .ok (.iload_n 1, 1) := by decide +kernel
theorem d_SM_mustHave_2 : decode c_SM_mustHave 2 = .ok (.invokevirtual 134, 3) := by decide +kernel
theorem d_SM_mustHave_5 : decode c_SM_mustHave 5 = .ok (.ifCond .ne 13, 3) := by decide +kernel
theorem d_SM_mustHave_8 : decode c_SM_mustHave 8 = .ok (.new 46, 3) := by decide +kernel
theorem d_SM_mustHave_11 : decode c_SM_mustHave 11 = .ok (.dup, 1) := by decide +kernel
theorem d_SM_mustHave_12 : decode c_SM_mustHave 12 = .ok (.ldc 137, 2) := by decide +kernel
theorem d_SM_mustHave_14 : decode c_SM_mustHave 14 = .ok (.invokespecial 50, 3) := by decide +kernel
theorem d_SM_mustHave_17 : decode c_SM_mustHave 17 = .ok (.athrow, 1) := by decide +kernel
