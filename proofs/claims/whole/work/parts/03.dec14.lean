theorem d_SM_mustHave_18 : decode c_SM_mustHave 18 = .ok (.return_, 1) := by decide +kernel
theorem d_SM_in_0 : decode c_SM_in 0 = .ok (.aload_n 0, 1) := by decide +kernel
theorem d_SM_in_1 : decode c_SM_in 1 = .ok (.getfield 10, 3) := by decide +kernel
theorem d_SM_in_4 : decode c_SM_in 4 = .ok (.getfield 84, 3) := by decide +kernel
theorem d_SM_in_7 : decode c_SM_in 7 = .ok (.iload_n 1, 1) := by decide +kernel
theorem d_SM_in_8 : decode c_SM_in 8 = .ok (.invokestatic 88, 3) := by decide +kernel
theorem d_SM_in_11 : decode c_SM_in 11 = .ok (.aload_n 0, 1) := by decide +kernel
theorem d_SM_in_12 : decode c_SM_in 12 = .ok (.getfield 10, 3) := by decide +kernel
theorem d_SM_in_15 : decode c_SM_in 15 = .ok (.getfield 84, 3) := by decide +kernel
theorem d_SM_in_18 : decode c_SM_in 18 = .ok (.iload_n 1, 1) := by decide +kernel
theorem d_SM_in_19 : decode c_SM_in 19 = .ok (.iload_n 2, 1) := by decide +kernel
theorem d_SM_in_20 : decode c_SM_in 20 = .ok (.iload_n 3, 1) := by decide +kernel
theorem d_SM_in_21 : decode c_SM_in 21 = .ok (.iload 4, 2) := by decide +kernel
theorem d_SM_in_23 : decode c_SM_in 23 = .ok (.iload 5, 2) := by decide +kernel
theorem d_SM_in_25 : decode c_SM_in 25 = .ok (.invokevirtual 92, 3) := by decide +kernel
theorem d_SM_in_28 : decode c_SM_in 28 = .ok (.return_, 1) := by decide +kernel
theorem d_SM_uniform_0 : decode c_SM_uniform 0 = .ok (.aload_n 0, 1) := by decide +kernel
theorem d_SM_uniform_1 : decode c_SM_uniform 1 = .ok (.getfield 10, 3) := by decide +kernel
theorem d_SM_uniform_4 : decode c_SM_uniform 4 = .ok (.getfield 98, 3) := by decide +kernel
theorem d_SM_uniform_7 : decode c_SM_uniform 7 = .ok (.iload_n 1, 1) := by decide +kernel
theorem d_SM_uniform_8 : decode c_SM_uniform 8 = .ok (.invokestatic 88, 3) := by decide +kernel
theorem d_SM_uniform_11 : decode c_SM_uniform 11 = .ok (.aload_n 0, 1) := by decide +kernel
theorem d_SM_uniform_12 : decode c_SM_uniform 12 = .ok (.getfield 10, 3) := by decide +kernel
theorem d_SM_uniform_15 : decode c_SM_uniform 15 = .ok (.getfield 98, 3) := by decide +kernel
theorem d_SM_uniform_18 : decode c_SM_uniform 18 = .ok (.iload_n 1, 1) := by decide +kernel
theorem d_SM_uniform_19 : decode c_SM_uniform 19 = .ok (.iload_n 2, 1) := by decide +kernel
theorem d_SM_uniform_20 : decode c_SM_uniform 20 = .ok (.iload_n 3, 1) := by decide +kernel
theorem d_SM_uniform_21 : decode c_SM_uniform 21 = .ok (.iload 4, 2) := by decide +kernel
theorem d_SM_uniform_23 : decode c_SM_uniform 23 = .ok (.iload 5, 2) := by decide +kernel
theorem d_SM_uniform_25 : decode c_SM_uniform 25 = .ok (.invokevirtual 92, 3) := by decide +kernel
theorem d_SM_uniform_28 : decode c_SM_uniform 28 = .ok (.return_, 1) := by decide +kernel
theorem d_SM_texture_0 : decode c_SM_texture 0 = .ok (.aload_n 0, 1) := by decide +kernel
theorem d_SM_texture_1 : decode c_SM_texture 1 = .ok (.getfield 10, 3) := by decide +kernel
theorem d_SM_texture_4 : decode c_SM_texture 4 = .ok (.getfield 101, 3) := by decide +kernel
theorem d_SM_texture_7 : decode c_SM_texture 7 = .ok (.iload_n 1, 1) := by decide +kernel
theorem d_SM_texture_8 : decode c_SM_texture 8 = .ok (.invokestatic 88, 3) := by decide +kernel
theorem d_SM_texture_11 : decode c_SM_texture 11 = .ok (.aload_n 0, 1) := by decide +kernel
theorem d_SM_texture_12 : decode c_SM_texture 12 = .ok (.getfield 10, 3) := by decide +kernel
theorem d_SM_texture_15 : decode c_SM_texture 15 = .ok (.getfield 101, 3) := by decide +kernel
theorem d_SM_texture_18 : decode c_SM_texture 18 = .ok (.iload_n 1, 1) := by decide +kernel
theorem d_SM_texture_19 : decode c_SM_texture 19 = .ok (.iload_n 2, 1) := by decide +kernel
theorem d_SM_texture_20 : decode c_SM_texture 20 = .ok (.iload_n 3, 1) := by decide +kernel
theorem d_SM_texture_21 : decode c_SM_texture 21 = .ok (.iload 4, 2) := by decide +kernel
theorem d_SM_texture_23 : decode c_SM_texture 23 = .ok (.iload 5, 2) := by decide +kernel
theorem d_SM_texture_25 : decode c_SM_texture 25 = .ok (.invokevirtual 92, 3) := by decide +kernel
theorem d_SM_texture_28 : decode c_SM_texture 28 = .ok (.return_, 1) := by decide +kernel
theorem d_SM_run_0 : decode c_SM_run 0 = .ok (.aload_n 0, 1) := by decide +kernel
theorem d_SM_run_1 : decode c_SM_run 1 = .ok (.getfield 35, 3) := by decide +kernel
theorem d_SM_run_4 : decode c_SM_run 4 = .ok (.invokevirtual 104, 3) := by decide +kernel
theorem d_SM_run_7 : decode c_SM_run 7 = .ok (.ifCond .eq 13, 3) := by decide +kernel
theorem d_SM_run_10 : decode c_SM_run 10 = .ok (.new 108, 3) := by decide +kernel
theorem d_SM_run_13 : decode c_SM_run 13 = .ok (.dup, 1) := by decide +kernel
theorem d_SM_run_14 : decode c_SM_run 14 = .ok (.ldc 110, 2) := by decide +kernel
theorem d_SM_run_16 : decode c_SM_run 16 = .ok (.invokespecial 112, 3) := by decide +kernel
theorem d_SM_run_19 : decode c_SM_run 19 = .ok (.athrow, 1) := by decide +kernel
theorem d_SM_run_20 : decode c_SM_run 20 = .ok (.aload_n 0, 1) := by decide +kernel
theorem d_SM_run_21 : decode c_SM_run 21 = .ok (.getfield 28, 3) := by decide +kernel
theorem d_SM_run_24 : decode c_SM_run 24 = .ok (.aload_n 0, 1) := by decide +kernel
theorem d_SM_run_25 : decode c_SM_run 25 = .ok (.getfield 35, 3) := by decide +kernel
theorem d_SM_run_28 : decode c_SM_run 28 = .ok (.invokevirtual 113, 3) := by decide +kernel
theorem d_SM_run_31 : decode c_SM_run 31 = .ok (.ireturn, 1) := by decide +kernel
theorem d_SM_mustHavePart_0 : decode c_SM_mustHavePart 0 = .ok (.aload_n 0, 1) := by decide +kernel
theorem d_SM_mustHavePart_1 : decode c_SM_mustHavePart 1 = .ok (.iload_n 1, 1) := by decide +kernel
theorem d_SM_mustHavePart_2 : decode c_SM_mustHavePart 2 = .ok (.iload_n 2, 1) := by decide +kernel
theorem d_SM_mustHavePart_3 : decode c_SM_mustHavePart 3 = .ok (.invokevirtual 139, 3) := by decide +kernel
theorem d_SM_mustHavePart_6 : decode c_SM_mustHavePart 6 = .ok (.ifCond .ne 13, 3) := by decide +kernel
theorem d_SM_mustHavePart_9 : decode c_SM_mustHavePart 9 = .ok (.new 46, 3) := by decide +kernel
theorem d_SM_mustHavePart_12 : decode c_SM_mustHavePart 12 = .ok (.dup, 1) := by decide +kernel
theorem d_SM_mustHavePart_13 : decode c_SM_mustHavePart 13 = .ok (.ldc 143, 2) := by decide +kernel
theorem d_SM_mustHavePart_15 : decode c_SM_mustHavePart 15 = .ok (.invokespecial 50, 3) := by decide +kernel
theorem d_SM_mustHavePart_18 : decode c_SM_mustHavePart 18 = .ok (.athrow, 1) := by decide +kernel
theorem d_SM_mustHavePart_19 : decode c_SM_mustHavePart 19 = .ok (.return_, 1) := by decide +kernel
theorem d_SM_out_0 : decode c_SM_out 0 = .ok (.aload_n 0, 1) := by decide +kernel
theorem d_SM_out_1 : decode c_SM_out 1 = .ok (.getfield 10, 3) := by decide +kernel
theorem d_SM_out_4 : decode c_SM_out 4 = .ok (.getfield 120, 3) := by decide +kernel
theorem d_SM_out_7 : decode c_SM_out 7 = .ok (.iload_n 1, 1) := by decide +kernel
theorem d_SM_out_8 : decode c_SM_out 8 = .ok (.iload_n 2, 1) := by decide +kernel
theorem d_SM_out_9 : decode c_SM_out 9 = .ok (.invokestatic 123, 3) := by decide +kernel
theorem d_SM_out_12 : decode c_SM_out 12 = .ok (.aload_n 0, 1) := by decide +kernel
theorem d_SM_out_13 : decode c_SM_out 13 = .ok (.getfield 10, 3) := by decide +kernel
theorem d_SM_out_16 : decode c_SM_out 16 = .ok (.getfield 120, 3) := by decide +kernel
theorem d_SM_out_19 : decode c_SM_out 19 = .ok (.iload_n 1, 1) := by decide +kernel
theorem d_SM_out_20 : decode c_SM_out 20 = .ok (.iload_n 2, 1) := by decide +kernel
theorem d_SM_out_21 : decode c_SM_out 21 = .ok (.invokevirtual 127, 3) := by decide +kernel
theorem d_SM_out_24 : decode c_SM_out 24 = .ok (.ireturn, 1) := by decide +kernel
theorem d_SM_temporary_0 : decode c_SM_temporary 0 = .ok (.aload_n 0, 1) := by decide +kernel
theorem d_SM_temporary_1 : decode c_SM_temporary 1 = .ok (.getfield 10, 3) := by decide +kernel
theorem d_SM_temporary_4 : decode c_SM_temporary 4 = .ok (.getfield 131, 3) := by decide +kernel
theorem d_SM_temporary_7 : decode c_SM_temporary 7 = .ok (.iload_n 1, 1) := by decide +kernel
theorem d_SM_temporary_8 : decode c_SM_temporary 8 = .ok (.iload_n 2, 1) := by decide +kernel
theorem d_SM_temporary_9 : decode c_SM_temporary 9 = .ok (.invokestatic 123, 3) := by decide +kernel
theorem d_SM_temporary_12 : decode c_SM_temporary 12 = .ok (.aload_n 0, 1) := by decide +kernel
theorem d_SM_temporary_13 : decode c_SM_temporary 13 = .ok (.getfield 10, 3) := by decide +kernel
theorem d_SM_temporary_16 : decode c_SM_temporary 16 = .ok (.getfield 131, 3) := by decide +kernel
theorem d_SM_temporary_19 : decode c_SM_temporary 19 = .ok (.iload_n 1, 1) := by decide +kernel
theorem d_SM_temporary_20 : decode c_SM_temporary 20 = .ok (.iload_n 2, 1) := by decide +kernel
theorem d_SM_temporary_21 : decode c_SM_temporary 21 = .ok (.invokevirtual 127, 3) := by decide +kernel
theorem d_SM_temporary_24 : decode c_SM_temporary 24 = .ok (.ireturn, 1) := by decide +kernel
theorem d_La_poke_0 : decode c_La_poke 0 = .ok (.aload_n 0, 1) := by decide +kernel
theorem d_La_poke_1 : decode c_La_poke 1 = .ok (.iload_n 1, 1) := by decide +kernel
theorem d_La_poke_2 : decode c_La_poke 2 = .ok (.iload_n 2, 1) := by decide +kernel
theorem d_La_poke_3 : decode c_La_poke 3 = .ok (.invokevirtual 7, 3) := by decide +kernel
theorem d_La_poke_6 : decode c_La_poke 6 = .ok (.goto 6, 3) := by decide +kernel
theorem d_La_poke_9 : decode c_La_poke 9 = .ok (.astore_n 3, 1) := by decide +kernel
theorem d_La_poke_10 : decode c_La_poke 10 = .ok (.iconst 1, 1) := by decide +kernel
theorem d_La_poke_11 : decode c_La_poke 11 = .ok (.ireturn, 1) := by decide +kernel
theorem d_La_poke_12 : decode c_La_poke 12 = .ok (.iconst 0, 1) := by decide +kernel
theorem d_La_poke_13 : decode c_La_poke 13 = .ok (.ireturn, 1) := by decide +kernel
theorem d_La_load_0 : decode c_La_load 0 = .ok (.aload 4, 2) := by decide +kernel
theorem d_La_load_2 : decode c_La_load 2 = .ok (.iconst 0, 1) := by decide +kernel
theorem d_La_load_3 : decode c_La_load 3 = .ok (.aload_n 0, 1) := by decide +kernel
theorem d_La_load_4 : decode c_La_load 4 = .ok (.iload_n 1, 1) := by decide +kernel
theorem d_La_load_5 : decode c_La_load 5 = .ok (.iload_n 2, 1) := by decide +kernel
theorem d_La_load_6 : decode c_La_load 6 = .ok (.iload_n 3, 1) := by decide +kernel
theorem d_La_load_7 : decode c_La_load 7 = .ok (.invokevirtual 15, 3) := by decide +kernel
theorem d_La_load_10 : decode c_La_load 10 = .ok (.i2l, 1) := by decide +kernel
theorem d_La_load_11 : decode c_La_load 11 = .ok (.lastore, 1) := by decide +kernel
theorem d_La_load_12 : decode c_La_load 12 = .ok (.goto 11, 3) := by decide +kernel
theorem d_La_load_15 : decode c_La_load 15 = .ok (.astore 5, 2) := by decide +kernel
theorem d_La_load_17 : decode c_La_load 17 = .ok (.iconst 1, 1) := by decide +kernel
theorem d_La_load_18 : decode c_La_load 18 = .ok (.ireturn, 1) := by decide +kernel
theorem d_La_load_19 : decode c_La_load 19 = .ok (.astore 5, 2) := by decide +kernel
theorem d_La_load_21 : decode c_La_load 21 = .ok (.iconst 2, 1) := by decide +kernel
theorem d_La_load_22 : decode c_La_load 22 = .ok (.ireturn, 1) := by decide +kernel
theorem d_La_load_23 : decode c_La_load 23 = .ok (.iconst 0, 1) := by decide +kernel
theorem d_La_load_24 : decode c_La_load 24 = .ok (.ireturn, 1) := by decide +kernel
theorem d_La_in_0 : decode c_La_in 0 = .ok (.aload_n 0, 1) := by decide +kernel
theorem d_La_in_1 : decode c_La_in 1 = .ok (.iload_n 1, 1) := by decide +kernel
theorem d_La_in_2 : decode c_La_in 2 = .ok (.iload_n 2, 1) := by decide +kernel
theorem d_La_in_3 : decode c_La_in 3 = .ok (.iload_n 3, 1) := by decide +kernel
theorem d_La_in_4 : decode c_La_in 4 = .ok (.iload 4, 2) := by decide +kernel
theorem d_La_in_6 : decode c_La_in 6 = .ok (.iload 5, 2) := by decide +kernel
theorem d_La_in_8 : decode c_La_in 8 = .ok (.invokevirtual 21, 3) := by decide +kernel
theorem d_La_in_11 : decode c_La_in 11 = .ok (.goto 7, 3) := by decide +kernel
theorem d_La_in_14 : decode c_La_in 14 = .ok (.astore 6, 2) := by decide +kernel
theorem d_La_in_16 : decode c_La_in 16 = .ok (.iconst 1, 1) := by decide +kernel
theorem d_La_in_17 : decode c_La_in 17 = .ok (.ireturn, 1) := by decide +kernel
theorem d_La_in_18 : decode c_La_in 18 = .ok (.iconst 0, 1) := by decide +kernel
theorem d_La_in_19 : decode c_La_in 19 = .ok (.ireturn, 1) := by decide +kernel
theorem d_La_uniform_0 : decode c_La_uniform 0 = .ok (.aload_n 0, 1) := by decide +kernel
theorem d_La_uniform_1 : decode c_La_uniform 1 = .ok (.iload_n 1, 1) := by decide +kernel
theorem d_La_uniform_2 : decode c_La_uniform 2 = .ok (.iload_n 2, 1) := by decide +kernel
theorem d_La_uniform_3 : decode c_La_uniform 3 = .ok (.iload_n 3, 1) := by decide +kernel
theorem d_La_uniform_4 : decode c_La_uniform 4 = .ok (.iload 4, 2) := by decide +kernel
theorem d_La_uniform_6 : decode c_La_uniform 6 = .ok (.iload 5, 2) := by decide +kernel
theorem d_La_uniform_8 : decode c_La_uniform 8 = .ok (.invokevirtual 25, 3) := by decide +kernel
theorem d_La_uniform_11 : decode c_La_uniform 11 = .ok (.goto 7, 3) := by decide +kernel
theorem d_La_uniform_14 : decode c_La_uniform 14 = .ok (.astore 6, 2) := by decide +kernel
theorem d_La_uniform_16 : decode c_La_uniform 16 = .ok (.iconst 1, 1) := by decide +kernel
theorem d_La_uniform_17 : decode c_La_uniform 17 = .ok (.ireturn, 1) := by decide +kernel
theorem d_La_uniform_18 : decode c_La_uniform 18 = .ok (.iconst 0, 1) := by decide +kernel
theorem d_La_uniform_19 : decode c_La_uniform 19 = .ok (.ireturn, 1) := by decide +kernel
theorem d_La_texture_0 : decode c_La_texture 0 = .ok (.aload_n 0, 1) := by decide +kernel
theorem d_La_texture_1 : decode c_La_texture 1 = .ok (.iload_n 1, 1) := by decide +kernel
theorem d_La_texture_2 : decode c_La_texture 2 = .ok (.iload_n 2, 1) := by decide +kernel
theorem d_La_texture_3 : decode c_La_texture 3 = .ok (.iload_n 3, 1) := by decide +kernel
theorem d_La_texture_4 : decode c_La_texture 4 = .ok (.iload 4, 2) := by decide +kernel
theorem d_La_texture_6 : decode c_La_texture 6 = .ok (.iload 5, 2) := by decide +kernel
theorem d_La_texture_8 : decode c_La_texture 8 = .ok (.invokevirtual 28, 3) := by decide +kernel
theorem d_La_texture_11 : decode c_La_texture 11 = .ok (.goto 7, 3) := by decide +kernel
theorem d_La_texture_14 : decode c_La_texture 14 = .ok (.astore 6, 2) := by decide +kernel
theorem d_La_texture_16 : decode c_La_texture 16 = .ok (.iconst 1, 1) := by decide +kernel
theorem d_La_texture_17 : decode c_La_texture 17 = .ok (.ireturn, 1) := by decide +kernel
theorem d_La_texture_18 : decode c_La_texture 18 = .ok (.iconst 0, 1) := by decide +kernel
theorem d_La_texture_19 : decode c_La_texture 19 = .ok (.ireturn, 1) := by decide +kernel
theorem d_La_run_0 : decode c_La_run 0 = .ok (.aload_n 1, 1) := by decide +kernel
theorem d_La_run_1 : decode c_La_run 1 = .ok (.iconst 0, 1) := by decide +kernel
theorem d_La_run_2 : decode c_La_run 2 = .ok (.aload_n 0, 1) := by decide +kernel
theorem d_La_run_3 : decode c_La_run 3 = .ok (.invokevirtual 31, 3) := by decide +kernel
theorem d_La_run_6 : decode c_La_run 6 = .ok (.i2l, 1) := by decide +kernel
theorem d_La_run_7 : decode c_La_run 7 = .ok (.lastore, 1) := by decide +kernel
theorem d_La_run_8 : decode c_La_run 8 = .ok (.goto 6, 3) := by decide +kernel
theorem d_La_run_11 : decode c_La_run 11 = .ok (.astore_n 2, 1) := by decide +kernel
theorem d_La_run_12 : decode c_La_run 12 = .ok (.iconst 1, 1) := by decide +kernel
theorem d_La_run_13 : decode c_La_run 13 = .ok (.ireturn, 1) := by decide +kernel
theorem d_La_run_14 : decode c_La_run 14 = .ok (.iconst 0, 1) := by decide +kernel
theorem d_La_run_15 : decode c_La_run 15 = .ok (.ireturn, 1) := by decide +kernel
theorem d_La_out_0 : decode c_La_out 0 = .ok (.aload_n 3, 1) := by decide +kernel
theorem d_La_out_1 : decode c_La_out 1 = .ok (.iconst 0, 1) := by decide +kernel
theorem d_La_out_2 : decode c_La_out 2 = .ok (.aload_n 0, 1) := by decide +kernel
theorem d_La_out_3 : decode c_La_out 3 = .ok (.iload_n 1, 1) := by decide +kernel
theorem d_La_out_4 : decode c_La_out 4 = .ok (.iload_n 2, 1) := by decide +kernel
theorem d_La_out_5 : decode c_La_out 5 = .ok (.invokevirtual 37, 3) := by decide +kernel
theorem d_La_out_8 : decode c_La_out 8 = .ok (.i2l, 1) := by decide +kernel
theorem d_La_out_9 : decode c_La_out 9 = .ok (.lastore, 1) := by decide +kernel
theorem d_La_out_10 : decode c_La_out 10 = .ok (.goto 7, 3) := by decide +kernel
theorem d_La_out_13 : decode c_La_out 13 = .ok (.astore 4, 2) := by decide +kernel
theorem d_La_out_15 : decode c_La_out 15 = .ok (.iconst 1, 1) := by decide +kernel
theorem d_La_out_16 : decode c_La_out 16 = .ok (.ireturn, 1) := by decide +kernel
theorem d_La_out_17 : decode c_La_out 17 = .ok (.iconst 0, 1) := by decide +kernel
theorem d_La_out_18 : decode c_La_out 18 = .ok (.ireturn, 1) := by decide +kernel
theorem d_La_temporary_0 : decode c_La_temporary 0 = .ok (.aload_n 3, 1) := by decide +kernel
theorem d_La_temporary_1 : decode c_La_temporary 1 = .ok (.iconst 0, 1) := by decide +kernel
theorem d_La_temporary_2 : decode c_La_temporary 2 = .ok (.aload_n 0, 1) := by decide +kernel
theorem d_La_temporary_3 : decode c_La_temporary 3 = .ok (.iload_n 1, 1) := by decide +kernel
theorem d_La_temporary_4 : decode c_La_temporary 4 = .ok (.iload_n 2, 1) := by decide +kernel
theorem d_La_temporary_5 : decode c_La_temporary 5 = .ok (.invokevirtual 41, 3) := by decide +kernel
theorem d_La_temporary_8 : decode c_La_temporary 8 = .ok (.i2l, 1) := by decide +kernel
theorem d_La_temporary_9 : decode c_La_temporary 9 = .ok (.lastore, 1) := by decide +kernel
theorem d_La_temporary_10 : decode c_La_temporary 10 = .ok (.goto 7, 3) := by decide +kernel
theorem d_La_temporary_13 : decode c_La_temporary 13 = .ok (.astore 4, 2) := by decide +kernel
theorem d_La_temporary_15 : decode c_La_temporary 15 = .ok (.iconst 1, 1) := by decide +kernel
theorem d_La_temporary_16 : decode c_La_temporary 16 = .ok (.ireturn, 1) := by decide +kernel
theorem d_La_temporary_17 : decode c_La_temporary 17 = .ok (.iconst 0, 1) := by decide +kernel
theorem d_La_temporary_18 : decode c_La_temporary 18 = .ok (.ireturn, 1) := by decide +kernel
