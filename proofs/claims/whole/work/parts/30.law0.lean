theorem tw_206 : Cond.codeWith y_La_poke c_La_poke 4 (some .int) [(0, 6, 9, 13)] ∈ gw := gw_1 206 (by rfl) (by decide +kernel)
theorem tw_204 : Cond.methodLink R_La 48 y_La_poke ∈ gw := gw_1 204 (by decide +kernel) (by decide +kernel)
theorem tw_205 : Cond.static y_La_poke ∈ gw := gw_1 205 (by decide +kernel) (by decide +kernel)
theorem tw_0 : Cond.initialized R_La ∈ gw := gw_1 0 (by decide +kernel) (by decide +kernel)
theorem sw_p21 : Cond.selects R_Mo y_Mo_refuse y_Mo_refuse ∈ gw := gw_s 21 (by decide +kernel) (by decide +kernel)
theorem tw_790 : Cond.code y_Mo_poke c_Mo_poke 3 none ∈ gw := gw_4 70 (by rfl) (by decide +kernel)
theorem tw_787 : Cond.methodLink R_La 53 y_Mo_poke ∈ gw := gw_4 67 (by decide +kernel) (by decide +kernel)
theorem tw_788 : Cond.instanceMethod y_Mo_poke ∈ gw := gw_4 68 (by decide +kernel) (by decide +kernel)
theorem tw_789 : Cond.selects R_Mo y_Mo_poke y_Mo_poke ∈ gw := gw_4 69 (by decide +kernel) (by decide +kernel)
theorem tw_786 : Cond.code y_Mo_thrown c_Mo_thrown 1 (some .int) ∈ gw := gw_4 66 (by rfl) (by decide +kernel)
theorem tw_783 : Cond.methodLink R_La 54 y_Mo_thrown ∈ gw := gw_4 63 (by decide +kernel) (by decide +kernel)
theorem tw_784 : Cond.instanceMethod y_Mo_thrown ∈ gw := gw_4 64 (by decide +kernel) (by decide +kernel)
theorem tw_785 : Cond.selects R_Mo y_Mo_thrown y_Mo_thrown ∈ gw := gw_4 65 (by decide +kernel) (by decide +kernel)
theorem sw_p1 : Cond.selects R_Ch y_Ch_tell y_Ch_tell ∈ gw := gw_s 1 (by decide +kernel) (by decide +kernel)
theorem sw_p3 : Cond.selects R_Pr y_Pr_has y_Pr_has ∈ gw := gw_s 3 (by decide +kernel) (by decide +kernel)
theorem sw_p7 : Cond.selects R_Ch y_Ch_loopAt y_Ch_loopAt ∈ gw := gw_s 7 (by decide +kernel) (by decide +kernel)
theorem sw_p6 : Cond.selects R_Ch y_Ch_firstStray y_Ch_firstStray ∈ gw := gw_s 6 (by decide +kernel) (by decide +kernel)
theorem sw_p5 : Cond.selects R_Ch y_Ch_examineWhole y_Ch_examineWhole ∈ gw := gw_s 5 (by decide +kernel) (by decide +kernel)
theorem sw_p2 : Cond.selects R_Ch y_Ch_faultOf y_Ch_faultOf ∈ gw := gw_s 2 (by decide +kernel) (by decide +kernel)
theorem sw_p4 : Cond.selects R_Ch y_Ch_follow y_Ch_follow ∈ gw := gw_s 4 (by decide +kernel) (by decide +kernel)
theorem tw_291 : Cond.codeWith y_La_load c_La_load 6 (some .int) [(0, 12, 15, 13), (0, 12, 19, 19)] ∈ gw := gw_2 51 (by rfl) (by decide +kernel)
theorem tw_289 : Cond.methodLink R_La 57 y_La_load ∈ gw := gw_2 49 (by decide +kernel) (by decide +kernel)
theorem tw_290 : Cond.static y_La_load ∈ gw := gw_2 50 (by decide +kernel) (by decide +kernel)
theorem sw_p23 : Cond.selects R_Mo y_Mo_no y_Mo_no ∈ gw := gw_s 23 (by decide +kernel) (by decide +kernel)
theorem sw_p22 : Cond.selects R_Mo y_Mo_check y_Mo_check ∈ gw := gw_s 22 (by decide +kernel) (by decide +kernel)
theorem tw_798 : Cond.code y_Mo_load c_Mo_load 5 (some .int) ∈ gw := gw_4 78 (by rfl) (by decide +kernel)
theorem tw_795 : Cond.methodLink R_La 60 y_Mo_load ∈ gw := gw_4 75 (by decide +kernel) (by decide +kernel)
theorem tw_796 : Cond.instanceMethod y_Mo_load ∈ gw := gw_4 76 (by decide +kernel) (by decide +kernel)
theorem tw_797 : Cond.selects R_Mo y_Mo_load y_Mo_load ∈ gw := gw_4 77 (by decide +kernel) (by decide +kernel)
theorem tw_187 : Cond.code y_SM_fault c_SM_fault 2 (some .int) ∈ gw := gw_1 187 (by rfl) (by decide +kernel)
theorem tw_184 : Cond.methodLink R_La 61 y_SM_fault ∈ gw := gw_1 184 (by decide +kernel) (by decide +kernel)
theorem tw_185 : Cond.instanceMethod y_SM_fault ∈ gw := gw_1 185 (by decide +kernel) (by decide +kernel)
theorem tw_186 : Cond.selects R_SM y_SM_fault y_SM_fault ∈ gw := gw_1 186 (by decide +kernel) (by decide +kernel)
theorem tw_854 : Cond.code y_Mo_fault c_Mo_fault 2 (some .int) ∈ gw := gw_4 134 (by rfl) (by decide +kernel)
theorem tw_851 : Cond.methodLink R_La 65 y_Mo_fault ∈ gw := gw_4 131 (by decide +kernel) (by decide +kernel)
theorem tw_852 : Cond.instanceMethod y_Mo_fault ∈ gw := gw_4 132 (by decide +kernel) (by decide +kernel)
theorem tw_853 : Cond.selects R_Mo y_Mo_fault y_Mo_fault ∈ gw := gw_4 133 (by decide +kernel) (by decide +kernel)
theorem tw_465 : Cond.codeWith y_La_in c_La_in 7 (some .int) [(0, 11, 14, 13)] ∈ gw := gw_2 225 (by rfl) (by decide +kernel)
theorem tw_463 : Cond.methodLink R_La 66 y_La_in ∈ gw := gw_2 223 (by decide +kernel) (by decide +kernel)
theorem tw_464 : Cond.static y_La_in ∈ gw := gw_2 224 (by decide +kernel) (by decide +kernel)
theorem sw_p24 : Cond.selects R_Mo y_Mo_set y_Mo_set ∈ gw := gw_s 24 (by decide +kernel) (by decide +kernel)
theorem tw_858 : Cond.code y_Mo_in c_Mo_in 6 none ∈ gw := gw_4 138 (by rfl) (by decide +kernel)
theorem tw_855 : Cond.methodLink R_La 69 y_Mo_in ∈ gw := gw_4 135 (by decide +kernel) (by decide +kernel)
theorem tw_856 : Cond.instanceMethod y_Mo_in ∈ gw := gw_4 136 (by decide +kernel) (by decide +kernel)
theorem tw_857 : Cond.selects R_Mo y_Mo_in y_Mo_in ∈ gw := gw_4 137 (by decide +kernel) (by decide +kernel)
theorem tw_492 : Cond.codeWith y_La_uniform c_La_uniform 7 (some .int) [(0, 11, 14, 13)] ∈ gw := gw_3 12 (by rfl) (by decide +kernel)
theorem tw_490 : Cond.methodLink R_La 70 y_La_uniform ∈ gw := gw_3 10 (by decide +kernel) (by decide +kernel)
theorem tw_491 : Cond.static y_La_uniform ∈ gw := gw_3 11 (by decide +kernel) (by decide +kernel)
theorem tw_866 : Cond.code y_Mo_uniform c_Mo_uniform 6 none ∈ gw := gw_4 146 (by rfl) (by decide +kernel)
theorem tw_863 : Cond.methodLink R_La 72 y_Mo_uniform ∈ gw := gw_4 143 (by decide +kernel) (by decide +kernel)
theorem tw_864 : Cond.instanceMethod y_Mo_uniform ∈ gw := gw_4 144 (by decide +kernel) (by decide +kernel)
theorem tw_865 : Cond.selects R_Mo y_Mo_uniform y_Mo_uniform ∈ gw := gw_4 145 (by decide +kernel) (by decide +kernel)
theorem tw_499 : Cond.codeWith y_La_texture c_La_texture 7 (some .int) [(0, 11, 14, 13)] ∈ gw := gw_3 19 (by rfl) (by decide +kernel)
theorem tw_497 : Cond.methodLink R_La 73 y_La_texture ∈ gw := gw_3 17 (by decide +kernel) (by decide +kernel)
theorem tw_498 : Cond.static y_La_texture ∈ gw := gw_3 18 (by decide +kernel) (by decide +kernel)
theorem tw_870 : Cond.code y_Mo_texture c_Mo_texture 6 none ∈ gw := gw_4 150 (by rfl) (by decide +kernel)
theorem tw_867 : Cond.methodLink R_La 75 y_Mo_texture ∈ gw := gw_4 147 (by decide +kernel) (by decide +kernel)
theorem tw_868 : Cond.instanceMethod y_Mo_texture ∈ gw := gw_4 148 (by decide +kernel) (by decide +kernel)
theorem tw_869 : Cond.selects R_Mo y_Mo_texture y_Mo_texture ∈ gw := gw_4 149 (by decide +kernel) (by decide +kernel)
theorem sw_p10 : Cond.selects R_Ru y_Ru_readSource y_Ru_readSource ∈ gw := gw_s 10 (by decide +kernel) (by decide +kernel)
theorem sw_p9 : Cond.selects R_Ru y_Ru_readSources y_Ru_readSources ∈ gw := gw_s 9 (by decide +kernel) (by decide +kernel)
theorem sw_p11 : Cond.selects R_Ru y_Ru_endRound y_Ru_endRound ∈ gw := gw_s 11 (by decide +kernel) (by decide +kernel)
theorem sw_p19 : Cond.selects R_Ru y_Ru_computeParts y_Ru_computeParts ∈ gw := gw_s 19 (by decide +kernel) (by decide +kernel)
theorem sw_p13 : Cond.selects R_Ru y_Ru_dot y_Ru_dot ∈ gw := gw_s 13 (by decide +kernel) (by decide +kernel)
theorem sw_p14 : Cond.selects R_Ru y_Ru_spread y_Ru_spread ∈ gw := gw_s 14 (by decide +kernel) (by decide +kernel)
theorem sw_p16 : Cond.selects R_Ru y_Ru_setResult y_Ru_setResult ∈ gw := gw_s 16 (by decide +kernel) (by decide +kernel)
theorem sw_p15 : Cond.selects R_Ru y_Ru_cross y_Ru_cross ∈ gw := gw_s 15 (by decide +kernel) (by decide +kernel)
theorem sw_p17 : Cond.selects R_Ru y_Ru_takeWords y_Ru_takeWords ∈ gw := gw_s 17 (by decide +kernel) (by decide +kernel)
theorem sw_p18 : Cond.selects R_Ru y_Ru_takeTexture y_Ru_takeTexture ∈ gw := gw_s 18 (by decide +kernel) (by decide +kernel)
theorem sw_p12 : Cond.selects R_Ru y_Ru_compute y_Ru_compute ∈ gw := gw_s 12 (by decide +kernel) (by decide +kernel)
theorem sw_p20 : Cond.selects R_Ru y_Ru_setTarget y_Ru_setTarget ∈ gw := gw_s 20 (by decide +kernel) (by decide +kernel)
theorem sw_p8 : Cond.selects R_Ru y_Ru_step y_Ru_step ∈ gw := gw_s 8 (by decide +kernel) (by decide +kernel)
theorem tw_506 : Cond.codeWith y_La_run c_La_run 3 (some .int) [(0, 8, 11, 35)] ∈ gw := gw_3 26 (by rfl) (by decide +kernel)
theorem tw_504 : Cond.methodLink R_La 76 y_La_run ∈ gw := gw_3 24 (by decide +kernel) (by decide +kernel)
theorem tw_505 : Cond.static y_La_run ∈ gw := gw_3 25 (by decide +kernel) (by decide +kernel)
theorem sw_p29 : Cond.selects R_Mo y_Mo_word y_Mo_word ∈ gw := gw_s 29 (by decide +kernel) (by decide +kernel)
theorem sw_p28 : Cond.selects R_Mo y_Mo_more y_Mo_more ∈ gw := gw_s 28 (by decide +kernel) (by decide +kernel)
theorem sw_p27 : Cond.selects R_Mo y_Mo_part y_Mo_part ∈ gw := gw_s 27 (by decide +kernel) (by decide +kernel)
theorem sw_p26 : Cond.selects R_Mo y_Mo_put y_Mo_put ∈ gw := gw_s 26 (by decide +kernel) (by decide +kernel)
theorem sw_p25 : Cond.selects R_Mo y_Mo_take y_Mo_take ∈ gw := gw_s 25 (by decide +kernel) (by decide +kernel)
theorem tw_874 : Cond.code y_Mo_run c_Mo_run 6 (some .int) ∈ gw := gw_4 154 (by rfl) (by decide +kernel)
theorem tw_871 : Cond.methodLink R_La 79 y_Mo_run ∈ gw := gw_4 151 (by decide +kernel) (by decide +kernel)
theorem tw_872 : Cond.instanceMethod y_Mo_run ∈ gw := gw_4 152 (by decide +kernel) (by decide +kernel)
theorem tw_873 : Cond.selects R_Mo y_Mo_run y_Mo_run ∈ gw := gw_4 153 (by decide +kernel) (by decide +kernel)
theorem tw_199 : Cond.code y_SM_killed c_SM_killed 1 (some .boolean) ∈ gw := gw_1 199 (by rfl) (by decide +kernel)
theorem tw_196 : Cond.methodLink R_La 80 y_SM_killed ∈ gw := gw_1 196 (by decide +kernel) (by decide +kernel)
theorem tw_197 : Cond.instanceMethod y_SM_killed ∈ gw := gw_1 197 (by decide +kernel) (by decide +kernel)
theorem tw_198 : Cond.selects R_SM y_SM_killed y_SM_killed ∈ gw := gw_1 198 (by decide +kernel) (by decide +kernel)
theorem tw_916 : Cond.code y_Mo_killed c_Mo_killed 1 (some .boolean) ∈ gw := gw_4 196 (by rfl) (by decide +kernel)
theorem tw_913 : Cond.methodLink R_La 84 y_Mo_killed ∈ gw := gw_4 193 (by decide +kernel) (by decide +kernel)
theorem tw_914 : Cond.instanceMethod y_Mo_killed ∈ gw := gw_4 194 (by decide +kernel) (by decide +kernel)
theorem tw_915 : Cond.selects R_Mo y_Mo_killed y_Mo_killed ∈ gw := gw_4 195 (by decide +kernel) (by decide +kernel)
theorem tw_704 : Cond.codeWith y_La_out c_La_out 5 (some .int) [(0, 10, 13, 13)] ∈ gw := gw_3 224 (by rfl) (by decide +kernel)
theorem tw_702 : Cond.methodLink R_La 85 y_La_out ∈ gw := gw_3 222 (by decide +kernel) (by decide +kernel)
theorem tw_703 : Cond.static y_La_out ∈ gw := gw_3 223 (by decide +kernel) (by decide +kernel)
theorem tw_920 : Cond.code y_Mo_out c_Mo_out 3 (some .int) ∈ gw := gw_4 200 (by rfl) (by decide +kernel)
theorem tw_917 : Cond.methodLink R_La 88 y_Mo_out ∈ gw := gw_4 197 (by decide +kernel) (by decide +kernel)
theorem tw_918 : Cond.instanceMethod y_Mo_out ∈ gw := gw_4 198 (by decide +kernel) (by decide +kernel)
theorem tw_919 : Cond.selects R_Mo y_Mo_out y_Mo_out ∈ gw := gw_4 199 (by decide +kernel) (by decide +kernel)
theorem tw_717 : Cond.codeWith y_La_temporary c_La_temporary 5 (some .int) [(0, 10, 13, 13)] ∈ gw := gw_3 237 (by rfl) (by decide +kernel)
theorem tw_715 : Cond.methodLink R_La 89 y_La_temporary ∈ gw := gw_3 235 (by decide +kernel) (by decide +kernel)
theorem tw_716 : Cond.static y_La_temporary ∈ gw := gw_3 236 (by decide +kernel) (by decide +kernel)
theorem tw_924 : Cond.code y_Mo_temporary c_Mo_temporary 3 (some .int) ∈ gw := gw_4 204 (by rfl) (by decide +kernel)
theorem tw_921 : Cond.methodLink R_La 91 y_Mo_temporary ∈ gw := gw_4 201 (by decide +kernel) (by decide +kernel)
theorem tw_922 : Cond.instanceMethod y_Mo_temporary ∈ gw := gw_4 202 (by decide +kernel) (by decide +kernel)
theorem tw_923 : Cond.selects R_Mo y_Mo_temporary y_Mo_temporary ∈ gw := gw_4 203 (by decide +kernel) (by decide +kernel)
abbrev c_La_law : ByteArray := code
theorem cy_goi {p : Program} {l : Launch} {e : Env} {R : Room} {s : State} {m : MethodId} {args : Array Value} {below : List Frame} {meth : Method} {c : Code} {H : Heap} {locs : List Loc} {cells slots : Nat} {Q : State → Prop} {D : va_G} {tys : List (ClassId × FieldType)} {A : Nat → Prop} {ws wc wr w1 : va_W} {pc : Nat} {ls : Array Slot} {st0 rest : List Value} {a : Array Value} {r : Int32} (hr : va_Run p l e R s m args below meth c H locs cells slots 1 6 (F0 m pc ls st0) rest (va_Qi (fun r' w => r' = r ∧ w = w1) (ck_B D tys (va_A wc H.size)) (va_A wc H.size) a) (va_A wc H.size))
    (hP : va_P D vwCl ws H) (hD : va_D A ws) (hS : va_S A s.heap H locs) (hA : ∀ q : Nat, s.heap.size ≤ q → A q) (isC isR : List Nat) (hC : isC.map (fun i => ws[i]?) = wc.map some) (hR : isR.map (fun i => ws[i]?) = wr.map some) (hn : va_nd isR = true) (hdis : ∀ i ∈ isR, i ∉ isC)
    (kk : ∀ (H1 : Heap) (locs1 : List Loc), va_P D vwCl (wr ++ w1) H1 → va_D A (wr ++ w1) → va_S A s.heap H1 locs1 → W p l e R s m args below meth c H1 locs1 (cells + 1) (slots + 6) Q (F0 m (pc + 3) ls (.int r :: rest))) : W p l e R s m args below meth c H locs cells slots Q (F0 m pc ls st0) := by
  have hFc := va_free hD hS hA isC hC
  refine va_calli hr hS (fun q _ h => hFc q h) hFc (fun r' u t H1 locs1 ht hvm hw hB hz1 hk1 hS1 => ?_)
  obtain ⟨rfl, rfl⟩ := hw
  obtain ⟨hP1, hK1, hD1⟩ := hB
  rw [ht] at hP1
  obtain ⟨hP2, hD2⟩ := va_join hP hD isC isR hC hR hn hdis hk1 hFc hP1 hD1
  exact kk H1 locs1 hP2 hD2 hS1
theorem d_La_law_0 : decode c_La_law 0 = .ok (.new 8, 3) := by decide +kernel
theorem d_La_law_3 : decode c_La_law 3 = .ok (.dup, 1) := by decide +kernel
theorem d_La_law_4 : decode c_La_law 4 = .ok (.invokespecial 44, 3) := by decide +kernel
theorem d_La_law_7 : decode c_La_law 7 = .ok (.astore_n 1, 1) := by decide +kernel
theorem d_La_law_8 : decode c_La_law 8 = .ok (.new 45, 3) := by decide +kernel
theorem d_La_law_11 : decode c_La_law 11 = .ok (.dup, 1) := by decide +kernel
theorem d_La_law_12 : decode c_La_law 12 = .ok (.invokespecial 47, 3) := by decide +kernel
theorem d_La_law_15 : decode c_La_law 15 = .ok (.astore_n 2, 1) := by decide +kernel
theorem d_La_law_16 : decode c_La_law 16 = .ok (.iconst 1, 1) := by decide +kernel
theorem d_La_law_17 : decode c_La_law 17 = .ok (.newarray .long, 2) := by decide +kernel
theorem d_La_law_19 : decode c_La_law 19 = .ok (.astore_n 3, 1) := by decide +kernel
theorem d_La_law_20 : decode c_La_law 20 = .ok (.iconst 0, 1) := by decide +kernel
theorem d_La_law_21 : decode c_La_law 21 = .ok (.istore 4, 2) := by decide +kernel
theorem d_La_law_23 : decode c_La_law 23 = .ok (.iload 4, 2) := by decide +kernel
theorem d_La_law_25 : decode c_La_law 25 = .ok (.aload_n 0, 1) := by decide +kernel
theorem d_La_law_26 : decode c_La_law 26 = .ok (.arraylength, 1) := by decide +kernel
theorem d_La_law_27 : decode c_La_law 27 = .ok (.bipush 6, 2) := by decide +kernel
theorem d_La_law_29 : decode c_La_law 29 = .ok (.isub, 1) := by decide +kernel
theorem d_La_law_30 : decode c_La_law 30 = .ok (.if_icmp .gt 686, 3) := by decide +kernel
theorem d_La_law_33 : decode c_La_law 33 = .ok (.aload_n 0, 1) := by decide +kernel
theorem d_La_law_34 : decode c_La_law 34 = .ok (.iload 4, 2) := by decide +kernel
theorem d_La_law_36 : decode c_La_law 36 = .ok (.iaload, 1) := by decide +kernel
theorem d_La_law_37 : decode c_La_law 37 = .ok (.bipush 15, 2) := by decide +kernel
theorem d_La_law_39 : decode c_La_law 39 = .ok (.iand, 1) := by decide +kernel
theorem d_La_law_40 : decode c_La_law 40 = .ok (.tableswitch 670 0 9 #[56, 104, 200, 225, 309, 393, 477, 521, 534, 602], 56) := by decide +kernel
theorem d_La_law_96 : decode c_La_law 96 = .ok (.aload_n 1, 1) := by decide +kernel
theorem d_La_law_97 : decode c_La_law 97 = .ok (.aload_n 0, 1) := by decide +kernel
theorem d_La_law_98 : decode c_La_law 98 = .ok (.iload 4, 2) := by decide +kernel
theorem d_La_law_100 : decode c_La_law 100 = .ok (.iconst 1, 1) := by decide +kernel
theorem d_La_law_101 : decode c_La_law 101 = .ok (.iadd, 1) := by decide +kernel
theorem d_La_law_102 : decode c_La_law 102 = .ok (.iaload, 1) := by decide +kernel
theorem d_La_law_103 : decode c_La_law 103 = .ok (.aload_n 0, 1) := by decide +kernel
theorem d_La_law_104 : decode c_La_law 104 = .ok (.iload 4, 2) := by decide +kernel
theorem d_La_law_106 : decode c_La_law 106 = .ok (.iconst 2, 1) := by decide +kernel
theorem d_La_law_107 : decode c_La_law 107 = .ok (.iadd, 1) := by decide +kernel
theorem d_La_law_108 : decode c_La_law 108 = .ok (.iaload, 1) := by decide +kernel
theorem d_La_law_109 : decode c_La_law 109 = .ok (.invokestatic 48, 3) := by decide +kernel
theorem d_La_law_112 : decode c_La_law 112 = .ok (.istore 5, 2) := by decide +kernel
theorem d_La_law_114 : decode c_La_law 114 = .ok (.aload_n 2, 1) := by decide +kernel
theorem d_La_law_115 : decode c_La_law 115 = .ok (.aload_n 0, 1) := by decide +kernel
theorem d_La_law_116 : decode c_La_law 116 = .ok (.iload 4, 2) := by decide +kernel
theorem d_La_law_118 : decode c_La_law 118 = .ok (.iconst 1, 1) := by decide +kernel
theorem d_La_law_119 : decode c_La_law 119 = .ok (.iadd, 1) := by decide +kernel
theorem d_La_law_120 : decode c_La_law 120 = .ok (.iaload, 1) := by decide +kernel
theorem d_La_law_121 : decode c_La_law 121 = .ok (.aload_n 0, 1) := by decide +kernel
theorem d_La_law_122 : decode c_La_law 122 = .ok (.iload 4, 2) := by decide +kernel
theorem d_La_law_124 : decode c_La_law 124 = .ok (.iconst 2, 1) := by decide +kernel
theorem d_La_law_125 : decode c_La_law 125 = .ok (.iadd, 1) := by decide +kernel
theorem d_La_law_126 : decode c_La_law 126 = .ok (.iaload, 1) := by decide +kernel
theorem d_La_law_127 : decode c_La_law 127 = .ok (.invokevirtual 53, 3) := by decide +kernel
theorem d_La_law_130 : decode c_La_law 130 = .ok (.aload_n 2, 1) := by decide +kernel
theorem d_La_law_131 : decode c_La_law 131 = .ok (.invokevirtual 54, 3) := by decide +kernel
theorem d_La_law_134 : decode c_La_law 134 = .ok (.iload 5, 2) := by decide +kernel
theorem d_La_law_136 : decode c_La_law 136 = .ok (.if_icmp .eq 5, 3) := by decide +kernel
theorem d_La_law_139 : decode c_La_law 139 = .ok (.iconst 0, 1) := by decide +kernel
theorem d_La_law_140 : decode c_La_law 140 = .ok (.ireturn, 1) := by decide +kernel
theorem d_La_law_141 : decode c_La_law 141 = .ok (.goto 569, 3) := by decide +kernel
theorem d_La_law_144 : decode c_La_law 144 = .ok (.aload_n 1, 1) := by decide +kernel
theorem d_La_law_145 : decode c_La_law 145 = .ok (.aload_n 0, 1) := by decide +kernel
theorem d_La_law_146 : decode c_La_law 146 = .ok (.iload 4, 2) := by decide +kernel
theorem d_La_law_148 : decode c_La_law 148 = .ok (.iconst 1, 1) := by decide +kernel
theorem d_La_law_149 : decode c_La_law 149 = .ok (.iadd, 1) := by decide +kernel
theorem d_La_law_150 : decode c_La_law 150 = .ok (.iaload, 1) := by decide +kernel
theorem d_La_law_151 : decode c_La_law 151 = .ok (.aload_n 0, 1) := by decide +kernel
theorem d_La_law_152 : decode c_La_law 152 = .ok (.iload 4, 2) := by decide +kernel
theorem d_La_law_154 : decode c_La_law 154 = .ok (.iconst 2, 1) := by decide +kernel
theorem d_La_law_155 : decode c_La_law 155 = .ok (.iadd, 1) := by decide +kernel
theorem d_La_law_156 : decode c_La_law 156 = .ok (.iaload, 1) := by decide +kernel
theorem d_La_law_157 : decode c_La_law 157 = .ok (.aload_n 0, 1) := by decide +kernel
theorem d_La_law_158 : decode c_La_law 158 = .ok (.iload 4, 2) := by decide +kernel
theorem d_La_law_160 : decode c_La_law 160 = .ok (.iconst 3, 1) := by decide +kernel
theorem d_La_law_161 : decode c_La_law 161 = .ok (.iadd, 1) := by decide +kernel
theorem d_La_law_162 : decode c_La_law 162 = .ok (.iaload, 1) := by decide +kernel
theorem d_La_law_163 : decode c_La_law 163 = .ok (.ifCond .eq 7, 3) := by decide +kernel
theorem d_La_law_166 : decode c_La_law 166 = .ok (.iconst 1, 1) := by decide +kernel
theorem d_La_law_167 : decode c_La_law 167 = .ok (.goto 4, 3) := by decide +kernel
theorem d_La_law_170 : decode c_La_law 170 = .ok (.iconst 0, 1) := by decide +kernel
theorem d_La_law_171 : decode c_La_law 171 = .ok (.aload_n 3, 1) := by decide +kernel
theorem d_La_law_172 : decode c_La_law 172 = .ok (.invokestatic 57, 3) := by decide +kernel
theorem d_La_law_175 : decode c_La_law 175 = .ok (.istore 5, 2) := by decide +kernel
theorem d_La_law_177 : decode c_La_law 177 = .ok (.aload_n 2, 1) := by decide +kernel
theorem d_La_law_178 : decode c_La_law 178 = .ok (.aload_n 0, 1) := by decide +kernel
theorem d_La_law_179 : decode c_La_law 179 = .ok (.iload 4, 2) := by decide +kernel
theorem d_La_law_181 : decode c_La_law 181 = .ok (.iconst 1, 1) := by decide +kernel
theorem d_La_law_182 : decode c_La_law 182 = .ok (.iadd, 1) := by decide +kernel
theorem d_La_law_183 : decode c_La_law 183 = .ok (.iaload, 1) := by decide +kernel
theorem d_La_law_184 : decode c_La_law 184 = .ok (.aload_n 0, 1) := by decide +kernel
theorem d_La_law_185 : decode c_La_law 185 = .ok (.iload 4, 2) := by decide +kernel
theorem d_La_law_187 : decode c_La_law 187 = .ok (.iconst 2, 1) := by decide +kernel
theorem d_La_law_188 : decode c_La_law 188 = .ok (.iadd, 1) := by decide +kernel
theorem d_La_law_189 : decode c_La_law 189 = .ok (.iaload, 1) := by decide +kernel
theorem d_La_law_190 : decode c_La_law 190 = .ok (.aload_n 0, 1) := by decide +kernel
theorem d_La_law_191 : decode c_La_law 191 = .ok (.iload 4, 2) := by decide +kernel
theorem d_La_law_193 : decode c_La_law 193 = .ok (.iconst 3, 1) := by decide +kernel
theorem d_La_law_194 : decode c_La_law 194 = .ok (.iadd, 1) := by decide +kernel
theorem d_La_law_195 : decode c_La_law 195 = .ok (.iaload, 1) := by decide +kernel
theorem d_La_law_196 : decode c_La_law 196 = .ok (.ifCond .eq 7, 3) := by decide +kernel
theorem d_La_law_199 : decode c_La_law 199 = .ok (.iconst 1, 1) := by decide +kernel
theorem d_La_law_200 : decode c_La_law 200 = .ok (.goto 4, 3) := by decide +kernel
theorem d_La_law_203 : decode c_La_law 203 = .ok (.iconst 0, 1) := by decide +kernel
theorem d_La_law_204 : decode c_La_law 204 = .ok (.invokevirtual 60, 3) := by decide +kernel
theorem d_La_law_207 : decode c_La_law 207 = .ok (.istore 6, 2) := by decide +kernel
theorem d_La_law_209 : decode c_La_law 209 = .ok (.aload_n 2, 1) := by decide +kernel
theorem d_La_law_210 : decode c_La_law 210 = .ok (.invokevirtual 54, 3) := by decide +kernel
theorem d_La_law_213 : decode c_La_law 213 = .ok (.iload 5, 2) := by decide +kernel
theorem d_La_law_215 : decode c_La_law 215 = .ok (.if_icmp .eq 5, 3) := by decide +kernel
theorem d_La_law_218 : decode c_La_law 218 = .ok (.iconst 0, 1) := by decide +kernel
theorem d_La_law_219 : decode c_La_law 219 = .ok (.ireturn, 1) := by decide +kernel
theorem d_La_law_220 : decode c_La_law 220 = .ok (.iload 5, 2) := by decide +kernel
theorem d_La_law_222 : decode c_La_law 222 = .ok (.ifCond .ne 15, 3) := by decide +kernel
theorem d_La_law_225 : decode c_La_law 225 = .ok (.aload_n 3, 1) := by decide +kernel
theorem d_La_law_226 : decode c_La_law 226 = .ok (.iconst 0, 1) := by decide +kernel
theorem d_La_law_227 : decode c_La_law 227 = .ok (.laload, 1) := by decide +kernel
theorem d_La_law_228 : decode c_La_law 228 = .ok (.iload 6, 2) := by decide +kernel
theorem d_La_law_230 : decode c_La_law 230 = .ok (.i2l, 1) := by decide +kernel
theorem d_La_law_231 : decode c_La_law 231 = .ok (.lcmp, 1) := by decide +kernel
theorem d_La_law_232 : decode c_La_law 232 = .ok (.ifCond .eq 5, 3) := by decide +kernel
theorem d_La_law_235 : decode c_La_law 235 = .ok (.iconst 0, 1) := by decide +kernel
theorem d_La_law_236 : decode c_La_law 236 = .ok (.ireturn, 1) := by decide +kernel
theorem d_La_law_237 : decode c_La_law 237 = .ok (.goto 473, 3) := by decide +kernel
theorem d_La_law_240 : decode c_La_law 240 = .ok (.aload_n 1, 1) := by decide +kernel
theorem d_La_law_241 : decode c_La_law 241 = .ok (.aload_n 0, 1) := by decide +kernel
theorem d_La_law_242 : decode c_La_law 242 = .ok (.iload 4, 2) := by decide +kernel
theorem d_La_law_244 : decode c_La_law 244 = .ok (.iconst 1, 1) := by decide +kernel
theorem d_La_law_245 : decode c_La_law 245 = .ok (.iadd, 1) := by decide +kernel
theorem d_La_law_246 : decode c_La_law 246 = .ok (.iaload, 1) := by decide +kernel
theorem d_La_law_247 : decode c_La_law 247 = .ok (.invokevirtual 61, 3) := by decide +kernel
theorem d_La_law_250 : decode c_La_law 250 = .ok (.aload_n 2, 1) := by decide +kernel
theorem d_La_law_251 : decode c_La_law 251 = .ok (.aload_n 0, 1) := by decide +kernel
theorem d_La_law_252 : decode c_La_law 252 = .ok (.iload 4, 2) := by decide +kernel
theorem d_La_law_254 : decode c_La_law 254 = .ok (.iconst 1, 1) := by decide +kernel
theorem d_La_law_255 : decode c_La_law 255 = .ok (.iadd, 1) := by decide +kernel
theorem d_La_law_256 : decode c_La_law 256 = .ok (.iaload, 1) := by decide +kernel
theorem d_La_law_257 : decode c_La_law 257 = .ok (.invokevirtual 65, 3) := by decide +kernel
theorem d_La_law_260 : decode c_La_law 260 = .ok (.if_icmp .eq 450, 3) := by decide +kernel
theorem d_La_law_263 : decode c_La_law 263 = .ok (.iconst 0, 1) := by decide +kernel
theorem d_La_law_264 : decode c_La_law 264 = .ok (.ireturn, 1) := by decide +kernel
theorem d_La_law_265 : decode c_La_law 265 = .ok (.aload_n 1, 1) := by decide +kernel
theorem d_La_law_266 : decode c_La_law 266 = .ok (.aload_n 0, 1) := by decide +kernel
theorem d_La_law_267 : decode c_La_law 267 = .ok (.iload 4, 2) := by decide +kernel
theorem d_La_law_269 : decode c_La_law 269 = .ok (.iconst 1, 1) := by decide +kernel
theorem d_La_law_270 : decode c_La_law 270 = .ok (.iadd, 1) := by decide +kernel
theorem d_La_law_271 : decode c_La_law 271 = .ok (.iaload, 1) := by decide +kernel
theorem d_La_law_272 : decode c_La_law 272 = .ok (.aload_n 0, 1) := by decide +kernel
theorem d_La_law_273 : decode c_La_law 273 = .ok (.iload 4, 2) := by decide +kernel
theorem d_La_law_275 : decode c_La_law 275 = .ok (.iconst 2, 1) := by decide +kernel
theorem d_La_law_276 : decode c_La_law 276 = .ok (.iadd, 1) := by decide +kernel
theorem d_La_law_277 : decode c_La_law 277 = .ok (.iaload, 1) := by decide +kernel
theorem d_La_law_278 : decode c_La_law 278 = .ok (.aload_n 0, 1) := by decide +kernel
theorem d_La_law_279 : decode c_La_law 279 = .ok (.iload 4, 2) := by decide +kernel
theorem d_La_law_281 : decode c_La_law 281 = .ok (.iconst 3, 1) := by decide +kernel
theorem d_La_law_282 : decode c_La_law 282 = .ok (.iadd, 1) := by decide +kernel
theorem d_La_law_283 : decode c_La_law 283 = .ok (.iaload, 1) := by decide +kernel
theorem d_La_law_284 : decode c_La_law 284 = .ok (.aload_n 0, 1) := by decide +kernel
theorem d_La_law_285 : decode c_La_law 285 = .ok (.iload 4, 2) := by decide +kernel
theorem d_La_law_287 : decode c_La_law 287 = .ok (.iconst 4, 1) := by decide +kernel
theorem d_La_law_288 : decode c_La_law 288 = .ok (.iadd, 1) := by decide +kernel
theorem d_La_law_289 : decode c_La_law 289 = .ok (.iaload, 1) := by decide +kernel
theorem d_La_law_290 : decode c_La_law 290 = .ok (.aload_n 0, 1) := by decide +kernel
theorem d_La_law_291 : decode c_La_law 291 = .ok (.iload 4, 2) := by decide +kernel
theorem d_La_law_293 : decode c_La_law 293 = .ok (.iconst 5, 1) := by decide +kernel
theorem d_La_law_294 : decode c_La_law 294 = .ok (.iadd, 1) := by decide +kernel
theorem d_La_law_295 : decode c_La_law 295 = .ok (.iaload, 1) := by decide +kernel
theorem d_La_law_296 : decode c_La_law 296 = .ok (.invokestatic 66, 3) := by decide +kernel
theorem d_La_law_299 : decode c_La_law 299 = .ok (.istore 5, 2) := by decide +kernel
theorem d_La_law_301 : decode c_La_law 301 = .ok (.aload_n 2, 1) := by decide +kernel
theorem d_La_law_302 : decode c_La_law 302 = .ok (.aload_n 0, 1) := by decide +kernel
theorem d_La_law_303 : decode c_La_law 303 = .ok (.iload 4, 2) := by decide +kernel
theorem d_La_law_305 : decode c_La_law 305 = .ok (.iconst 1, 1) := by decide +kernel
theorem d_La_law_306 : decode c_La_law 306 = .ok (.iadd, 1) := by decide +kernel
theorem d_La_law_307 : decode c_La_law 307 = .ok (.iaload, 1) := by decide +kernel
theorem d_La_law_308 : decode c_La_law 308 = .ok (.aload_n 0, 1) := by decide +kernel
theorem d_La_law_309 : decode c_La_law 309 = .ok (.iload 4, 2) := by decide +kernel
theorem d_La_law_311 : decode c_La_law 311 = .ok (.iconst 2, 1) := by decide +kernel
theorem d_La_law_312 : decode c_La_law 312 = .ok (.iadd, 1) := by decide +kernel
theorem d_La_law_313 : decode c_La_law 313 = .ok (.iaload, 1) := by decide +kernel
theorem d_La_law_314 : decode c_La_law 314 = .ok (.aload_n 0, 1) := by decide +kernel
theorem d_La_law_315 : decode c_La_law 315 = .ok (.iload 4, 2) := by decide +kernel
theorem d_La_law_317 : decode c_La_law 317 = .ok (.iconst 3, 1) := by decide +kernel
theorem d_La_law_318 : decode c_La_law 318 = .ok (.iadd, 1) := by decide +kernel
theorem d_La_law_319 : decode c_La_law 319 = .ok (.iaload, 1) := by decide +kernel
theorem d_La_law_320 : decode c_La_law 320 = .ok (.aload_n 0, 1) := by decide +kernel
theorem d_La_law_321 : decode c_La_law 321 = .ok (.iload 4, 2) := by decide +kernel
theorem d_La_law_323 : decode c_La_law 323 = .ok (.iconst 4, 1) := by decide +kernel
theorem d_La_law_324 : decode c_La_law 324 = .ok (.iadd, 1) := by decide +kernel
theorem d_La_law_325 : decode c_La_law 325 = .ok (.iaload, 1) := by decide +kernel
theorem d_La_law_326 : decode c_La_law 326 = .ok (.aload_n 0, 1) := by decide +kernel
theorem d_La_law_327 : decode c_La_law 327 = .ok (.iload 4, 2) := by decide +kernel
theorem d_La_law_329 : decode c_La_law 329 = .ok (.iconst 5, 1) := by decide +kernel
theorem d_La_law_330 : decode c_La_law 330 = .ok (.iadd, 1) := by decide +kernel
theorem d_La_law_331 : decode c_La_law 331 = .ok (.iaload, 1) := by decide +kernel
theorem d_La_law_332 : decode c_La_law 332 = .ok (.invokevirtual 69, 3) := by decide +kernel
theorem d_La_law_335 : decode c_La_law 335 = .ok (.aload_n 2, 1) := by decide +kernel
theorem d_La_law_336 : decode c_La_law 336 = .ok (.invokevirtual 54, 3) := by decide +kernel
theorem d_La_law_339 : decode c_La_law 339 = .ok (.iload 5, 2) := by decide +kernel
theorem d_La_law_341 : decode c_La_law 341 = .ok (.if_icmp .eq 5, 3) := by decide +kernel
theorem d_La_law_344 : decode c_La_law 344 = .ok (.iconst 0, 1) := by decide +kernel
theorem d_La_law_345 : decode c_La_law 345 = .ok (.ireturn, 1) := by decide +kernel
theorem d_La_law_346 : decode c_La_law 346 = .ok (.goto 364, 3) := by decide +kernel
theorem d_La_law_349 : decode c_La_law 349 = .ok (.aload_n 1, 1) := by decide +kernel
theorem d_La_law_350 : decode c_La_law 350 = .ok (.aload_n 0, 1) := by decide +kernel
theorem d_La_law_351 : decode c_La_law 351 = .ok (.iload 4, 2) := by decide +kernel
theorem d_La_law_353 : decode c_La_law 353 = .ok (.iconst 1, 1) := by decide +kernel
theorem d_La_law_354 : decode c_La_law 354 = .ok (.iadd, 1) := by decide +kernel
theorem d_La_law_355 : decode c_La_law 355 = .ok (.iaload, 1) := by decide +kernel
theorem d_La_law_356 : decode c_La_law 356 = .ok (.aload_n 0, 1) := by decide +kernel
theorem d_La_law_357 : decode c_La_law 357 = .ok (.iload 4, 2) := by decide +kernel
theorem d_La_law_359 : decode c_La_law 359 = .ok (.iconst 2, 1) := by decide +kernel
theorem d_La_law_360 : decode c_La_law 360 = .ok (.iadd, 1) := by decide +kernel
theorem d_La_law_361 : decode c_La_law 361 = .ok (.iaload, 1) := by decide +kernel
theorem d_La_law_362 : decode c_La_law 362 = .ok (.aload_n 0, 1) := by decide +kernel
theorem d_La_law_363 : decode c_La_law 363 = .ok (.iload 4, 2) := by decide +kernel
theorem d_La_law_365 : decode c_La_law 365 = .ok (.iconst 3, 1) := by decide +kernel
theorem d_La_law_366 : decode c_La_law 366 = .ok (.iadd, 1) := by decide +kernel
theorem d_La_law_367 : decode c_La_law 367 = .ok (.iaload, 1) := by decide +kernel
theorem d_La_law_368 : decode c_La_law 368 = .ok (.aload_n 0, 1) := by decide +kernel
theorem d_La_law_369 : decode c_La_law 369 = .ok (.iload 4, 2) := by decide +kernel
theorem d_La_law_371 : decode c_La_law 371 = .ok (.iconst 4, 1) := by decide +kernel
theorem d_La_law_372 : decode c_La_law 372 = .ok (.iadd, 1) := by decide +kernel
theorem d_La_law_373 : decode c_La_law 373 = .ok (.iaload, 1) := by decide +kernel
theorem d_La_law_374 : decode c_La_law 374 = .ok (.aload_n 0, 1) := by decide +kernel
theorem d_La_law_375 : decode c_La_law 375 = .ok (.iload 4, 2) := by decide +kernel
theorem d_La_law_377 : decode c_La_law 377 = .ok (.iconst 5, 1) := by decide +kernel
theorem d_La_law_378 : decode c_La_law 378 = .ok (.iadd, 1) := by decide +kernel
theorem d_La_law_379 : decode c_La_law 379 = .ok (.iaload, 1) := by decide +kernel
theorem d_La_law_380 : decode c_La_law 380 = .ok (.invokestatic 70, 3) := by decide +kernel
theorem d_La_law_383 : decode c_La_law 383 = .ok (.istore 5, 2) := by decide +kernel
theorem d_La_law_385 : decode c_La_law 385 = .ok (.aload_n 2, 1) := by decide +kernel
theorem d_La_law_386 : decode c_La_law 386 = .ok (.aload_n 0, 1) := by decide +kernel
theorem d_La_law_387 : decode c_La_law 387 = .ok (.iload 4, 2) := by decide +kernel
theorem d_La_law_389 : decode c_La_law 389 = .ok (.iconst 1, 1) := by decide +kernel
theorem d_La_law_390 : decode c_La_law 390 = .ok (.iadd, 1) := by decide +kernel
theorem d_La_law_391 : decode c_La_law 391 = .ok (.iaload, 1) := by decide +kernel
theorem d_La_law_392 : decode c_La_law 392 = .ok (.aload_n 0, 1) := by decide +kernel
theorem d_La_law_393 : decode c_La_law 393 = .ok (.iload 4, 2) := by decide +kernel
theorem d_La_law_395 : decode c_La_law 395 = .ok (.iconst 2, 1) := by decide +kernel
theorem d_La_law_396 : decode c_La_law 396 = .ok (.iadd, 1) := by decide +kernel
theorem d_La_law_397 : decode c_La_law 397 = .ok (.iaload, 1) := by decide +kernel
theorem d_La_law_398 : decode c_La_law 398 = .ok (.aload_n 0, 1) := by decide +kernel
theorem d_La_law_399 : decode c_La_law 399 = .ok (.iload 4, 2) := by decide +kernel
theorem d_La_law_401 : decode c_La_law 401 = .ok (.iconst 3, 1) := by decide +kernel
theorem d_La_law_402 : decode c_La_law 402 = .ok (.iadd, 1) := by decide +kernel
theorem d_La_law_403 : decode c_La_law 403 = .ok (.iaload, 1) := by decide +kernel
theorem d_La_law_404 : decode c_La_law 404 = .ok (.aload_n 0, 1) := by decide +kernel
theorem d_La_law_405 : decode c_La_law 405 = .ok (.iload 4, 2) := by decide +kernel
theorem d_La_law_407 : decode c_La_law 407 = .ok (.iconst 4, 1) := by decide +kernel
theorem d_La_law_408 : decode c_La_law 408 = .ok (.iadd, 1) := by decide +kernel
theorem d_La_law_409 : decode c_La_law 409 = .ok (.iaload, 1) := by decide +kernel
theorem d_La_law_410 : decode c_La_law 410 = .ok (.aload_n 0, 1) := by decide +kernel
theorem d_La_law_411 : decode c_La_law 411 = .ok (.iload 4, 2) := by decide +kernel
theorem d_La_law_413 : decode c_La_law 413 = .ok (.iconst 5, 1) := by decide +kernel
theorem d_La_law_414 : decode c_La_law 414 = .ok (.iadd, 1) := by decide +kernel
theorem d_La_law_415 : decode c_La_law 415 = .ok (.iaload, 1) := by decide +kernel
theorem d_La_law_416 : decode c_La_law 416 = .ok (.invokevirtual 72, 3) := by decide +kernel
theorem d_La_law_419 : decode c_La_law 419 = .ok (.aload_n 2, 1) := by decide +kernel
theorem d_La_law_420 : decode c_La_law 420 = .ok (.invokevirtual 54, 3) := by decide +kernel
theorem d_La_law_423 : decode c_La_law 423 = .ok (.iload 5, 2) := by decide +kernel
theorem d_La_law_425 : decode c_La_law 425 = .ok (.if_icmp .eq 5, 3) := by decide +kernel
theorem d_La_law_428 : decode c_La_law 428 = .ok (.iconst 0, 1) := by decide +kernel
theorem d_La_law_429 : decode c_La_law 429 = .ok (.ireturn, 1) := by decide +kernel
theorem d_La_law_430 : decode c_La_law 430 = .ok (.goto 280, 3) := by decide +kernel
theorem d_La_law_433 : decode c_La_law 433 = .ok (.aload_n 1, 1) := by decide +kernel
theorem d_La_law_434 : decode c_La_law 434 = .ok (.aload_n 0, 1) := by decide +kernel
theorem d_La_law_435 : decode c_La_law 435 = .ok (.iload 4, 2) := by decide +kernel
theorem d_La_law_437 : decode c_La_law 437 = .ok (.iconst 1, 1) := by decide +kernel
theorem d_La_law_438 : decode c_La_law 438 = .ok (.iadd, 1) := by decide +kernel
theorem d_La_law_439 : decode c_La_law 439 = .ok (.iaload, 1) := by decide +kernel
theorem d_La_law_440 : decode c_La_law 440 = .ok (.aload_n 0, 1) := by decide +kernel
theorem d_La_law_441 : decode c_La_law 441 = .ok (.iload 4, 2) := by decide +kernel
theorem d_La_law_443 : decode c_La_law 443 = .ok (.iconst 2, 1) := by decide +kernel
theorem d_La_law_444 : decode c_La_law 444 = .ok (.iadd, 1) := by decide +kernel
theorem d_La_law_445 : decode c_La_law 445 = .ok (.iaload, 1) := by decide +kernel
theorem d_La_law_446 : decode c_La_law 446 = .ok (.aload_n 0, 1) := by decide +kernel
theorem d_La_law_447 : decode c_La_law 447 = .ok (.iload 4, 2) := by decide +kernel
theorem d_La_law_449 : decode c_La_law 449 = .ok (.iconst 3, 1) := by decide +kernel
theorem d_La_law_450 : decode c_La_law 450 = .ok (.iadd, 1) := by decide +kernel
theorem d_La_law_451 : decode c_La_law 451 = .ok (.iaload, 1) := by decide +kernel
theorem d_La_law_452 : decode c_La_law 452 = .ok (.aload_n 0, 1) := by decide +kernel
theorem d_La_law_453 : decode c_La_law 453 = .ok (.iload 4, 2) := by decide +kernel
theorem d_La_law_455 : decode c_La_law 455 = .ok (.iconst 4, 1) := by decide +kernel
theorem d_La_law_456 : decode c_La_law 456 = .ok (.iadd, 1) := by decide +kernel
theorem d_La_law_457 : decode c_La_law 457 = .ok (.iaload, 1) := by decide +kernel
theorem d_La_law_458 : decode c_La_law 458 = .ok (.aload_n 0, 1) := by decide +kernel
theorem d_La_law_459 : decode c_La_law 459 = .ok (.iload 4, 2) := by decide +kernel
theorem d_La_law_461 : decode c_La_law 461 = .ok (.iconst 5, 1) := by decide +kernel
theorem d_La_law_462 : decode c_La_law 462 = .ok (.iadd, 1) := by decide +kernel
theorem d_La_law_463 : decode c_La_law 463 = .ok (.iaload, 1) := by decide +kernel
theorem d_La_law_464 : decode c_La_law 464 = .ok (.invokestatic 73, 3) := by decide +kernel
theorem d_La_law_467 : decode c_La_law 467 = .ok (.istore 5, 2) := by decide +kernel
theorem d_La_law_469 : decode c_La_law 469 = .ok (.aload_n 2, 1) := by decide +kernel
theorem d_La_law_470 : decode c_La_law 470 = .ok (.aload_n 0, 1) := by decide +kernel
theorem d_La_law_471 : decode c_La_law 471 = .ok (.iload 4, 2) := by decide +kernel
theorem d_La_law_473 : decode c_La_law 473 = .ok (.iconst 1, 1) := by decide +kernel
theorem d_La_law_474 : decode c_La_law 474 = .ok (.iadd, 1) := by decide +kernel
theorem d_La_law_475 : decode c_La_law 475 = .ok (.iaload, 1) := by decide +kernel
theorem d_La_law_476 : decode c_La_law 476 = .ok (.aload_n 0, 1) := by decide +kernel
theorem d_La_law_477 : decode c_La_law 477 = .ok (.iload 4, 2) := by decide +kernel
theorem d_La_law_479 : decode c_La_law 479 = .ok (.iconst 2, 1) := by decide +kernel
theorem d_La_law_480 : decode c_La_law 480 = .ok (.iadd, 1) := by decide +kernel
theorem d_La_law_481 : decode c_La_law 481 = .ok (.iaload, 1) := by decide +kernel
theorem d_La_law_482 : decode c_La_law 482 = .ok (.aload_n 0, 1) := by decide +kernel
theorem d_La_law_483 : decode c_La_law 483 = .ok (.iload 4, 2) := by decide +kernel
theorem d_La_law_485 : decode c_La_law 485 = .ok (.iconst 3, 1) := by decide +kernel
theorem d_La_law_486 : decode c_La_law 486 = .ok (.iadd, 1) := by decide +kernel
theorem d_La_law_487 : decode c_La_law 487 = .ok (.iaload, 1) := by decide +kernel
theorem d_La_law_488 : decode c_La_law 488 = .ok (.aload_n 0, 1) := by decide +kernel
theorem d_La_law_489 : decode c_La_law 489 = .ok (.iload 4, 2) := by decide +kernel
theorem d_La_law_491 : decode c_La_law 491 = .ok (.iconst 4, 1) := by decide +kernel
theorem d_La_law_492 : decode c_La_law 492 = .ok (.iadd, 1) := by decide +kernel
theorem d_La_law_493 : decode c_La_law 493 = .ok (.iaload, 1) := by decide +kernel
theorem d_La_law_494 : decode c_La_law 494 = .ok (.aload_n 0, 1) := by decide +kernel
theorem d_La_law_495 : decode c_La_law 495 = .ok (.iload 4, 2) := by decide +kernel
theorem d_La_law_497 : decode c_La_law 497 = .ok (.iconst 5, 1) := by decide +kernel
theorem d_La_law_498 : decode c_La_law 498 = .ok (.iadd, 1) := by decide +kernel
theorem d_La_law_499 : decode c_La_law 499 = .ok (.iaload, 1) := by decide +kernel
theorem d_La_law_500 : decode c_La_law 500 = .ok (.invokevirtual 75, 3) := by decide +kernel
theorem d_La_law_503 : decode c_La_law 503 = .ok (.aload_n 2, 1) := by decide +kernel
theorem d_La_law_504 : decode c_La_law 504 = .ok (.invokevirtual 54, 3) := by decide +kernel
theorem d_La_law_507 : decode c_La_law 507 = .ok (.iload 5, 2) := by decide +kernel
theorem d_La_law_509 : decode c_La_law 509 = .ok (.if_icmp .eq 5, 3) := by decide +kernel
theorem d_La_law_512 : decode c_La_law 512 = .ok (.iconst 0, 1) := by decide +kernel
theorem d_La_law_513 : decode c_La_law 513 = .ok (.ireturn, 1) := by decide +kernel
theorem d_La_law_514 : decode c_La_law 514 = .ok (.goto 196, 3) := by decide +kernel
theorem d_La_law_517 : decode c_La_law 517 = .ok (.aload_n 1, 1) := by decide +kernel
theorem d_La_law_518 : decode c_La_law 518 = .ok (.aload_n 3, 1) := by decide +kernel
theorem d_La_law_519 : decode c_La_law 519 = .ok (.invokestatic 76, 3) := by decide +kernel
theorem d_La_law_522 : decode c_La_law 522 = .ok (.istore 5, 2) := by decide +kernel
theorem d_La_law_524 : decode c_La_law 524 = .ok (.aload_n 2, 1) := by decide +kernel
theorem d_La_law_525 : decode c_La_law 525 = .ok (.invokevirtual 79, 3) := by decide +kernel
theorem d_La_law_528 : decode c_La_law 528 = .ok (.istore 6, 2) := by decide +kernel
theorem d_La_law_530 : decode c_La_law 530 = .ok (.aload_n 2, 1) := by decide +kernel
theorem d_La_law_531 : decode c_La_law 531 = .ok (.invokevirtual 54, 3) := by decide +kernel
theorem d_La_law_534 : decode c_La_law 534 = .ok (.iload 5, 2) := by decide +kernel
theorem d_La_law_536 : decode c_La_law 536 = .ok (.if_icmp .eq 5, 3) := by decide +kernel
theorem d_La_law_539 : decode c_La_law 539 = .ok (.iconst 0, 1) := by decide +kernel
theorem d_La_law_540 : decode c_La_law 540 = .ok (.ireturn, 1) := by decide +kernel
theorem d_La_law_541 : decode c_La_law 541 = .ok (.iload 5, 2) := by decide +kernel
theorem d_La_law_543 : decode c_La_law 543 = .ok (.ifCond .ne 15, 3) := by decide +kernel
theorem d_La_law_546 : decode c_La_law 546 = .ok (.aload_n 3, 1) := by decide +kernel
theorem d_La_law_547 : decode c_La_law 547 = .ok (.iconst 0, 1) := by decide +kernel
theorem d_La_law_548 : decode c_La_law 548 = .ok (.laload, 1) := by decide +kernel
theorem d_La_law_549 : decode c_La_law 549 = .ok (.iload 6, 2) := by decide +kernel
theorem d_La_law_551 : decode c_La_law 551 = .ok (.i2l, 1) := by decide +kernel
theorem d_La_law_552 : decode c_La_law 552 = .ok (.lcmp, 1) := by decide +kernel
theorem d_La_law_553 : decode c_La_law 553 = .ok (.ifCond .eq 5, 3) := by decide +kernel
theorem d_La_law_556 : decode c_La_law 556 = .ok (.iconst 0, 1) := by decide +kernel
theorem d_La_law_557 : decode c_La_law 557 = .ok (.ireturn, 1) := by decide +kernel
theorem d_La_law_558 : decode c_La_law 558 = .ok (.goto 152, 3) := by decide +kernel
theorem d_La_law_561 : decode c_La_law 561 = .ok (.aload_n 1, 1) := by decide +kernel
theorem d_La_law_562 : decode c_La_law 562 = .ok (.invokevirtual 80, 3) := by decide +kernel
theorem d_La_law_565 : decode c_La_law 565 = .ok (.aload_n 2, 1) := by decide +kernel
theorem d_La_law_566 : decode c_La_law 566 = .ok (.invokevirtual 84, 3) := by decide +kernel
theorem d_La_law_569 : decode c_La_law 569 = .ok (.if_icmp .eq 141, 3) := by decide +kernel
theorem d_La_law_572 : decode c_La_law 572 = .ok (.iconst 0, 1) := by decide +kernel
theorem d_La_law_573 : decode c_La_law 573 = .ok (.ireturn, 1) := by decide +kernel
theorem d_La_law_574 : decode c_La_law 574 = .ok (.aload_n 1, 1) := by decide +kernel
theorem d_La_law_575 : decode c_La_law 575 = .ok (.aload_n 0, 1) := by decide +kernel
theorem d_La_law_576 : decode c_La_law 576 = .ok (.iload 4, 2) := by decide +kernel
theorem d_La_law_578 : decode c_La_law 578 = .ok (.iconst 1, 1) := by decide +kernel
theorem d_La_law_579 : decode c_La_law 579 = .ok (.iadd, 1) := by decide +kernel
theorem d_La_law_580 : decode c_La_law 580 = .ok (.iaload, 1) := by decide +kernel
theorem d_La_law_581 : decode c_La_law 581 = .ok (.aload_n 0, 1) := by decide +kernel
theorem d_La_law_582 : decode c_La_law 582 = .ok (.iload 4, 2) := by decide +kernel
theorem d_La_law_584 : decode c_La_law 584 = .ok (.iconst 2, 1) := by decide +kernel
theorem d_La_law_585 : decode c_La_law 585 = .ok (.iadd, 1) := by decide +kernel
theorem d_La_law_586 : decode c_La_law 586 = .ok (.iaload, 1) := by decide +kernel
theorem d_La_law_587 : decode c_La_law 587 = .ok (.aload_n 3, 1) := by decide +kernel
theorem d_La_law_588 : decode c_La_law 588 = .ok (.invokestatic 85, 3) := by decide +kernel
theorem d_La_law_591 : decode c_La_law 591 = .ok (.istore 5, 2) := by decide +kernel
theorem d_La_law_593 : decode c_La_law 593 = .ok (.aload_n 2, 1) := by decide +kernel
theorem d_La_law_594 : decode c_La_law 594 = .ok (.aload_n 0, 1) := by decide +kernel
theorem d_La_law_595 : decode c_La_law 595 = .ok (.iload 4, 2) := by decide +kernel
theorem d_La_law_597 : decode c_La_law 597 = .ok (.iconst 1, 1) := by decide +kernel
theorem d_La_law_598 : decode c_La_law 598 = .ok (.iadd, 1) := by decide +kernel
theorem d_La_law_599 : decode c_La_law 599 = .ok (.iaload, 1) := by decide +kernel
theorem d_La_law_600 : decode c_La_law 600 = .ok (.aload_n 0, 1) := by decide +kernel
theorem d_La_law_601 : decode c_La_law 601 = .ok (.iload 4, 2) := by decide +kernel
theorem d_La_law_603 : decode c_La_law 603 = .ok (.iconst 2, 1) := by decide +kernel
theorem d_La_law_604 : decode c_La_law 604 = .ok (.iadd, 1) := by decide +kernel
theorem d_La_law_605 : decode c_La_law 605 = .ok (.iaload, 1) := by decide +kernel
theorem d_La_law_606 : decode c_La_law 606 = .ok (.invokevirtual 88, 3) := by decide +kernel
theorem d_La_law_609 : decode c_La_law 609 = .ok (.istore 6, 2) := by decide +kernel
theorem d_La_law_611 : decode c_La_law 611 = .ok (.aload_n 2, 1) := by decide +kernel
theorem d_La_law_612 : decode c_La_law 612 = .ok (.invokevirtual 54, 3) := by decide +kernel
theorem d_La_law_615 : decode c_La_law 615 = .ok (.iload 5, 2) := by decide +kernel
theorem d_La_law_617 : decode c_La_law 617 = .ok (.if_icmp .eq 5, 3) := by decide +kernel
theorem d_La_law_620 : decode c_La_law 620 = .ok (.iconst 0, 1) := by decide +kernel
theorem d_La_law_621 : decode c_La_law 621 = .ok (.ireturn, 1) := by decide +kernel
theorem d_La_law_622 : decode c_La_law 622 = .ok (.iload 5, 2) := by decide +kernel
theorem d_La_law_624 : decode c_La_law 624 = .ok (.ifCond .ne 15, 3) := by decide +kernel
theorem d_La_law_627 : decode c_La_law 627 = .ok (.aload_n 3, 1) := by decide +kernel
theorem d_La_law_628 : decode c_La_law 628 = .ok (.iconst 0, 1) := by decide +kernel
theorem d_La_law_629 : decode c_La_law 629 = .ok (.laload, 1) := by decide +kernel
theorem d_La_law_630 : decode c_La_law 630 = .ok (.iload 6, 2) := by decide +kernel
theorem d_La_law_632 : decode c_La_law 632 = .ok (.i2l, 1) := by decide +kernel
theorem d_La_law_633 : decode c_La_law 633 = .ok (.lcmp, 1) := by decide +kernel
theorem d_La_law_634 : decode c_La_law 634 = .ok (.ifCond .eq 5, 3) := by decide +kernel
theorem d_La_law_637 : decode c_La_law 637 = .ok (.iconst 0, 1) := by decide +kernel
theorem d_La_law_638 : decode c_La_law 638 = .ok (.ireturn, 1) := by decide +kernel
theorem d_La_law_639 : decode c_La_law 639 = .ok (.goto 71, 3) := by decide +kernel
theorem d_La_law_642 : decode c_La_law 642 = .ok (.aload_n 1, 1) := by decide +kernel
theorem d_La_law_643 : decode c_La_law 643 = .ok (.aload_n 0, 1) := by decide +kernel
theorem d_La_law_644 : decode c_La_law 644 = .ok (.iload 4, 2) := by decide +kernel
theorem d_La_law_646 : decode c_La_law 646 = .ok (.iconst 1, 1) := by decide +kernel
theorem d_La_law_647 : decode c_La_law 647 = .ok (.iadd, 1) := by decide +kernel
theorem d_La_law_648 : decode c_La_law 648 = .ok (.iaload, 1) := by decide +kernel
theorem d_La_law_649 : decode c_La_law 649 = .ok (.aload_n 0, 1) := by decide +kernel
theorem d_La_law_650 : decode c_La_law 650 = .ok (.iload 4, 2) := by decide +kernel
theorem d_La_law_652 : decode c_La_law 652 = .ok (.iconst 2, 1) := by decide +kernel
theorem d_La_law_653 : decode c_La_law 653 = .ok (.iadd, 1) := by decide +kernel
theorem d_La_law_654 : decode c_La_law 654 = .ok (.iaload, 1) := by decide +kernel
theorem d_La_law_655 : decode c_La_law 655 = .ok (.aload_n 3, 1) := by decide +kernel
theorem d_La_law_656 : decode c_La_law 656 = .ok (.invokestatic 89, 3) := by decide +kernel
theorem d_La_law_659 : decode c_La_law 659 = .ok (.istore 5, 2) := by decide +kernel
theorem d_La_law_661 : decode c_La_law 661 = .ok (.aload_n 2, 1) := by decide +kernel
theorem d_La_law_662 : decode c_La_law 662 = .ok (.aload_n 0, 1) := by decide +kernel
theorem d_La_law_663 : decode c_La_law 663 = .ok (.iload 4, 2) := by decide +kernel
theorem d_La_law_665 : decode c_La_law 665 = .ok (.iconst 1, 1) := by decide +kernel
theorem d_La_law_666 : decode c_La_law 666 = .ok (.iadd, 1) := by decide +kernel
theorem d_La_law_667 : decode c_La_law 667 = .ok (.iaload, 1) := by decide +kernel
theorem d_La_law_668 : decode c_La_law 668 = .ok (.aload_n 0, 1) := by decide +kernel
theorem d_La_law_669 : decode c_La_law 669 = .ok (.iload 4, 2) := by decide +kernel
theorem d_La_law_671 : decode c_La_law 671 = .ok (.iconst 2, 1) := by decide +kernel
theorem d_La_law_672 : decode c_La_law 672 = .ok (.iadd, 1) := by decide +kernel
theorem d_La_law_673 : decode c_La_law 673 = .ok (.iaload, 1) := by decide +kernel
theorem d_La_law_674 : decode c_La_law 674 = .ok (.invokevirtual 91, 3) := by decide +kernel
theorem d_La_law_677 : decode c_La_law 677 = .ok (.istore 6, 2) := by decide +kernel
theorem d_La_law_679 : decode c_La_law 679 = .ok (.aload_n 2, 1) := by decide +kernel
theorem d_La_law_680 : decode c_La_law 680 = .ok (.invokevirtual 54, 3) := by decide +kernel
theorem d_La_law_683 : decode c_La_law 683 = .ok (.iload 5, 2) := by decide +kernel
theorem d_La_law_685 : decode c_La_law 685 = .ok (.if_icmp .eq 5, 3) := by decide +kernel
theorem d_La_law_688 : decode c_La_law 688 = .ok (.iconst 0, 1) := by decide +kernel
theorem d_La_law_689 : decode c_La_law 689 = .ok (.ireturn, 1) := by decide +kernel
theorem d_La_law_690 : decode c_La_law 690 = .ok (.iload 5, 2) := by decide +kernel
theorem d_La_law_692 : decode c_La_law 692 = .ok (.ifCond .ne 15, 3) := by decide +kernel
theorem d_La_law_695 : decode c_La_law 695 = .ok (.aload_n 3, 1) := by decide +kernel
theorem d_La_law_696 : decode c_La_law 696 = .ok (.iconst 0, 1) := by decide +kernel
theorem d_La_law_697 : decode c_La_law 697 = .ok (.laload, 1) := by decide +kernel
theorem d_La_law_698 : decode c_La_law 698 = .ok (.iload 6, 2) := by decide +kernel
theorem d_La_law_700 : decode c_La_law 700 = .ok (.i2l, 1) := by decide +kernel
theorem d_La_law_701 : decode c_La_law 701 = .ok (.lcmp, 1) := by decide +kernel
theorem d_La_law_702 : decode c_La_law 702 = .ok (.ifCond .eq 5, 3) := by decide +kernel
theorem d_La_law_705 : decode c_La_law 705 = .ok (.iconst 0, 1) := by decide +kernel
theorem d_La_law_706 : decode c_La_law 706 = .ok (.ireturn, 1) := by decide +kernel
theorem d_La_law_707 : decode c_La_law 707 = .ok (.goto 3, 3) := by decide +kernel
theorem d_La_law_710 : decode c_La_law 710 = .ok (.iinc 4 6, 3) := by decide +kernel
theorem d_La_law_713 : decode c_La_law 713 = .ok (.goto (-690), 3) := by decide +kernel
theorem d_La_law_716 : decode c_La_law 716 = .ok (.iconst 1, 1) := by decide +kernel
theorem d_La_law_717 : decode c_La_law 717 = .ok (.ireturn, 1) := by decide +kernel
def pf_La_law_23 (fu : Nat) (L : Nat) (xs : Nat → Int32) (x_store_temporaries_many : Int32) (x_store_ins_many : Int32) (x_store_outs_many : Int32) (x_store_uniforms_many : Int32) (x_store_textures_many : Int32) (x_store_nothing_many : Int32) (f_x_store_nothing_parts : Nat → Int32) (q_x_current : Nat) (q_x_spare : Nat) : Nat → Int32 → Nat → Nat → (Nat → Int32) → (Nat → Int32) → (Nat → Int32) → (Nat → Int32) → (Nat → Int32) → (Nat → Int32) → Int32 → Int32 → Int64 → (Nat → Int32) → Int32 → (Nat → Int32) → (Nat → Int64) → Int32 → Int32 → (Nat → Int32) → (Nat → Int32) → (Nat → Int32) → (Nat → Int32) → Int32 → (Nat → Int32) → (Nat → Int64) → Int32 → (Nat → Int32) → Int32 → (Nat → Int32) → Int32 → Int32 → Int32 → Int32 → Int32 → Int32 → (Nat → Int32) → (Nat → Int32) → (Nat → Int32) → (Nat → Int32) → (Nat → Int32) → (Nat → Int32) → (Nat → Int32) → (Nat → Int32) → (Nat → Int32) → (Nat → Int32) → (Nat → Int32) → (Nat → Int32) → (Nat → Int64) → Option (Int32)
  | 0, _, _, _, _, _, _, _, _, _, _, _, _, _, _, _, _, _, _, _, _, _, _, _, _, _, _, _, _, _, _, _, _, _, _, _, _, _, _, _, _, _, _, _, _, _, _, _, _ => none
  | n + 1, x4, g_q_x_current, g_q_x_spare, g_f_x_store_memory, g_f_x_store_temporaries_parts, g_f_x_store_ins_parts, g_f_x_store_outs_parts, g_f_x_store_uniforms_parts, g_f_x_store_textures_parts, g_x_check_fault, g_x_check_place, g_x_check_steps, g_f_x_check_loopOf, g_x_check_loops_depth, g_f_x_check_loops_places, g_f_x_check_loops_counts, g_x_runner_place, g_x_runner_isKilled, g_f_x_runner_a, g_f_x_runner_b, g_f_x_runner_c, g_f_x_runner_result, g_x_runner_loops_depth, g_f_x_runner_loops_places, g_f_x_runner_loops_counts, g_x_current_many, g_f_x_current_words, g_x_spare_many, g_f_x_spare_words, g_m_thrown, g_m_killed, g_m_hasProgram, g_m_fault, g_m_place, g_m_told, g_f_m_memory, g_f_m_program, g_f_m_fresh, g_f_m_temporaries, g_f_m_ins, g_f_m_outs, g_f_m_uniforms, g_f_m_textures, g_f_m_read, g_f_m_result, g_f_m_left, g_f_m_opening, g_f_w =>
    if g_q_x_current = q_x_current ∧ g_q_x_spare = q_x_spare then
      if ((Int32.ofNat L) - (6 : Int32)) < x4 then
        some (1 : Int32)
      else
        if (0 : Int32) ≤ x4 ∧ x4.toNatClampNeg < L then (
        if ((xs x4.toNatClampNeg) &&& (15 : Int32)) < 0 ∨ 9 < ((xs x4.toNatClampNeg) &&& (15 : Int32)) then
          pf_La_law_23 fu L xs x_store_temporaries_many x_store_ins_many x_store_outs_many x_store_uniforms_many x_store_textures_many x_store_nothing_many f_x_store_nothing_parts q_x_current q_x_spare n (x4 + 6) q_x_current q_x_spare g_f_x_store_memory g_f_x_store_temporaries_parts g_f_x_store_ins_parts g_f_x_store_outs_parts g_f_x_store_uniforms_parts g_f_x_store_textures_parts g_x_check_fault g_x_check_place g_x_check_steps g_f_x_check_loopOf g_x_check_loops_depth g_f_x_check_loops_places g_f_x_check_loops_counts g_x_runner_place g_x_runner_isKilled g_f_x_runner_a g_f_x_runner_b g_f_x_runner_c g_f_x_runner_result g_x_runner_loops_depth g_f_x_runner_loops_places g_f_x_runner_loops_counts g_x_current_many g_f_x_current_words g_x_spare_many g_f_x_spare_words g_m_thrown g_m_killed g_m_hasProgram g_m_fault g_m_place g_m_told g_f_m_memory g_f_m_program g_f_m_fresh g_f_m_temporaries g_f_m_ins g_f_m_outs g_f_m_uniforms g_f_m_textures g_f_m_read g_f_m_result g_f_m_left g_f_m_opening g_f_w
        else
        if ((xs x4.toNatClampNeg) &&& (15 : Int32)) = 0 then
          if (0 : Int32) ≤ (x4 + (1 : Int32)) ∧ (x4 + (1 : Int32)).toNatClampNeg < L then (
          if (0 : Int32) ≤ (x4 + (2 : Int32)) ∧ (x4 + (2 : Int32)).toNatClampNeg < L then (
          Option.bind (pf_La_poke (xs (x4 + (1 : Int32)).toNatClampNeg) (xs (x4 + (2 : Int32)).toNatClampNeg) 1024 g_f_x_store_memory) (fun (r_9, w_10) => 
          Option.bind (pf_Mo_poke (xs (x4 + (1 : Int32)).toNatClampNeg) (xs (x4 + (2 : Int32)).toNatClampNeg) 1024 g_f_m_memory) (fun (w_12, w_13) => 
          Option.bind (pf_Mo_thrown w_12) (fun r_15 => 
          if r_15 = r_9 then
            pf_La_law_23 fu L xs x_store_temporaries_many x_store_ins_many x_store_outs_many x_store_uniforms_many x_store_textures_many x_store_nothing_many f_x_store_nothing_parts q_x_current q_x_spare n (x4 + 6) q_x_current q_x_spare w_10 g_f_x_store_temporaries_parts g_f_x_store_ins_parts g_f_x_store_outs_parts g_f_x_store_uniforms_parts g_f_x_store_textures_parts g_x_check_fault g_x_check_place g_x_check_steps g_f_x_check_loopOf g_x_check_loops_depth g_f_x_check_loops_places g_f_x_check_loops_counts g_x_runner_place g_x_runner_isKilled g_f_x_runner_a g_f_x_runner_b g_f_x_runner_c g_f_x_runner_result g_x_runner_loops_depth g_f_x_runner_loops_places g_f_x_runner_loops_counts g_x_current_many g_f_x_current_words g_x_spare_many g_f_x_spare_words w_12 g_m_killed g_m_hasProgram g_m_fault g_m_place g_m_told w_13 g_f_m_program g_f_m_fresh g_f_m_temporaries g_f_m_ins g_f_m_outs g_f_m_uniforms g_f_m_textures g_f_m_read g_f_m_result g_f_m_left g_f_m_opening g_f_w
          else
            some (0 : Int32))))) else none) else none
        else
        if ((xs x4.toNatClampNeg) &&& (15 : Int32)) = 1 then
          if (0 : Int32) ≤ (x4 + (1 : Int32)) ∧ (x4 + (1 : Int32)).toNatClampNeg < L then (
          if (0 : Int32) ≤ (x4 + (2 : Int32)) ∧ (x4 + (2 : Int32)).toNatClampNeg < L then (
          if (0 : Int32) ≤ (x4 + (3 : Int32)) ∧ (x4 + (3 : Int32)).toNatClampNeg < L then (
          if (xs (x4 + (3 : Int32)).toNatClampNeg) = 0 then
            Option.bind (pf_La_load fu (xs (x4 + (1 : Int32)).toNatClampNeg) (xs (x4 + (2 : Int32)).toNatClampNeg) (0 : Int32) g_x_spare_many 1024 g_f_x_store_memory 768 g_f_x_spare_words g_x_check_fault g_x_check_place g_x_check_steps g_x_check_loops_depth 256 g_f_x_check_loopOf 4 g_f_x_check_loops_places 4 g_f_x_check_loops_counts 1 g_f_w q_x_current q_x_spare) (fun (r_23, w_24, w_25, w_26, w_27, w_28, w_29, w_30, w_31, w_32, w_33, w_34, w_35) => 
            Option.bind (pf_Mo_load fu (xs (x4 + (1 : Int32)).toNatClampNeg) (xs (x4 + (2 : Int32)).toNatClampNeg) (0 : Int32) g_m_hasProgram g_m_fault g_m_place 768 g_f_m_fresh 1024 g_f_m_memory 768 g_f_m_program 256 g_f_m_opening) (fun (r_37, w_38, w_39, w_40, w_41, w_42, w_43, w_44) => 
            Option.bind (pf_Mo_thrown w_38) (fun r_46 => 
            if r_46 = r_23 then
              if r_23 = 0 then
                if (0 : Int32) ≤ (0 : Int32) ∧ (0 : Int32).toNatClampNeg < 1 then (
                if (lg_cmp (w_35 (0 : Int32).toNatClampNeg) r_37.toInt64) = 0 then
                  pf_La_law_23 fu L xs x_store_temporaries_many x_store_ins_many x_store_outs_many x_store_uniforms_many x_store_textures_many x_store_nothing_many f_x_store_nothing_parts q_x_current q_x_spare n (x4 + 6) w_24 w_25 g_f_x_store_memory g_f_x_store_temporaries_parts g_f_x_store_ins_parts g_f_x_store_outs_parts g_f_x_store_uniforms_parts g_f_x_store_textures_parts w_28 w_29 w_30 w_32 w_31 w_33 w_34 g_x_runner_place g_x_runner_isKilled g_f_x_runner_a g_f_x_runner_b g_f_x_runner_c g_f_x_runner_result g_x_runner_loops_depth g_f_x_runner_loops_places g_f_x_runner_loops_counts g_x_current_many g_f_x_current_words w_26 w_27 w_38 g_m_killed w_39 w_40 w_41 g_m_told g_f_m_memory w_43 w_42 g_f_m_temporaries g_f_m_ins g_f_m_outs g_f_m_uniforms g_f_m_textures g_f_m_read g_f_m_result g_f_m_left w_44 w_35
                else
                  some (0 : Int32)) else none
              else
                pf_La_law_23 fu L xs x_store_temporaries_many x_store_ins_many x_store_outs_many x_store_uniforms_many x_store_textures_many x_store_nothing_many f_x_store_nothing_parts q_x_current q_x_spare n (x4 + 6) w_24 w_25 g_f_x_store_memory g_f_x_store_temporaries_parts g_f_x_store_ins_parts g_f_x_store_outs_parts g_f_x_store_uniforms_parts g_f_x_store_textures_parts w_28 w_29 w_30 w_32 w_31 w_33 w_34 g_x_runner_place g_x_runner_isKilled g_f_x_runner_a g_f_x_runner_b g_f_x_runner_c g_f_x_runner_result g_x_runner_loops_depth g_f_x_runner_loops_places g_f_x_runner_loops_counts g_x_current_many g_f_x_current_words w_26 w_27 w_38 g_m_killed w_39 w_40 w_41 g_m_told g_f_m_memory w_43 w_42 g_f_m_temporaries g_f_m_ins g_f_m_outs g_f_m_uniforms g_f_m_textures g_f_m_read g_f_m_result g_f_m_left w_44 w_35
            else
              some (0 : Int32))))
          else
            Option.bind (pf_La_load fu (xs (x4 + (1 : Int32)).toNatClampNeg) (xs (x4 + (2 : Int32)).toNatClampNeg) (1 : Int32) g_x_spare_many 1024 g_f_x_store_memory 768 g_f_x_spare_words g_x_check_fault g_x_check_place g_x_check_steps g_x_check_loops_depth 256 g_f_x_check_loopOf 4 g_f_x_check_loops_places 4 g_f_x_check_loops_counts 1 g_f_w q_x_current q_x_spare) (fun (r_52, w_53, w_54, w_55, w_56, w_57, w_58, w_59, w_60, w_61, w_62, w_63, w_64) => 
            Option.bind (pf_Mo_load fu (xs (x4 + (1 : Int32)).toNatClampNeg) (xs (x4 + (2 : Int32)).toNatClampNeg) (1 : Int32) g_m_hasProgram g_m_fault g_m_place 768 g_f_m_fresh 1024 g_f_m_memory 768 g_f_m_program 256 g_f_m_opening) (fun (r_66, w_67, w_68, w_69, w_70, w_71, w_72, w_73) => 
            Option.bind (pf_Mo_thrown w_67) (fun r_75 => 
            if r_75 = r_52 then
              if r_52 = 0 then
                if (0 : Int32) ≤ (0 : Int32) ∧ (0 : Int32).toNatClampNeg < 1 then (
                if (lg_cmp (w_64 (0 : Int32).toNatClampNeg) r_66.toInt64) = 0 then
                  pf_La_law_23 fu L xs x_store_temporaries_many x_store_ins_many x_store_outs_many x_store_uniforms_many x_store_textures_many x_store_nothing_many f_x_store_nothing_parts q_x_current q_x_spare n (x4 + 6) w_53 w_54 g_f_x_store_memory g_f_x_store_temporaries_parts g_f_x_store_ins_parts g_f_x_store_outs_parts g_f_x_store_uniforms_parts g_f_x_store_textures_parts w_57 w_58 w_59 w_61 w_60 w_62 w_63 g_x_runner_place g_x_runner_isKilled g_f_x_runner_a g_f_x_runner_b g_f_x_runner_c g_f_x_runner_result g_x_runner_loops_depth g_f_x_runner_loops_places g_f_x_runner_loops_counts g_x_current_many g_f_x_current_words w_55 w_56 w_67 g_m_killed w_68 w_69 w_70 g_m_told g_f_m_memory w_72 w_71 g_f_m_temporaries g_f_m_ins g_f_m_outs g_f_m_uniforms g_f_m_textures g_f_m_read g_f_m_result g_f_m_left w_73 w_64
                else
                  some (0 : Int32)) else none
              else
                pf_La_law_23 fu L xs x_store_temporaries_many x_store_ins_many x_store_outs_many x_store_uniforms_many x_store_textures_many x_store_nothing_many f_x_store_nothing_parts q_x_current q_x_spare n (x4 + 6) w_53 w_54 g_f_x_store_memory g_f_x_store_temporaries_parts g_f_x_store_ins_parts g_f_x_store_outs_parts g_f_x_store_uniforms_parts g_f_x_store_textures_parts w_57 w_58 w_59 w_61 w_60 w_62 w_63 g_x_runner_place g_x_runner_isKilled g_f_x_runner_a g_f_x_runner_b g_f_x_runner_c g_f_x_runner_result g_x_runner_loops_depth g_f_x_runner_loops_places g_f_x_runner_loops_counts g_x_current_many g_f_x_current_words w_55 w_56 w_67 g_m_killed w_68 w_69 w_70 g_m_told g_f_m_memory w_72 w_71 g_f_m_temporaries g_f_m_ins g_f_m_outs g_f_m_uniforms g_f_m_textures g_f_m_read g_f_m_result g_f_m_left w_73 w_64
            else
              some (0 : Int32))))) else none) else none) else none
        else
        if ((xs x4.toNatClampNeg) &&& (15 : Int32)) = 2 then
          if (0 : Int32) ≤ (x4 + (1 : Int32)) ∧ (x4 + (1 : Int32)).toNatClampNeg < L then (
          Option.bind (pf_SM_fault (xs (x4 + (1 : Int32)).toNatClampNeg) g_x_check_fault g_x_check_place) (fun r_83 => 
          Option.bind (pf_Mo_fault (xs (x4 + (1 : Int32)).toNatClampNeg) g_m_fault g_m_place) (fun (r_85, w_86) => 
          if r_83 = r_85 then
            pf_La_law_23 fu L xs x_store_temporaries_many x_store_ins_many x_store_outs_many x_store_uniforms_many x_store_textures_many x_store_nothing_many f_x_store_nothing_parts q_x_current q_x_spare n (x4 + 6) q_x_current q_x_spare g_f_x_store_memory g_f_x_store_temporaries_parts g_f_x_store_ins_parts g_f_x_store_outs_parts g_f_x_store_uniforms_parts g_f_x_store_textures_parts g_x_check_fault g_x_check_place g_x_check_steps g_f_x_check_loopOf g_x_check_loops_depth g_f_x_check_loops_places g_f_x_check_loops_counts g_x_runner_place g_x_runner_isKilled g_f_x_runner_a g_f_x_runner_b g_f_x_runner_c g_f_x_runner_result g_x_runner_loops_depth g_f_x_runner_loops_places g_f_x_runner_loops_counts g_x_current_many g_f_x_current_words g_x_spare_many g_f_x_spare_words w_86 g_m_killed g_m_hasProgram g_m_fault g_m_place g_m_told g_f_m_memory g_f_m_program g_f_m_fresh g_f_m_temporaries g_f_m_ins g_f_m_outs g_f_m_uniforms g_f_m_textures g_f_m_read g_f_m_result g_f_m_left g_f_m_opening g_f_w
          else
            some (0 : Int32)))) else none
        else
        if ((xs x4.toNatClampNeg) &&& (15 : Int32)) = 3 then
          if (0 : Int32) ≤ (x4 + (1 : Int32)) ∧ (x4 + (1 : Int32)).toNatClampNeg < L then (
          if (0 : Int32) ≤ (x4 + (2 : Int32)) ∧ (x4 + (2 : Int32)).toNatClampNeg < L then (
          if (0 : Int32) ≤ (x4 + (3 : Int32)) ∧ (x4 + (3 : Int32)).toNatClampNeg < L then (
          if (0 : Int32) ≤ (x4 + (4 : Int32)) ∧ (x4 + (4 : Int32)).toNatClampNeg < L then (
          if (0 : Int32) ≤ (x4 + (5 : Int32)) ∧ (x4 + (5 : Int32)).toNatClampNeg < L then (
          Option.bind (pf_La_in (xs (x4 + (1 : Int32)).toNatClampNeg) (xs (x4 + (2 : Int32)).toNatClampNeg) (xs (x4 + (3 : Int32)).toNatClampNeg) (xs (x4 + (4 : Int32)).toNatClampNeg) (xs (x4 + (5 : Int32)).toNatClampNeg) x_store_ins_many 32 g_f_x_store_ins_parts) (fun (r_95, w_96) => 
          Option.bind (pf_Mo_in (xs (x4 + (1 : Int32)).toNatClampNeg) (xs (x4 + (2 : Int32)).toNatClampNeg) (xs (x4 + (3 : Int32)).toNatClampNeg) (xs (x4 + (4 : Int32)).toNatClampNeg) (xs (x4 + (5 : Int32)).toNatClampNeg) 32 g_f_m_ins) (fun (w_98, w_99) => 
          Option.bind (pf_Mo_thrown w_98) (fun r_101 => 
          if r_101 = r_95 then
            pf_La_law_23 fu L xs x_store_temporaries_many x_store_ins_many x_store_outs_many x_store_uniforms_many x_store_textures_many x_store_nothing_many f_x_store_nothing_parts q_x_current q_x_spare n (x4 + 6) q_x_current q_x_spare g_f_x_store_memory g_f_x_store_temporaries_parts w_96 g_f_x_store_outs_parts g_f_x_store_uniforms_parts g_f_x_store_textures_parts g_x_check_fault g_x_check_place g_x_check_steps g_f_x_check_loopOf g_x_check_loops_depth g_f_x_check_loops_places g_f_x_check_loops_counts g_x_runner_place g_x_runner_isKilled g_f_x_runner_a g_f_x_runner_b g_f_x_runner_c g_f_x_runner_result g_x_runner_loops_depth g_f_x_runner_loops_places g_f_x_runner_loops_counts g_x_current_many g_f_x_current_words g_x_spare_many g_f_x_spare_words w_98 g_m_killed g_m_hasProgram g_m_fault g_m_place g_m_told g_f_m_memory g_f_m_program g_f_m_fresh g_f_m_temporaries w_99 g_f_m_outs g_f_m_uniforms g_f_m_textures g_f_m_read g_f_m_result g_f_m_left g_f_m_opening g_f_w
          else
            some (0 : Int32))))) else none) else none) else none) else none) else none
        else
        if ((xs x4.toNatClampNeg) &&& (15 : Int32)) = 4 then
          if (0 : Int32) ≤ (x4 + (1 : Int32)) ∧ (x4 + (1 : Int32)).toNatClampNeg < L then (
          if (0 : Int32) ≤ (x4 + (2 : Int32)) ∧ (x4 + (2 : Int32)).toNatClampNeg < L then (
          if (0 : Int32) ≤ (x4 + (3 : Int32)) ∧ (x4 + (3 : Int32)).toNatClampNeg < L then (
          if (0 : Int32) ≤ (x4 + (4 : Int32)) ∧ (x4 + (4 : Int32)).toNatClampNeg < L then (
          if (0 : Int32) ≤ (x4 + (5 : Int32)) ∧ (x4 + (5 : Int32)).toNatClampNeg < L then (
          Option.bind (pf_La_uniform (xs (x4 + (1 : Int32)).toNatClampNeg) (xs (x4 + (2 : Int32)).toNatClampNeg) (xs (x4 + (3 : Int32)).toNatClampNeg) (xs (x4 + (4 : Int32)).toNatClampNeg) (xs (x4 + (5 : Int32)).toNatClampNeg) x_store_uniforms_many 128 g_f_x_store_uniforms_parts) (fun (r_110, w_111) => 
          Option.bind (pf_Mo_uniform (xs (x4 + (1 : Int32)).toNatClampNeg) (xs (x4 + (2 : Int32)).toNatClampNeg) (xs (x4 + (3 : Int32)).toNatClampNeg) (xs (x4 + (4 : Int32)).toNatClampNeg) (xs (x4 + (5 : Int32)).toNatClampNeg) 128 g_f_m_uniforms) (fun (w_113, w_114) => 
          Option.bind (pf_Mo_thrown w_113) (fun r_116 => 
          if r_116 = r_110 then
            pf_La_law_23 fu L xs x_store_temporaries_many x_store_ins_many x_store_outs_many x_store_uniforms_many x_store_textures_many x_store_nothing_many f_x_store_nothing_parts q_x_current q_x_spare n (x4 + 6) q_x_current q_x_spare g_f_x_store_memory g_f_x_store_temporaries_parts g_f_x_store_ins_parts g_f_x_store_outs_parts w_111 g_f_x_store_textures_parts g_x_check_fault g_x_check_place g_x_check_steps g_f_x_check_loopOf g_x_check_loops_depth g_f_x_check_loops_places g_f_x_check_loops_counts g_x_runner_place g_x_runner_isKilled g_f_x_runner_a g_f_x_runner_b g_f_x_runner_c g_f_x_runner_result g_x_runner_loops_depth g_f_x_runner_loops_places g_f_x_runner_loops_counts g_x_current_many g_f_x_current_words g_x_spare_many g_f_x_spare_words w_113 g_m_killed g_m_hasProgram g_m_fault g_m_place g_m_told g_f_m_memory g_f_m_program g_f_m_fresh g_f_m_temporaries g_f_m_ins g_f_m_outs w_114 g_f_m_textures g_f_m_read g_f_m_result g_f_m_left g_f_m_opening g_f_w
          else
            some (0 : Int32))))) else none) else none) else none) else none) else none
        else
        if ((xs x4.toNatClampNeg) &&& (15 : Int32)) = 5 then
          if (0 : Int32) ≤ (x4 + (1 : Int32)) ∧ (x4 + (1 : Int32)).toNatClampNeg < L then (
          if (0 : Int32) ≤ (x4 + (2 : Int32)) ∧ (x4 + (2 : Int32)).toNatClampNeg < L then (
          if (0 : Int32) ≤ (x4 + (3 : Int32)) ∧ (x4 + (3 : Int32)).toNatClampNeg < L then (
          if (0 : Int32) ≤ (x4 + (4 : Int32)) ∧ (x4 + (4 : Int32)).toNatClampNeg < L then (
          if (0 : Int32) ≤ (x4 + (5 : Int32)) ∧ (x4 + (5 : Int32)).toNatClampNeg < L then (
          Option.bind (pf_La_texture (xs (x4 + (1 : Int32)).toNatClampNeg) (xs (x4 + (2 : Int32)).toNatClampNeg) (xs (x4 + (3 : Int32)).toNatClampNeg) (xs (x4 + (4 : Int32)).toNatClampNeg) (xs (x4 + (5 : Int32)).toNatClampNeg) x_store_textures_many 16 g_f_x_store_textures_parts) (fun (r_125, w_126) => 
          Option.bind (pf_Mo_texture (xs (x4 + (1 : Int32)).toNatClampNeg) (xs (x4 + (2 : Int32)).toNatClampNeg) (xs (x4 + (3 : Int32)).toNatClampNeg) (xs (x4 + (4 : Int32)).toNatClampNeg) (xs (x4 + (5 : Int32)).toNatClampNeg) 16 g_f_m_textures) (fun (w_128, w_129) => 
          Option.bind (pf_Mo_thrown w_128) (fun r_131 => 
          if r_131 = r_125 then
            pf_La_law_23 fu L xs x_store_temporaries_many x_store_ins_many x_store_outs_many x_store_uniforms_many x_store_textures_many x_store_nothing_many f_x_store_nothing_parts q_x_current q_x_spare n (x4 + 6) q_x_current q_x_spare g_f_x_store_memory g_f_x_store_temporaries_parts g_f_x_store_ins_parts g_f_x_store_outs_parts g_f_x_store_uniforms_parts w_126 g_x_check_fault g_x_check_place g_x_check_steps g_f_x_check_loopOf g_x_check_loops_depth g_f_x_check_loops_places g_f_x_check_loops_counts g_x_runner_place g_x_runner_isKilled g_f_x_runner_a g_f_x_runner_b g_f_x_runner_c g_f_x_runner_result g_x_runner_loops_depth g_f_x_runner_loops_places g_f_x_runner_loops_counts g_x_current_many g_f_x_current_words g_x_spare_many g_f_x_spare_words w_128 g_m_killed g_m_hasProgram g_m_fault g_m_place g_m_told g_f_m_memory g_f_m_program g_f_m_fresh g_f_m_temporaries g_f_m_ins g_f_m_outs g_f_m_uniforms w_129 g_f_m_read g_f_m_result g_f_m_left g_f_m_opening g_f_w
          else
            some (0 : Int32))))) else none) else none) else none) else none) else none
        else
        if ((xs x4.toNatClampNeg) &&& (15 : Int32)) = 6 then
          Option.bind (pf_La_run fu g_x_current_many g_x_runner_place g_x_runner_isKilled x_store_temporaries_many 64 g_f_x_store_temporaries_parts x_store_outs_many 32 g_f_x_store_outs_parts g_x_runner_loops_depth 768 g_f_x_current_words x_store_nothing_many 4 g_f_x_runner_c 0 f_x_store_nothing_parts x_store_ins_many 32 g_f_x_store_ins_parts x_store_uniforms_many 128 g_f_x_store_uniforms_parts 4 g_f_x_runner_b 4 g_f_x_runner_a 4 g_f_x_runner_loops_places 4 g_f_x_runner_loops_counts 4 g_f_x_runner_result 1024 g_f_x_store_memory x_store_textures_many 16 g_f_x_store_textures_parts 1 g_f_w) (fun (r_135, w_136, w_137, w_138, w_139, w_140, w_141, w_142, w_143, w_144, w_145, w_146, w_147) => 
          Option.bind (pf_Mo_run fu g_m_hasProgram g_m_told g_m_killed 64 g_f_m_temporaries 32 g_f_m_outs 768 g_f_m_program 256 g_f_m_left 256 g_f_m_opening 12 g_f_m_read 16 g_f_m_textures 128 g_f_m_uniforms 1024 g_f_m_memory 4 g_f_m_result 32 g_f_m_ins) (fun (r_149, w_150, w_151, w_152, w_153, w_154, w_155, w_156, w_157) => 
          Option.bind (pf_Mo_thrown w_150) (fun r_159 => 
          if r_159 = r_135 then
            if r_135 = 0 then
              if (0 : Int32) ≤ (0 : Int32) ∧ (0 : Int32).toNatClampNeg < 1 then (
              if (lg_cmp (w_147 (0 : Int32).toNatClampNeg) r_149.toInt64) = 0 then
                pf_La_law_23 fu L xs x_store_temporaries_many x_store_ins_many x_store_outs_many x_store_uniforms_many x_store_textures_many x_store_nothing_many f_x_store_nothing_parts q_x_current q_x_spare n (x4 + 6) q_x_current q_x_spare g_f_x_store_memory w_138 g_f_x_store_ins_parts w_139 g_f_x_store_uniforms_parts g_f_x_store_textures_parts g_x_check_fault g_x_check_place g_x_check_steps g_f_x_check_loopOf g_x_check_loops_depth g_f_x_check_loops_places g_f_x_check_loops_counts w_136 w_137 w_143 w_142 w_141 w_146 w_140 w_144 w_145 g_x_current_many g_f_x_current_words g_x_spare_many g_f_x_spare_words w_150 w_151 g_m_hasProgram g_m_fault g_m_place w_152 g_f_m_memory g_f_m_program g_f_m_fresh w_153 g_f_m_ins w_154 g_f_m_uniforms g_f_m_textures w_156 w_157 w_155 g_f_m_opening w_147
              else
                some (0 : Int32)) else none
            else
              pf_La_law_23 fu L xs x_store_temporaries_many x_store_ins_many x_store_outs_many x_store_uniforms_many x_store_textures_many x_store_nothing_many f_x_store_nothing_parts q_x_current q_x_spare n (x4 + 6) q_x_current q_x_spare g_f_x_store_memory w_138 g_f_x_store_ins_parts w_139 g_f_x_store_uniforms_parts g_f_x_store_textures_parts g_x_check_fault g_x_check_place g_x_check_steps g_f_x_check_loopOf g_x_check_loops_depth g_f_x_check_loops_places g_f_x_check_loops_counts w_136 w_137 w_143 w_142 w_141 w_146 w_140 w_144 w_145 g_x_current_many g_f_x_current_words g_x_spare_many g_f_x_spare_words w_150 w_151 g_m_hasProgram g_m_fault g_m_place w_152 g_f_m_memory g_f_m_program g_f_m_fresh w_153 g_f_m_ins w_154 g_f_m_uniforms g_f_m_textures w_156 w_157 w_155 g_f_m_opening w_147
          else
            some (0 : Int32))))
        else
        if ((xs x4.toNatClampNeg) &&& (15 : Int32)) = 7 then
          Option.bind (pf_SM_killed g_x_runner_isKilled) (fun r_166 => 
          Option.bind (pf_Mo_killed g_m_killed) (fun (r_168, w_169) => 
          if r_166 = r_168 then
            pf_La_law_23 fu L xs x_store_temporaries_many x_store_ins_many x_store_outs_many x_store_uniforms_many x_store_textures_many x_store_nothing_many f_x_store_nothing_parts q_x_current q_x_spare n (x4 + 6) q_x_current q_x_spare g_f_x_store_memory g_f_x_store_temporaries_parts g_f_x_store_ins_parts g_f_x_store_outs_parts g_f_x_store_uniforms_parts g_f_x_store_textures_parts g_x_check_fault g_x_check_place g_x_check_steps g_f_x_check_loopOf g_x_check_loops_depth g_f_x_check_loops_places g_f_x_check_loops_counts g_x_runner_place g_x_runner_isKilled g_f_x_runner_a g_f_x_runner_b g_f_x_runner_c g_f_x_runner_result g_x_runner_loops_depth g_f_x_runner_loops_places g_f_x_runner_loops_counts g_x_current_many g_f_x_current_words g_x_spare_many g_f_x_spare_words w_169 g_m_killed g_m_hasProgram g_m_fault g_m_place g_m_told g_f_m_memory g_f_m_program g_f_m_fresh g_f_m_temporaries g_f_m_ins g_f_m_outs g_f_m_uniforms g_f_m_textures g_f_m_read g_f_m_result g_f_m_left g_f_m_opening g_f_w
          else
            some (0 : Int32)))
        else
        if ((xs x4.toNatClampNeg) &&& (15 : Int32)) = 8 then
          if (0 : Int32) ≤ (x4 + (1 : Int32)) ∧ (x4 + (1 : Int32)).toNatClampNeg < L then (
          if (0 : Int32) ≤ (x4 + (2 : Int32)) ∧ (x4 + (2 : Int32)).toNatClampNeg < L then (
          Option.bind (pf_La_out (xs (x4 + (1 : Int32)).toNatClampNeg) (xs (x4 + (2 : Int32)).toNatClampNeg) x_store_outs_many 32 g_f_x_store_outs_parts 1 g_f_w) (fun (r_175, w_176) => 
          Option.bind (pf_Mo_out (xs (x4 + (1 : Int32)).toNatClampNeg) (xs (x4 + (2 : Int32)).toNatClampNeg) 32 g_f_m_outs) (fun (r_178, w_179) => 
          Option.bind (pf_Mo_thrown w_179) (fun r_181 => 
          if r_181 = r_175 then
            if r_175 = 0 then
              if (0 : Int32) ≤ (0 : Int32) ∧ (0 : Int32).toNatClampNeg < 1 then (
              if (lg_cmp (w_176 (0 : Int32).toNatClampNeg) r_178.toInt64) = 0 then
                pf_La_law_23 fu L xs x_store_temporaries_many x_store_ins_many x_store_outs_many x_store_uniforms_many x_store_textures_many x_store_nothing_many f_x_store_nothing_parts q_x_current q_x_spare n (x4 + 6) q_x_current q_x_spare g_f_x_store_memory g_f_x_store_temporaries_parts g_f_x_store_ins_parts g_f_x_store_outs_parts g_f_x_store_uniforms_parts g_f_x_store_textures_parts g_x_check_fault g_x_check_place g_x_check_steps g_f_x_check_loopOf g_x_check_loops_depth g_f_x_check_loops_places g_f_x_check_loops_counts g_x_runner_place g_x_runner_isKilled g_f_x_runner_a g_f_x_runner_b g_f_x_runner_c g_f_x_runner_result g_x_runner_loops_depth g_f_x_runner_loops_places g_f_x_runner_loops_counts g_x_current_many g_f_x_current_words g_x_spare_many g_f_x_spare_words w_179 g_m_killed g_m_hasProgram g_m_fault g_m_place g_m_told g_f_m_memory g_f_m_program g_f_m_fresh g_f_m_temporaries g_f_m_ins g_f_m_outs g_f_m_uniforms g_f_m_textures g_f_m_read g_f_m_result g_f_m_left g_f_m_opening w_176
              else
                some (0 : Int32)) else none
            else
              pf_La_law_23 fu L xs x_store_temporaries_many x_store_ins_many x_store_outs_many x_store_uniforms_many x_store_textures_many x_store_nothing_many f_x_store_nothing_parts q_x_current q_x_spare n (x4 + 6) q_x_current q_x_spare g_f_x_store_memory g_f_x_store_temporaries_parts g_f_x_store_ins_parts g_f_x_store_outs_parts g_f_x_store_uniforms_parts g_f_x_store_textures_parts g_x_check_fault g_x_check_place g_x_check_steps g_f_x_check_loopOf g_x_check_loops_depth g_f_x_check_loops_places g_f_x_check_loops_counts g_x_runner_place g_x_runner_isKilled g_f_x_runner_a g_f_x_runner_b g_f_x_runner_c g_f_x_runner_result g_x_runner_loops_depth g_f_x_runner_loops_places g_f_x_runner_loops_counts g_x_current_many g_f_x_current_words g_x_spare_many g_f_x_spare_words w_179 g_m_killed g_m_hasProgram g_m_fault g_m_place g_m_told g_f_m_memory g_f_m_program g_f_m_fresh g_f_m_temporaries g_f_m_ins g_f_m_outs g_f_m_uniforms g_f_m_textures g_f_m_read g_f_m_result g_f_m_left g_f_m_opening w_176
          else
            some (0 : Int32))))) else none) else none
        else
        if ((xs x4.toNatClampNeg) &&& (15 : Int32)) = 9 then
          if (0 : Int32) ≤ (x4 + (1 : Int32)) ∧ (x4 + (1 : Int32)).toNatClampNeg < L then (
          if (0 : Int32) ≤ (x4 + (2 : Int32)) ∧ (x4 + (2 : Int32)).toNatClampNeg < L then (
          Option.bind (pf_La_temporary (xs (x4 + (1 : Int32)).toNatClampNeg) (xs (x4 + (2 : Int32)).toNatClampNeg) x_store_temporaries_many 64 g_f_x_store_temporaries_parts 1 g_f_w) (fun (r_190, w_191) => 
          Option.bind (pf_Mo_temporary (xs (x4 + (1 : Int32)).toNatClampNeg) (xs (x4 + (2 : Int32)).toNatClampNeg) 64 g_f_m_temporaries) (fun (r_193, w_194) => 
          Option.bind (pf_Mo_thrown w_194) (fun r_196 => 
          if r_196 = r_190 then
            if r_190 = 0 then
              if (0 : Int32) ≤ (0 : Int32) ∧ (0 : Int32).toNatClampNeg < 1 then (
              if (lg_cmp (w_191 (0 : Int32).toNatClampNeg) r_193.toInt64) = 0 then
                pf_La_law_23 fu L xs x_store_temporaries_many x_store_ins_many x_store_outs_many x_store_uniforms_many x_store_textures_many x_store_nothing_many f_x_store_nothing_parts q_x_current q_x_spare n (x4 + 6) q_x_current q_x_spare g_f_x_store_memory g_f_x_store_temporaries_parts g_f_x_store_ins_parts g_f_x_store_outs_parts g_f_x_store_uniforms_parts g_f_x_store_textures_parts g_x_check_fault g_x_check_place g_x_check_steps g_f_x_check_loopOf g_x_check_loops_depth g_f_x_check_loops_places g_f_x_check_loops_counts g_x_runner_place g_x_runner_isKilled g_f_x_runner_a g_f_x_runner_b g_f_x_runner_c g_f_x_runner_result g_x_runner_loops_depth g_f_x_runner_loops_places g_f_x_runner_loops_counts g_x_current_many g_f_x_current_words g_x_spare_many g_f_x_spare_words w_194 g_m_killed g_m_hasProgram g_m_fault g_m_place g_m_told g_f_m_memory g_f_m_program g_f_m_fresh g_f_m_temporaries g_f_m_ins g_f_m_outs g_f_m_uniforms g_f_m_textures g_f_m_read g_f_m_result g_f_m_left g_f_m_opening w_191
              else
                some (0 : Int32)) else none
            else
              pf_La_law_23 fu L xs x_store_temporaries_many x_store_ins_many x_store_outs_many x_store_uniforms_many x_store_textures_many x_store_nothing_many f_x_store_nothing_parts q_x_current q_x_spare n (x4 + 6) q_x_current q_x_spare g_f_x_store_memory g_f_x_store_temporaries_parts g_f_x_store_ins_parts g_f_x_store_outs_parts g_f_x_store_uniforms_parts g_f_x_store_textures_parts g_x_check_fault g_x_check_place g_x_check_steps g_f_x_check_loopOf g_x_check_loops_depth g_f_x_check_loops_places g_f_x_check_loops_counts g_x_runner_place g_x_runner_isKilled g_f_x_runner_a g_f_x_runner_b g_f_x_runner_c g_f_x_runner_result g_x_runner_loops_depth g_f_x_runner_loops_places g_f_x_runner_loops_counts g_x_current_many g_f_x_current_words g_x_spare_many g_f_x_spare_words w_194 g_m_killed g_m_hasProgram g_m_fault g_m_place g_m_told g_f_m_memory g_f_m_program g_f_m_fresh g_f_m_temporaries g_f_m_ins g_f_m_outs g_f_m_uniforms g_f_m_textures g_f_m_read g_f_m_result g_f_m_left g_f_m_opening w_191
          else
            some (0 : Int32))))) else none) else none
        else
          none) else none
    else
    if g_q_x_current = q_x_spare ∧ g_q_x_spare = q_x_current then
      if ((Int32.ofNat L) - (6 : Int32)) < x4 then
        some (1 : Int32)
      else
        if (0 : Int32) ≤ x4 ∧ x4.toNatClampNeg < L then (
        if ((xs x4.toNatClampNeg) &&& (15 : Int32)) < 0 ∨ 9 < ((xs x4.toNatClampNeg) &&& (15 : Int32)) then
          pf_La_law_23 fu L xs x_store_temporaries_many x_store_ins_many x_store_outs_many x_store_uniforms_many x_store_textures_many x_store_nothing_many f_x_store_nothing_parts q_x_current q_x_spare n (x4 + 6) q_x_spare q_x_current g_f_x_store_memory g_f_x_store_temporaries_parts g_f_x_store_ins_parts g_f_x_store_outs_parts g_f_x_store_uniforms_parts g_f_x_store_textures_parts g_x_check_fault g_x_check_place g_x_check_steps g_f_x_check_loopOf g_x_check_loops_depth g_f_x_check_loops_places g_f_x_check_loops_counts g_x_runner_place g_x_runner_isKilled g_f_x_runner_a g_f_x_runner_b g_f_x_runner_c g_f_x_runner_result g_x_runner_loops_depth g_f_x_runner_loops_places g_f_x_runner_loops_counts g_x_current_many g_f_x_current_words g_x_spare_many g_f_x_spare_words g_m_thrown g_m_killed g_m_hasProgram g_m_fault g_m_place g_m_told g_f_m_memory g_f_m_program g_f_m_fresh g_f_m_temporaries g_f_m_ins g_f_m_outs g_f_m_uniforms g_f_m_textures g_f_m_read g_f_m_result g_f_m_left g_f_m_opening g_f_w
        else
        if ((xs x4.toNatClampNeg) &&& (15 : Int32)) = 0 then
          if (0 : Int32) ≤ (x4 + (1 : Int32)) ∧ (x4 + (1 : Int32)).toNatClampNeg < L then (
          if (0 : Int32) ≤ (x4 + (2 : Int32)) ∧ (x4 + (2 : Int32)).toNatClampNeg < L then (
          Option.bind (pf_La_poke (xs (x4 + (1 : Int32)).toNatClampNeg) (xs (x4 + (2 : Int32)).toNatClampNeg) 1024 g_f_x_store_memory) (fun (r_209, w_210) => 
          Option.bind (pf_Mo_poke (xs (x4 + (1 : Int32)).toNatClampNeg) (xs (x4 + (2 : Int32)).toNatClampNeg) 1024 g_f_m_memory) (fun (w_212, w_213) => 
          Option.bind (pf_Mo_thrown w_212) (fun r_215 => 
          if r_215 = r_209 then
            pf_La_law_23 fu L xs x_store_temporaries_many x_store_ins_many x_store_outs_many x_store_uniforms_many x_store_textures_many x_store_nothing_many f_x_store_nothing_parts q_x_current q_x_spare n (x4 + 6) q_x_spare q_x_current w_210 g_f_x_store_temporaries_parts g_f_x_store_ins_parts g_f_x_store_outs_parts g_f_x_store_uniforms_parts g_f_x_store_textures_parts g_x_check_fault g_x_check_place g_x_check_steps g_f_x_check_loopOf g_x_check_loops_depth g_f_x_check_loops_places g_f_x_check_loops_counts g_x_runner_place g_x_runner_isKilled g_f_x_runner_a g_f_x_runner_b g_f_x_runner_c g_f_x_runner_result g_x_runner_loops_depth g_f_x_runner_loops_places g_f_x_runner_loops_counts g_x_current_many g_f_x_current_words g_x_spare_many g_f_x_spare_words w_212 g_m_killed g_m_hasProgram g_m_fault g_m_place g_m_told w_213 g_f_m_program g_f_m_fresh g_f_m_temporaries g_f_m_ins g_f_m_outs g_f_m_uniforms g_f_m_textures g_f_m_read g_f_m_result g_f_m_left g_f_m_opening g_f_w
          else
            some (0 : Int32))))) else none) else none
        else
        if ((xs x4.toNatClampNeg) &&& (15 : Int32)) = 1 then
          if (0 : Int32) ≤ (x4 + (1 : Int32)) ∧ (x4 + (1 : Int32)).toNatClampNeg < L then (
          if (0 : Int32) ≤ (x4 + (2 : Int32)) ∧ (x4 + (2 : Int32)).toNatClampNeg < L then (
          if (0 : Int32) ≤ (x4 + (3 : Int32)) ∧ (x4 + (3 : Int32)).toNatClampNeg < L then (
          if (xs (x4 + (3 : Int32)).toNatClampNeg) = 0 then
            Option.bind (pf_La_load fu (xs (x4 + (1 : Int32)).toNatClampNeg) (xs (x4 + (2 : Int32)).toNatClampNeg) (0 : Int32) g_x_current_many 1024 g_f_x_store_memory 768 g_f_x_current_words g_x_check_fault g_x_check_place g_x_check_steps g_x_check_loops_depth 256 g_f_x_check_loopOf 4 g_f_x_check_loops_places 4 g_f_x_check_loops_counts 1 g_f_w q_x_spare q_x_current) (fun (r_223, w_224, w_225, w_226, w_227, w_228, w_229, w_230, w_231, w_232, w_233, w_234, w_235) => 
            Option.bind (pf_Mo_load fu (xs (x4 + (1 : Int32)).toNatClampNeg) (xs (x4 + (2 : Int32)).toNatClampNeg) (0 : Int32) g_m_hasProgram g_m_fault g_m_place 768 g_f_m_fresh 1024 g_f_m_memory 768 g_f_m_program 256 g_f_m_opening) (fun (r_237, w_238, w_239, w_240, w_241, w_242, w_243, w_244) => 
            Option.bind (pf_Mo_thrown w_238) (fun r_246 => 
            if r_246 = r_223 then
              if r_223 = 0 then
                if (0 : Int32) ≤ (0 : Int32) ∧ (0 : Int32).toNatClampNeg < 1 then (
                if (lg_cmp (w_235 (0 : Int32).toNatClampNeg) r_237.toInt64) = 0 then
                  pf_La_law_23 fu L xs x_store_temporaries_many x_store_ins_many x_store_outs_many x_store_uniforms_many x_store_textures_many x_store_nothing_many f_x_store_nothing_parts q_x_current q_x_spare n (x4 + 6) w_224 w_225 g_f_x_store_memory g_f_x_store_temporaries_parts g_f_x_store_ins_parts g_f_x_store_outs_parts g_f_x_store_uniforms_parts g_f_x_store_textures_parts w_228 w_229 w_230 w_232 w_231 w_233 w_234 g_x_runner_place g_x_runner_isKilled g_f_x_runner_a g_f_x_runner_b g_f_x_runner_c g_f_x_runner_result g_x_runner_loops_depth g_f_x_runner_loops_places g_f_x_runner_loops_counts w_226 w_227 g_x_spare_many g_f_x_spare_words w_238 g_m_killed w_239 w_240 w_241 g_m_told g_f_m_memory w_243 w_242 g_f_m_temporaries g_f_m_ins g_f_m_outs g_f_m_uniforms g_f_m_textures g_f_m_read g_f_m_result g_f_m_left w_244 w_235
                else
                  some (0 : Int32)) else none
              else
                pf_La_law_23 fu L xs x_store_temporaries_many x_store_ins_many x_store_outs_many x_store_uniforms_many x_store_textures_many x_store_nothing_many f_x_store_nothing_parts q_x_current q_x_spare n (x4 + 6) w_224 w_225 g_f_x_store_memory g_f_x_store_temporaries_parts g_f_x_store_ins_parts g_f_x_store_outs_parts g_f_x_store_uniforms_parts g_f_x_store_textures_parts w_228 w_229 w_230 w_232 w_231 w_233 w_234 g_x_runner_place g_x_runner_isKilled g_f_x_runner_a g_f_x_runner_b g_f_x_runner_c g_f_x_runner_result g_x_runner_loops_depth g_f_x_runner_loops_places g_f_x_runner_loops_counts w_226 w_227 g_x_spare_many g_f_x_spare_words w_238 g_m_killed w_239 w_240 w_241 g_m_told g_f_m_memory w_243 w_242 g_f_m_temporaries g_f_m_ins g_f_m_outs g_f_m_uniforms g_f_m_textures g_f_m_read g_f_m_result g_f_m_left w_244 w_235
            else
              some (0 : Int32))))
          else
            Option.bind (pf_La_load fu (xs (x4 + (1 : Int32)).toNatClampNeg) (xs (x4 + (2 : Int32)).toNatClampNeg) (1 : Int32) g_x_current_many 1024 g_f_x_store_memory 768 g_f_x_current_words g_x_check_fault g_x_check_place g_x_check_steps g_x_check_loops_depth 256 g_f_x_check_loopOf 4 g_f_x_check_loops_places 4 g_f_x_check_loops_counts 1 g_f_w q_x_spare q_x_current) (fun (r_252, w_253, w_254, w_255, w_256, w_257, w_258, w_259, w_260, w_261, w_262, w_263, w_264) => 
            Option.bind (pf_Mo_load fu (xs (x4 + (1 : Int32)).toNatClampNeg) (xs (x4 + (2 : Int32)).toNatClampNeg) (1 : Int32) g_m_hasProgram g_m_fault g_m_place 768 g_f_m_fresh 1024 g_f_m_memory 768 g_f_m_program 256 g_f_m_opening) (fun (r_266, w_267, w_268, w_269, w_270, w_271, w_272, w_273) => 
            Option.bind (pf_Mo_thrown w_267) (fun r_275 => 
            if r_275 = r_252 then
              if r_252 = 0 then
                if (0 : Int32) ≤ (0 : Int32) ∧ (0 : Int32).toNatClampNeg < 1 then (
                if (lg_cmp (w_264 (0 : Int32).toNatClampNeg) r_266.toInt64) = 0 then
                  pf_La_law_23 fu L xs x_store_temporaries_many x_store_ins_many x_store_outs_many x_store_uniforms_many x_store_textures_many x_store_nothing_many f_x_store_nothing_parts q_x_current q_x_spare n (x4 + 6) w_253 w_254 g_f_x_store_memory g_f_x_store_temporaries_parts g_f_x_store_ins_parts g_f_x_store_outs_parts g_f_x_store_uniforms_parts g_f_x_store_textures_parts w_257 w_258 w_259 w_261 w_260 w_262 w_263 g_x_runner_place g_x_runner_isKilled g_f_x_runner_a g_f_x_runner_b g_f_x_runner_c g_f_x_runner_result g_x_runner_loops_depth g_f_x_runner_loops_places g_f_x_runner_loops_counts w_255 w_256 g_x_spare_many g_f_x_spare_words w_267 g_m_killed w_268 w_269 w_270 g_m_told g_f_m_memory w_272 w_271 g_f_m_temporaries g_f_m_ins g_f_m_outs g_f_m_uniforms g_f_m_textures g_f_m_read g_f_m_result g_f_m_left w_273 w_264
                else
                  some (0 : Int32)) else none
              else
                pf_La_law_23 fu L xs x_store_temporaries_many x_store_ins_many x_store_outs_many x_store_uniforms_many x_store_textures_many x_store_nothing_many f_x_store_nothing_parts q_x_current q_x_spare n (x4 + 6) w_253 w_254 g_f_x_store_memory g_f_x_store_temporaries_parts g_f_x_store_ins_parts g_f_x_store_outs_parts g_f_x_store_uniforms_parts g_f_x_store_textures_parts w_257 w_258 w_259 w_261 w_260 w_262 w_263 g_x_runner_place g_x_runner_isKilled g_f_x_runner_a g_f_x_runner_b g_f_x_runner_c g_f_x_runner_result g_x_runner_loops_depth g_f_x_runner_loops_places g_f_x_runner_loops_counts w_255 w_256 g_x_spare_many g_f_x_spare_words w_267 g_m_killed w_268 w_269 w_270 g_m_told g_f_m_memory w_272 w_271 g_f_m_temporaries g_f_m_ins g_f_m_outs g_f_m_uniforms g_f_m_textures g_f_m_read g_f_m_result g_f_m_left w_273 w_264
            else
              some (0 : Int32))))) else none) else none) else none
        else
        if ((xs x4.toNatClampNeg) &&& (15 : Int32)) = 2 then
          if (0 : Int32) ≤ (x4 + (1 : Int32)) ∧ (x4 + (1 : Int32)).toNatClampNeg < L then (
          Option.bind (pf_SM_fault (xs (x4 + (1 : Int32)).toNatClampNeg) g_x_check_fault g_x_check_place) (fun r_283 => 
          Option.bind (pf_Mo_fault (xs (x4 + (1 : Int32)).toNatClampNeg) g_m_fault g_m_place) (fun (r_285, w_286) => 
          if r_283 = r_285 then
            pf_La_law_23 fu L xs x_store_temporaries_many x_store_ins_many x_store_outs_many x_store_uniforms_many x_store_textures_many x_store_nothing_many f_x_store_nothing_parts q_x_current q_x_spare n (x4 + 6) q_x_spare q_x_current g_f_x_store_memory g_f_x_store_temporaries_parts g_f_x_store_ins_parts g_f_x_store_outs_parts g_f_x_store_uniforms_parts g_f_x_store_textures_parts g_x_check_fault g_x_check_place g_x_check_steps g_f_x_check_loopOf g_x_check_loops_depth g_f_x_check_loops_places g_f_x_check_loops_counts g_x_runner_place g_x_runner_isKilled g_f_x_runner_a g_f_x_runner_b g_f_x_runner_c g_f_x_runner_result g_x_runner_loops_depth g_f_x_runner_loops_places g_f_x_runner_loops_counts g_x_current_many g_f_x_current_words g_x_spare_many g_f_x_spare_words w_286 g_m_killed g_m_hasProgram g_m_fault g_m_place g_m_told g_f_m_memory g_f_m_program g_f_m_fresh g_f_m_temporaries g_f_m_ins g_f_m_outs g_f_m_uniforms g_f_m_textures g_f_m_read g_f_m_result g_f_m_left g_f_m_opening g_f_w
          else
            some (0 : Int32)))) else none
        else
        if ((xs x4.toNatClampNeg) &&& (15 : Int32)) = 3 then
          if (0 : Int32) ≤ (x4 + (1 : Int32)) ∧ (x4 + (1 : Int32)).toNatClampNeg < L then (
          if (0 : Int32) ≤ (x4 + (2 : Int32)) ∧ (x4 + (2 : Int32)).toNatClampNeg < L then (
          if (0 : Int32) ≤ (x4 + (3 : Int32)) ∧ (x4 + (3 : Int32)).toNatClampNeg < L then (
          if (0 : Int32) ≤ (x4 + (4 : Int32)) ∧ (x4 + (4 : Int32)).toNatClampNeg < L then (
          if (0 : Int32) ≤ (x4 + (5 : Int32)) ∧ (x4 + (5 : Int32)).toNatClampNeg < L then (
          Option.bind (pf_La_in (xs (x4 + (1 : Int32)).toNatClampNeg) (xs (x4 + (2 : Int32)).toNatClampNeg) (xs (x4 + (3 : Int32)).toNatClampNeg) (xs (x4 + (4 : Int32)).toNatClampNeg) (xs (x4 + (5 : Int32)).toNatClampNeg) x_store_ins_many 32 g_f_x_store_ins_parts) (fun (r_295, w_296) => 
          Option.bind (pf_Mo_in (xs (x4 + (1 : Int32)).toNatClampNeg) (xs (x4 + (2 : Int32)).toNatClampNeg) (xs (x4 + (3 : Int32)).toNatClampNeg) (xs (x4 + (4 : Int32)).toNatClampNeg) (xs (x4 + (5 : Int32)).toNatClampNeg) 32 g_f_m_ins) (fun (w_298, w_299) => 
          Option.bind (pf_Mo_thrown w_298) (fun r_301 => 
          if r_301 = r_295 then
            pf_La_law_23 fu L xs x_store_temporaries_many x_store_ins_many x_store_outs_many x_store_uniforms_many x_store_textures_many x_store_nothing_many f_x_store_nothing_parts q_x_current q_x_spare n (x4 + 6) q_x_spare q_x_current g_f_x_store_memory g_f_x_store_temporaries_parts w_296 g_f_x_store_outs_parts g_f_x_store_uniforms_parts g_f_x_store_textures_parts g_x_check_fault g_x_check_place g_x_check_steps g_f_x_check_loopOf g_x_check_loops_depth g_f_x_check_loops_places g_f_x_check_loops_counts g_x_runner_place g_x_runner_isKilled g_f_x_runner_a g_f_x_runner_b g_f_x_runner_c g_f_x_runner_result g_x_runner_loops_depth g_f_x_runner_loops_places g_f_x_runner_loops_counts g_x_current_many g_f_x_current_words g_x_spare_many g_f_x_spare_words w_298 g_m_killed g_m_hasProgram g_m_fault g_m_place g_m_told g_f_m_memory g_f_m_program g_f_m_fresh g_f_m_temporaries w_299 g_f_m_outs g_f_m_uniforms g_f_m_textures g_f_m_read g_f_m_result g_f_m_left g_f_m_opening g_f_w
          else
            some (0 : Int32))))) else none) else none) else none) else none) else none
        else
        if ((xs x4.toNatClampNeg) &&& (15 : Int32)) = 4 then
          if (0 : Int32) ≤ (x4 + (1 : Int32)) ∧ (x4 + (1 : Int32)).toNatClampNeg < L then (
          if (0 : Int32) ≤ (x4 + (2 : Int32)) ∧ (x4 + (2 : Int32)).toNatClampNeg < L then (
          if (0 : Int32) ≤ (x4 + (3 : Int32)) ∧ (x4 + (3 : Int32)).toNatClampNeg < L then (
          if (0 : Int32) ≤ (x4 + (4 : Int32)) ∧ (x4 + (4 : Int32)).toNatClampNeg < L then (
          if (0 : Int32) ≤ (x4 + (5 : Int32)) ∧ (x4 + (5 : Int32)).toNatClampNeg < L then (
          Option.bind (pf_La_uniform (xs (x4 + (1 : Int32)).toNatClampNeg) (xs (x4 + (2 : Int32)).toNatClampNeg) (xs (x4 + (3 : Int32)).toNatClampNeg) (xs (x4 + (4 : Int32)).toNatClampNeg) (xs (x4 + (5 : Int32)).toNatClampNeg) x_store_uniforms_many 128 g_f_x_store_uniforms_parts) (fun (r_310, w_311) => 
          Option.bind (pf_Mo_uniform (xs (x4 + (1 : Int32)).toNatClampNeg) (xs (x4 + (2 : Int32)).toNatClampNeg) (xs (x4 + (3 : Int32)).toNatClampNeg) (xs (x4 + (4 : Int32)).toNatClampNeg) (xs (x4 + (5 : Int32)).toNatClampNeg) 128 g_f_m_uniforms) (fun (w_313, w_314) => 
          Option.bind (pf_Mo_thrown w_313) (fun r_316 => 
          if r_316 = r_310 then
            pf_La_law_23 fu L xs x_store_temporaries_many x_store_ins_many x_store_outs_many x_store_uniforms_many x_store_textures_many x_store_nothing_many f_x_store_nothing_parts q_x_current q_x_spare n (x4 + 6) q_x_spare q_x_current g_f_x_store_memory g_f_x_store_temporaries_parts g_f_x_store_ins_parts g_f_x_store_outs_parts w_311 g_f_x_store_textures_parts g_x_check_fault g_x_check_place g_x_check_steps g_f_x_check_loopOf g_x_check_loops_depth g_f_x_check_loops_places g_f_x_check_loops_counts g_x_runner_place g_x_runner_isKilled g_f_x_runner_a g_f_x_runner_b g_f_x_runner_c g_f_x_runner_result g_x_runner_loops_depth g_f_x_runner_loops_places g_f_x_runner_loops_counts g_x_current_many g_f_x_current_words g_x_spare_many g_f_x_spare_words w_313 g_m_killed g_m_hasProgram g_m_fault g_m_place g_m_told g_f_m_memory g_f_m_program g_f_m_fresh g_f_m_temporaries g_f_m_ins g_f_m_outs w_314 g_f_m_textures g_f_m_read g_f_m_result g_f_m_left g_f_m_opening g_f_w
          else
            some (0 : Int32))))) else none) else none) else none) else none) else none
        else
        if ((xs x4.toNatClampNeg) &&& (15 : Int32)) = 5 then
          if (0 : Int32) ≤ (x4 + (1 : Int32)) ∧ (x4 + (1 : Int32)).toNatClampNeg < L then (
          if (0 : Int32) ≤ (x4 + (2 : Int32)) ∧ (x4 + (2 : Int32)).toNatClampNeg < L then (
          if (0 : Int32) ≤ (x4 + (3 : Int32)) ∧ (x4 + (3 : Int32)).toNatClampNeg < L then (
          if (0 : Int32) ≤ (x4 + (4 : Int32)) ∧ (x4 + (4 : Int32)).toNatClampNeg < L then (
          if (0 : Int32) ≤ (x4 + (5 : Int32)) ∧ (x4 + (5 : Int32)).toNatClampNeg < L then (
          Option.bind (pf_La_texture (xs (x4 + (1 : Int32)).toNatClampNeg) (xs (x4 + (2 : Int32)).toNatClampNeg) (xs (x4 + (3 : Int32)).toNatClampNeg) (xs (x4 + (4 : Int32)).toNatClampNeg) (xs (x4 + (5 : Int32)).toNatClampNeg) x_store_textures_many 16 g_f_x_store_textures_parts) (fun (r_325, w_326) => 
          Option.bind (pf_Mo_texture (xs (x4 + (1 : Int32)).toNatClampNeg) (xs (x4 + (2 : Int32)).toNatClampNeg) (xs (x4 + (3 : Int32)).toNatClampNeg) (xs (x4 + (4 : Int32)).toNatClampNeg) (xs (x4 + (5 : Int32)).toNatClampNeg) 16 g_f_m_textures) (fun (w_328, w_329) => 
          Option.bind (pf_Mo_thrown w_328) (fun r_331 => 
          if r_331 = r_325 then
            pf_La_law_23 fu L xs x_store_temporaries_many x_store_ins_many x_store_outs_many x_store_uniforms_many x_store_textures_many x_store_nothing_many f_x_store_nothing_parts q_x_current q_x_spare n (x4 + 6) q_x_spare q_x_current g_f_x_store_memory g_f_x_store_temporaries_parts g_f_x_store_ins_parts g_f_x_store_outs_parts g_f_x_store_uniforms_parts w_326 g_x_check_fault g_x_check_place g_x_check_steps g_f_x_check_loopOf g_x_check_loops_depth g_f_x_check_loops_places g_f_x_check_loops_counts g_x_runner_place g_x_runner_isKilled g_f_x_runner_a g_f_x_runner_b g_f_x_runner_c g_f_x_runner_result g_x_runner_loops_depth g_f_x_runner_loops_places g_f_x_runner_loops_counts g_x_current_many g_f_x_current_words g_x_spare_many g_f_x_spare_words w_328 g_m_killed g_m_hasProgram g_m_fault g_m_place g_m_told g_f_m_memory g_f_m_program g_f_m_fresh g_f_m_temporaries g_f_m_ins g_f_m_outs g_f_m_uniforms w_329 g_f_m_read g_f_m_result g_f_m_left g_f_m_opening g_f_w
          else
            some (0 : Int32))))) else none) else none) else none) else none) else none
        else
        if ((xs x4.toNatClampNeg) &&& (15 : Int32)) = 6 then
          Option.bind (pf_La_run fu g_x_spare_many g_x_runner_place g_x_runner_isKilled x_store_temporaries_many 64 g_f_x_store_temporaries_parts x_store_outs_many 32 g_f_x_store_outs_parts g_x_runner_loops_depth 768 g_f_x_spare_words x_store_nothing_many 4 g_f_x_runner_c 0 f_x_store_nothing_parts x_store_ins_many 32 g_f_x_store_ins_parts x_store_uniforms_many 128 g_f_x_store_uniforms_parts 4 g_f_x_runner_b 4 g_f_x_runner_a 4 g_f_x_runner_loops_places 4 g_f_x_runner_loops_counts 4 g_f_x_runner_result 1024 g_f_x_store_memory x_store_textures_many 16 g_f_x_store_textures_parts 1 g_f_w) (fun (r_335, w_336, w_337, w_338, w_339, w_340, w_341, w_342, w_343, w_344, w_345, w_346, w_347) => 
          Option.bind (pf_Mo_run fu g_m_hasProgram g_m_told g_m_killed 64 g_f_m_temporaries 32 g_f_m_outs 768 g_f_m_program 256 g_f_m_left 256 g_f_m_opening 12 g_f_m_read 16 g_f_m_textures 128 g_f_m_uniforms 1024 g_f_m_memory 4 g_f_m_result 32 g_f_m_ins) (fun (r_349, w_350, w_351, w_352, w_353, w_354, w_355, w_356, w_357) => 
          Option.bind (pf_Mo_thrown w_350) (fun r_359 => 
          if r_359 = r_335 then
            if r_335 = 0 then
              if (0 : Int32) ≤ (0 : Int32) ∧ (0 : Int32).toNatClampNeg < 1 then (
              if (lg_cmp (w_347 (0 : Int32).toNatClampNeg) r_349.toInt64) = 0 then
                pf_La_law_23 fu L xs x_store_temporaries_many x_store_ins_many x_store_outs_many x_store_uniforms_many x_store_textures_many x_store_nothing_many f_x_store_nothing_parts q_x_current q_x_spare n (x4 + 6) q_x_spare q_x_current g_f_x_store_memory w_338 g_f_x_store_ins_parts w_339 g_f_x_store_uniforms_parts g_f_x_store_textures_parts g_x_check_fault g_x_check_place g_x_check_steps g_f_x_check_loopOf g_x_check_loops_depth g_f_x_check_loops_places g_f_x_check_loops_counts w_336 w_337 w_343 w_342 w_341 w_346 w_340 w_344 w_345 g_x_current_many g_f_x_current_words g_x_spare_many g_f_x_spare_words w_350 w_351 g_m_hasProgram g_m_fault g_m_place w_352 g_f_m_memory g_f_m_program g_f_m_fresh w_353 g_f_m_ins w_354 g_f_m_uniforms g_f_m_textures w_356 w_357 w_355 g_f_m_opening w_347
              else
                some (0 : Int32)) else none
            else
              pf_La_law_23 fu L xs x_store_temporaries_many x_store_ins_many x_store_outs_many x_store_uniforms_many x_store_textures_many x_store_nothing_many f_x_store_nothing_parts q_x_current q_x_spare n (x4 + 6) q_x_spare q_x_current g_f_x_store_memory w_338 g_f_x_store_ins_parts w_339 g_f_x_store_uniforms_parts g_f_x_store_textures_parts g_x_check_fault g_x_check_place g_x_check_steps g_f_x_check_loopOf g_x_check_loops_depth g_f_x_check_loops_places g_f_x_check_loops_counts w_336 w_337 w_343 w_342 w_341 w_346 w_340 w_344 w_345 g_x_current_many g_f_x_current_words g_x_spare_many g_f_x_spare_words w_350 w_351 g_m_hasProgram g_m_fault g_m_place w_352 g_f_m_memory g_f_m_program g_f_m_fresh w_353 g_f_m_ins w_354 g_f_m_uniforms g_f_m_textures w_356 w_357 w_355 g_f_m_opening w_347
          else
            some (0 : Int32))))
        else
        if ((xs x4.toNatClampNeg) &&& (15 : Int32)) = 7 then
          Option.bind (pf_SM_killed g_x_runner_isKilled) (fun r_366 => 
          Option.bind (pf_Mo_killed g_m_killed) (fun (r_368, w_369) => 
          if r_366 = r_368 then
            pf_La_law_23 fu L xs x_store_temporaries_many x_store_ins_many x_store_outs_many x_store_uniforms_many x_store_textures_many x_store_nothing_many f_x_store_nothing_parts q_x_current q_x_spare n (x4 + 6) q_x_spare q_x_current g_f_x_store_memory g_f_x_store_temporaries_parts g_f_x_store_ins_parts g_f_x_store_outs_parts g_f_x_store_uniforms_parts g_f_x_store_textures_parts g_x_check_fault g_x_check_place g_x_check_steps g_f_x_check_loopOf g_x_check_loops_depth g_f_x_check_loops_places g_f_x_check_loops_counts g_x_runner_place g_x_runner_isKilled g_f_x_runner_a g_f_x_runner_b g_f_x_runner_c g_f_x_runner_result g_x_runner_loops_depth g_f_x_runner_loops_places g_f_x_runner_loops_counts g_x_current_many g_f_x_current_words g_x_spare_many g_f_x_spare_words w_369 g_m_killed g_m_hasProgram g_m_fault g_m_place g_m_told g_f_m_memory g_f_m_program g_f_m_fresh g_f_m_temporaries g_f_m_ins g_f_m_outs g_f_m_uniforms g_f_m_textures g_f_m_read g_f_m_result g_f_m_left g_f_m_opening g_f_w
          else
            some (0 : Int32)))
        else
        if ((xs x4.toNatClampNeg) &&& (15 : Int32)) = 8 then
          if (0 : Int32) ≤ (x4 + (1 : Int32)) ∧ (x4 + (1 : Int32)).toNatClampNeg < L then (
          if (0 : Int32) ≤ (x4 + (2 : Int32)) ∧ (x4 + (2 : Int32)).toNatClampNeg < L then (
          Option.bind (pf_La_out (xs (x4 + (1 : Int32)).toNatClampNeg) (xs (x4 + (2 : Int32)).toNatClampNeg) x_store_outs_many 32 g_f_x_store_outs_parts 1 g_f_w) (fun (r_375, w_376) => 
          Option.bind (pf_Mo_out (xs (x4 + (1 : Int32)).toNatClampNeg) (xs (x4 + (2 : Int32)).toNatClampNeg) 32 g_f_m_outs) (fun (r_378, w_379) => 
          Option.bind (pf_Mo_thrown w_379) (fun r_381 => 
          if r_381 = r_375 then
            if r_375 = 0 then
              if (0 : Int32) ≤ (0 : Int32) ∧ (0 : Int32).toNatClampNeg < 1 then (
              if (lg_cmp (w_376 (0 : Int32).toNatClampNeg) r_378.toInt64) = 0 then
                pf_La_law_23 fu L xs x_store_temporaries_many x_store_ins_many x_store_outs_many x_store_uniforms_many x_store_textures_many x_store_nothing_many f_x_store_nothing_parts q_x_current q_x_spare n (x4 + 6) q_x_spare q_x_current g_f_x_store_memory g_f_x_store_temporaries_parts g_f_x_store_ins_parts g_f_x_store_outs_parts g_f_x_store_uniforms_parts g_f_x_store_textures_parts g_x_check_fault g_x_check_place g_x_check_steps g_f_x_check_loopOf g_x_check_loops_depth g_f_x_check_loops_places g_f_x_check_loops_counts g_x_runner_place g_x_runner_isKilled g_f_x_runner_a g_f_x_runner_b g_f_x_runner_c g_f_x_runner_result g_x_runner_loops_depth g_f_x_runner_loops_places g_f_x_runner_loops_counts g_x_current_many g_f_x_current_words g_x_spare_many g_f_x_spare_words w_379 g_m_killed g_m_hasProgram g_m_fault g_m_place g_m_told g_f_m_memory g_f_m_program g_f_m_fresh g_f_m_temporaries g_f_m_ins g_f_m_outs g_f_m_uniforms g_f_m_textures g_f_m_read g_f_m_result g_f_m_left g_f_m_opening w_376
              else
                some (0 : Int32)) else none
            else
              pf_La_law_23 fu L xs x_store_temporaries_many x_store_ins_many x_store_outs_many x_store_uniforms_many x_store_textures_many x_store_nothing_many f_x_store_nothing_parts q_x_current q_x_spare n (x4 + 6) q_x_spare q_x_current g_f_x_store_memory g_f_x_store_temporaries_parts g_f_x_store_ins_parts g_f_x_store_outs_parts g_f_x_store_uniforms_parts g_f_x_store_textures_parts g_x_check_fault g_x_check_place g_x_check_steps g_f_x_check_loopOf g_x_check_loops_depth g_f_x_check_loops_places g_f_x_check_loops_counts g_x_runner_place g_x_runner_isKilled g_f_x_runner_a g_f_x_runner_b g_f_x_runner_c g_f_x_runner_result g_x_runner_loops_depth g_f_x_runner_loops_places g_f_x_runner_loops_counts g_x_current_many g_f_x_current_words g_x_spare_many g_f_x_spare_words w_379 g_m_killed g_m_hasProgram g_m_fault g_m_place g_m_told g_f_m_memory g_f_m_program g_f_m_fresh g_f_m_temporaries g_f_m_ins g_f_m_outs g_f_m_uniforms g_f_m_textures g_f_m_read g_f_m_result g_f_m_left g_f_m_opening w_376
          else
            some (0 : Int32))))) else none) else none
        else
        if ((xs x4.toNatClampNeg) &&& (15 : Int32)) = 9 then
          if (0 : Int32) ≤ (x4 + (1 : Int32)) ∧ (x4 + (1 : Int32)).toNatClampNeg < L then (
          if (0 : Int32) ≤ (x4 + (2 : Int32)) ∧ (x4 + (2 : Int32)).toNatClampNeg < L then (
          Option.bind (pf_La_temporary (xs (x4 + (1 : Int32)).toNatClampNeg) (xs (x4 + (2 : Int32)).toNatClampNeg) x_store_temporaries_many 64 g_f_x_store_temporaries_parts 1 g_f_w) (fun (r_390, w_391) => 
          Option.bind (pf_Mo_temporary (xs (x4 + (1 : Int32)).toNatClampNeg) (xs (x4 + (2 : Int32)).toNatClampNeg) 64 g_f_m_temporaries) (fun (r_393, w_394) => 
          Option.bind (pf_Mo_thrown w_394) (fun r_396 => 
          if r_396 = r_390 then
            if r_390 = 0 then
              if (0 : Int32) ≤ (0 : Int32) ∧ (0 : Int32).toNatClampNeg < 1 then (
              if (lg_cmp (w_391 (0 : Int32).toNatClampNeg) r_393.toInt64) = 0 then
                pf_La_law_23 fu L xs x_store_temporaries_many x_store_ins_many x_store_outs_many x_store_uniforms_many x_store_textures_many x_store_nothing_many f_x_store_nothing_parts q_x_current q_x_spare n (x4 + 6) q_x_spare q_x_current g_f_x_store_memory g_f_x_store_temporaries_parts g_f_x_store_ins_parts g_f_x_store_outs_parts g_f_x_store_uniforms_parts g_f_x_store_textures_parts g_x_check_fault g_x_check_place g_x_check_steps g_f_x_check_loopOf g_x_check_loops_depth g_f_x_check_loops_places g_f_x_check_loops_counts g_x_runner_place g_x_runner_isKilled g_f_x_runner_a g_f_x_runner_b g_f_x_runner_c g_f_x_runner_result g_x_runner_loops_depth g_f_x_runner_loops_places g_f_x_runner_loops_counts g_x_current_many g_f_x_current_words g_x_spare_many g_f_x_spare_words w_394 g_m_killed g_m_hasProgram g_m_fault g_m_place g_m_told g_f_m_memory g_f_m_program g_f_m_fresh g_f_m_temporaries g_f_m_ins g_f_m_outs g_f_m_uniforms g_f_m_textures g_f_m_read g_f_m_result g_f_m_left g_f_m_opening w_391
              else
                some (0 : Int32)) else none
            else
              pf_La_law_23 fu L xs x_store_temporaries_many x_store_ins_many x_store_outs_many x_store_uniforms_many x_store_textures_many x_store_nothing_many f_x_store_nothing_parts q_x_current q_x_spare n (x4 + 6) q_x_spare q_x_current g_f_x_store_memory g_f_x_store_temporaries_parts g_f_x_store_ins_parts g_f_x_store_outs_parts g_f_x_store_uniforms_parts g_f_x_store_textures_parts g_x_check_fault g_x_check_place g_x_check_steps g_f_x_check_loopOf g_x_check_loops_depth g_f_x_check_loops_places g_f_x_check_loops_counts g_x_runner_place g_x_runner_isKilled g_f_x_runner_a g_f_x_runner_b g_f_x_runner_c g_f_x_runner_result g_x_runner_loops_depth g_f_x_runner_loops_places g_f_x_runner_loops_counts g_x_current_many g_f_x_current_words g_x_spare_many g_f_x_spare_words w_394 g_m_killed g_m_hasProgram g_m_fault g_m_place g_m_told g_f_m_memory g_f_m_program g_f_m_fresh g_f_m_temporaries g_f_m_ins g_f_m_outs g_f_m_uniforms g_f_m_textures g_f_m_read g_f_m_result g_f_m_left g_f_m_opening w_391
          else
            some (0 : Int32))))) else none) else none
        else
          none) else none
    else
      none
