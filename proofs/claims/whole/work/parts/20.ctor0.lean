theorem tw_26 : Cond.methodLink R_SM 1 objectInit ∈ gw := gw_1 26 (by decide +kernel) (by decide +kernel)
theorem tw_27 : Cond.instanceMethod objectInit ∈ gw := gw_1 27 (by decide +kernel) (by decide +kernel)
theorem tw_28 : Cond.code objectInit ⟨#[0xb1]⟩ 1 none ∈ gw := gw_1 28 (by rfl) (by decide +kernel)
theorem tw_29 : Cond.classLink R_SM 7 R_St ∈ gw := gw_1 29 (by decide +kernel) (by decide +kernel)
theorem tw_30 : Cond.instantiable R_St 7 ∈ gw := gw_1 30 (by decide +kernel) (by decide +kernel)
theorem tw_34 : Cond.methodLink R_St 1 objectInit ∈ gw := gw_1 34 (by decide +kernel) (by decide +kernel)
theorem tw_51 : Cond.arrayClass .int ∈ gw := gw_1 51 (by decide +kernel) (by decide +kernel)
theorem tw_35 : Cond.classLink R_St 13 R_Ve ∈ gw := gw_1 35 (by decide +kernel) (by decide +kernel)
theorem tw_36 : Cond.instantiable R_Ve 2 ∈ gw := gw_1 36 (by decide +kernel) (by decide +kernel)
theorem tw_40 : Cond.methodLink R_Ve 1 objectInit ∈ gw := gw_1 40 (by decide +kernel) (by decide +kernel)
theorem tw_41 : Cond.methodLink R_Ve 7 y_Ma_max ∈ gw := gw_1 41 (by decide +kernel) (by decide +kernel)
theorem tw_39 : Cond.code y_Ve_init c_Ve_init 2 none ∈ gw := gw_1 39 (by rfl) (by decide +kernel)
theorem tw_37 : Cond.methodLink R_St 15 y_Ve_init ∈ gw := gw_1 37 (by decide +kernel) (by decide +kernel)
theorem tw_38 : Cond.instanceMethod y_Ve_init ∈ gw := gw_1 38 (by decide +kernel) (by decide +kernel)
theorem tw_64 : Cond.fieldLink R_St 31 "ShaderMachine$Store" "textures" "LShaderMachine$Vectors;" ∈ gw := gw_1 64 (by decide +kernel) (by decide +kernel)
theorem tw_33 : Cond.code y_St_init c_St_init 1 none ∈ gw := gw_1 33 (by rfl) (by decide +kernel)
theorem tw_32 : Cond.instanceMethod y_St_init ∈ gw := gw_1 32 (by decide +kernel) (by decide +kernel)
theorem tw_83 : Cond.classLink R_SM 16 R_Ch ∈ gw := gw_1 83 (by decide +kernel) (by decide +kernel)
theorem tw_84 : Cond.instantiable R_Ch 5 ∈ gw := gw_1 84 (by decide +kernel) (by decide +kernel)
theorem tw_88 : Cond.methodLink R_Ch 3 objectInit ∈ gw := gw_1 88 (by decide +kernel) (by decide +kernel)
theorem tw_89 : Cond.classLink R_Ch 17 R_Lo ∈ gw := gw_1 89 (by decide +kernel) (by decide +kernel)
theorem tw_90 : Cond.instantiable R_Lo 3 ∈ gw := gw_1 90 (by decide +kernel) (by decide +kernel)
theorem tw_94 : Cond.methodLink R_Lo 3 objectInit ∈ gw := gw_1 94 (by decide +kernel) (by decide +kernel)
theorem tw_105 : Cond.arrayClass .long ∈ gw := gw_1 105 (by decide +kernel) (by decide +kernel)
theorem tw_93 : Cond.code y_Lo_init c_Lo_init 1 none ∈ gw := gw_1 93 (by rfl) (by decide +kernel)
theorem tw_92 : Cond.instanceMethod y_Lo_init ∈ gw := gw_1 92 (by decide +kernel) (by decide +kernel)
theorem tw_87 : Cond.code y_Ch_init c_Ch_init 1 none ∈ gw := gw_1 87 (by rfl) (by decide +kernel)
theorem tw_86 : Cond.instanceMethod y_Ch_init ∈ gw := gw_1 86 (by decide +kernel) (by decide +kernel)
theorem tw_122 : Cond.classLink R_SM 23 R_Ru ∈ gw := gw_1 122 (by decide +kernel) (by decide +kernel)
theorem tw_123 : Cond.instantiable R_Ru 8 ∈ gw := gw_1 123 (by decide +kernel) (by decide +kernel)
theorem tw_127 : Cond.methodLink R_Ru 1 objectInit ∈ gw := gw_1 127 (by decide +kernel) (by decide +kernel)
theorem tw_128 : Cond.classLink R_Ru 24 R_Lo ∈ gw := gw_1 128 (by decide +kernel) (by decide +kernel)
theorem tw_126 : Cond.code y_Ru_init c_Ru_init 2 none ∈ gw := gw_1 126 (by rfl) (by decide +kernel)
theorem tw_124 : Cond.methodLink R_SM 25 y_Ru_init ∈ gw := gw_1 124 (by decide +kernel) (by decide +kernel)
theorem tw_125 : Cond.instanceMethod y_Ru_init ∈ gw := gw_1 125 (by decide +kernel) (by decide +kernel)
theorem tw_155 : Cond.classLink R_SM 32 R_Pr ∈ gw := gw_1 155 (by decide +kernel) (by decide +kernel)
theorem tw_156 : Cond.instantiable R_Pr 2 ∈ gw := gw_1 156 (by decide +kernel) (by decide +kernel)
theorem tw_160 : Cond.methodLink R_Pr 1 objectInit ∈ gw := gw_1 160 (by decide +kernel) (by decide +kernel)
theorem tw_159 : Cond.code y_Pr_init c_Pr_init 1 none ∈ gw := gw_1 159 (by rfl) (by decide +kernel)
theorem tw_158 : Cond.instanceMethod y_Pr_init ∈ gw := gw_1 158 (by decide +kernel) (by decide +kernel)
theorem tw_727 : Cond.methodLink R_Mo 1 objectInit ∈ gw := gw_4 7 (by decide +kernel) (by decide +kernel)
theorem d_SM_init_0 : decode c_SM_init 0 = .ok (.aload_n 0, 1) := by decide +kernel
theorem d_SM_init_1 : decode c_SM_init 1 = .ok (.invokespecial 1, 3) := by decide +kernel
theorem d_SM_init_4 : decode c_SM_init 4 = .ok (.aload_n 0, 1) := by decide +kernel
theorem d_SM_init_5 : decode c_SM_init 5 = .ok (.new 7, 3) := by decide +kernel
theorem d_SM_init_8 : decode c_SM_init 8 = .ok (.dup, 1) := by decide +kernel
theorem d_SM_init_9 : decode c_SM_init 9 = .ok (.invokespecial 9, 3) := by decide +kernel
theorem d_SM_init_12 : decode c_SM_init 12 = .ok (.putfield 10, 3) := by decide +kernel
theorem d_SM_init_15 : decode c_SM_init 15 = .ok (.aload_n 0, 1) := by decide +kernel
theorem d_SM_init_16 : decode c_SM_init 16 = .ok (.new 16, 3) := by decide +kernel
theorem d_SM_init_19 : decode c_SM_init 19 = .ok (.dup, 1) := by decide +kernel
theorem d_SM_init_20 : decode c_SM_init 20 = .ok (.invokespecial 18, 3) := by decide +kernel
theorem d_SM_init_23 : decode c_SM_init 23 = .ok (.putfield 19, 3) := by decide +kernel
theorem d_SM_init_26 : decode c_SM_init 26 = .ok (.aload_n 0, 1) := by decide +kernel
theorem d_SM_init_27 : decode c_SM_init 27 = .ok (.new 23, 3) := by decide +kernel
theorem d_SM_init_30 : decode c_SM_init 30 = .ok (.dup, 1) := by decide +kernel
theorem d_SM_init_31 : decode c_SM_init 31 = .ok (.aload_n 0, 1) := by decide +kernel
theorem d_SM_init_32 : decode c_SM_init 32 = .ok (.getfield 10, 3) := by decide +kernel
theorem d_SM_init_35 : decode c_SM_init 35 = .ok (.invokespecial 25, 3) := by decide +kernel
theorem d_SM_init_38 : decode c_SM_init 38 = .ok (.putfield 28, 3) := by decide +kernel
theorem d_SM_init_41 : decode c_SM_init 41 = .ok (.aload_n 0, 1) := by decide +kernel
theorem d_SM_init_42 : decode c_SM_init 42 = .ok (.new 32, 3) := by decide +kernel
theorem d_SM_init_45 : decode c_SM_init 45 = .ok (.dup, 1) := by decide +kernel
theorem d_SM_init_46 : decode c_SM_init 46 = .ok (.invokespecial 34, 3) := by decide +kernel
theorem d_SM_init_49 : decode c_SM_init 49 = .ok (.putfield 35, 3) := by decide +kernel
theorem d_SM_init_52 : decode c_SM_init 52 = .ok (.aload_n 0, 1) := by decide +kernel
theorem d_SM_init_53 : decode c_SM_init 53 = .ok (.new 32, 3) := by decide +kernel
theorem d_SM_init_56 : decode c_SM_init 56 = .ok (.dup, 1) := by decide +kernel
theorem d_SM_init_57 : decode c_SM_init 57 = .ok (.invokespecial 34, 3) := by decide +kernel
theorem d_SM_init_60 : decode c_SM_init 60 = .ok (.putfield 39, 3) := by decide +kernel
theorem d_SM_init_63 : decode c_SM_init 63 = .ok (.return_, 1) := by decide +kernel
theorem d_St_init_0 : decode c_St_init 0 = .ok (.aload_n 0, 1) := by decide +kernel
theorem d_St_init_1 : decode c_St_init 1 = .ok (.invokespecial 1, 3) := by decide +kernel
theorem d_St_init_4 : decode c_St_init 4 = .ok (.aload_n 0, 1) := by decide +kernel
theorem d_St_init_5 : decode c_St_init 5 = .ok (.sipush 1024, 3) := by decide +kernel
theorem d_St_init_8 : decode c_St_init 8 = .ok (.newarray .int, 2) := by decide +kernel
theorem d_St_init_10 : decode c_St_init 10 = .ok (.putfield 9, 3) := by decide +kernel
theorem d_St_init_13 : decode c_St_init 13 = .ok (.aload_n 0, 1) := by decide +kernel
theorem d_St_init_14 : decode c_St_init 14 = .ok (.new 13, 3) := by decide +kernel
theorem d_St_init_17 : decode c_St_init 17 = .ok (.dup, 1) := by decide +kernel
theorem d_St_init_18 : decode c_St_init 18 = .ok (.bipush 16, 2) := by decide +kernel
theorem d_St_init_20 : decode c_St_init 20 = .ok (.invokespecial 15, 3) := by decide +kernel
theorem d_St_init_23 : decode c_St_init 23 = .ok (.putfield 18, 3) := by decide +kernel
theorem d_St_init_26 : decode c_St_init 26 = .ok (.aload_n 0, 1) := by decide +kernel
theorem d_St_init_27 : decode c_St_init 27 = .ok (.new 13, 3) := by decide +kernel
theorem d_St_init_30 : decode c_St_init 30 = .ok (.dup, 1) := by decide +kernel
theorem d_St_init_31 : decode c_St_init 31 = .ok (.bipush 8, 2) := by decide +kernel
theorem d_St_init_33 : decode c_St_init 33 = .ok (.invokespecial 15, 3) := by decide +kernel
theorem d_St_init_36 : decode c_St_init 36 = .ok (.putfield 22, 3) := by decide +kernel
theorem d_St_init_39 : decode c_St_init 39 = .ok (.aload_n 0, 1) := by decide +kernel
theorem d_St_init_40 : decode c_St_init 40 = .ok (.new 13, 3) := by decide +kernel
theorem d_St_init_43 : decode c_St_init 43 = .ok (.dup, 1) := by decide +kernel
theorem d_St_init_44 : decode c_St_init 44 = .ok (.bipush 8, 2) := by decide +kernel
theorem d_St_init_46 : decode c_St_init 46 = .ok (.invokespecial 15, 3) := by decide +kernel
theorem d_St_init_49 : decode c_St_init 49 = .ok (.putfield 25, 3) := by decide +kernel
theorem d_St_init_52 : decode c_St_init 52 = .ok (.aload_n 0, 1) := by decide +kernel
theorem d_St_init_53 : decode c_St_init 53 = .ok (.new 13, 3) := by decide +kernel
theorem d_St_init_56 : decode c_St_init 56 = .ok (.dup, 1) := by decide +kernel
theorem d_St_init_57 : decode c_St_init 57 = .ok (.bipush 32, 2) := by decide +kernel
theorem d_St_init_59 : decode c_St_init 59 = .ok (.invokespecial 15, 3) := by decide +kernel
theorem d_St_init_62 : decode c_St_init 62 = .ok (.putfield 28, 3) := by decide +kernel
theorem d_St_init_65 : decode c_St_init 65 = .ok (.aload_n 0, 1) := by decide +kernel
theorem d_St_init_66 : decode c_St_init 66 = .ok (.new 13, 3) := by decide +kernel
theorem d_St_init_69 : decode c_St_init 69 = .ok (.dup, 1) := by decide +kernel
theorem d_St_init_70 : decode c_St_init 70 = .ok (.iconst 4, 1) := by decide +kernel
theorem d_St_init_71 : decode c_St_init 71 = .ok (.invokespecial 15, 3) := by decide +kernel
theorem d_St_init_74 : decode c_St_init 74 = .ok (.putfield 31, 3) := by decide +kernel
theorem d_St_init_77 : decode c_St_init 77 = .ok (.aload_n 0, 1) := by decide +kernel
theorem d_St_init_78 : decode c_St_init 78 = .ok (.new 13, 3) := by decide +kernel
theorem d_St_init_81 : decode c_St_init 81 = .ok (.dup, 1) := by decide +kernel
theorem d_St_init_82 : decode c_St_init 82 = .ok (.iconst 0, 1) := by decide +kernel
theorem d_St_init_83 : decode c_St_init 83 = .ok (.invokespecial 15, 3) := by decide +kernel
theorem d_St_init_86 : decode c_St_init 86 = .ok (.putfield 34, 3) := by decide +kernel
theorem d_St_init_89 : decode c_St_init 89 = .ok (.return_, 1) := by decide +kernel
theorem d_Ve_init_0 : decode c_Ve_init 0 = .ok (.aload_n 0, 1) := by decide +kernel
theorem d_Ve_init_1 : decode c_Ve_init 1 = .ok (.invokespecial 1, 3) := by decide +kernel
theorem d_Ve_init_4 : decode c_Ve_init 4 = .ok (.aload_n 0, 1) := by decide +kernel
theorem d_Ve_init_5 : decode c_Ve_init 5 = .ok (.iconst 0, 1) := by decide +kernel
theorem d_Ve_init_6 : decode c_Ve_init 6 = .ok (.iload_n 1, 1) := by decide +kernel
theorem d_Ve_init_7 : decode c_Ve_init 7 = .ok (.invokestatic 7, 3) := by decide +kernel
theorem d_Ve_init_10 : decode c_Ve_init 10 = .ok (.putfield 13, 3) := by decide +kernel
theorem d_Ve_init_13 : decode c_Ve_init 13 = .ok (.aload_n 0, 1) := by decide +kernel
theorem d_Ve_init_14 : decode c_Ve_init 14 = .ok (.iconst 4, 1) := by decide +kernel
theorem d_Ve_init_15 : decode c_Ve_init 15 = .ok (.aload_n 0, 1) := by decide +kernel
theorem d_Ve_init_16 : decode c_Ve_init 16 = .ok (.getfield 13, 3) := by decide +kernel
theorem d_Ve_init_19 : decode c_Ve_init 19 = .ok (.imul, 1) := by decide +kernel
theorem d_Ve_init_20 : decode c_Ve_init 20 = .ok (.newarray .int, 2) := by decide +kernel
theorem d_Ve_init_22 : decode c_Ve_init 22 = .ok (.putfield 19, 3) := by decide +kernel
theorem d_Ve_init_25 : decode c_Ve_init 25 = .ok (.return_, 1) := by decide +kernel
theorem d_Ch_init_0 : decode c_Ch_init 0 = .ok (.aload_n 0, 1) := by decide +kernel
theorem d_Ch_init_1 : decode c_Ch_init 1 = .ok (.invokespecial 3, 3) := by decide +kernel
theorem d_Ch_init_4 : decode c_Ch_init 4 = .ok (.aload_n 0, 1) := by decide +kernel
theorem d_Ch_init_5 : decode c_Ch_init 5 = .ok (.sipush 256, 3) := by decide +kernel
theorem d_Ch_init_8 : decode c_Ch_init 8 = .ok (.newarray .int, 2) := by decide +kernel
theorem d_Ch_init_10 : decode c_Ch_init 10 = .ok (.putfield 11, 3) := by decide +kernel
theorem d_Ch_init_13 : decode c_Ch_init 13 = .ok (.aload_n 0, 1) := by decide +kernel
theorem d_Ch_init_14 : decode c_Ch_init 14 = .ok (.new 17, 3) := by decide +kernel
theorem d_Ch_init_17 : decode c_Ch_init 17 = .ok (.dup, 1) := by decide +kernel
theorem d_Ch_init_18 : decode c_Ch_init 18 = .ok (.invokespecial 19, 3) := by decide +kernel
theorem d_Ch_init_21 : decode c_Ch_init 21 = .ok (.putfield 20, 3) := by decide +kernel
theorem d_Ch_init_24 : decode c_Ch_init 24 = .ok (.aload_n 0, 1) := by decide +kernel
theorem d_Ch_init_25 : decode c_Ch_init 25 = .ok (.iconst 0, 1) := by decide +kernel
theorem d_Ch_init_26 : decode c_Ch_init 26 = .ok (.putfield 24, 3) := by decide +kernel
theorem d_Ch_init_29 : decode c_Ch_init 29 = .ok (.aload_n 0, 1) := by decide +kernel
theorem d_Ch_init_30 : decode c_Ch_init 30 = .ok (.iconst (-1), 1) := by decide +kernel
theorem d_Ch_init_31 : decode c_Ch_init 31 = .ok (.putfield 28, 3) := by decide +kernel
theorem d_Ch_init_34 : decode c_Ch_init 34 = .ok (.return_, 1) := by decide +kernel
theorem d_Lo_init_0 : decode c_Lo_init 0 = .ok (.aload_n 0, 1) := by decide +kernel
theorem d_Lo_init_1 : decode c_Lo_init 1 = .ok (.invokespecial 3, 3) := by decide +kernel
theorem d_Lo_init_4 : decode c_Lo_init 4 = .ok (.aload_n 0, 1) := by decide +kernel
theorem d_Lo_init_5 : decode c_Lo_init 5 = .ok (.iconst 4, 1) := by decide +kernel
theorem d_Lo_init_6 : decode c_Lo_init 6 = .ok (.newarray .int, 2) := by decide +kernel
theorem d_Lo_init_8 : decode c_Lo_init 8 = .ok (.putfield 11, 3) := by decide +kernel
theorem d_Lo_init_11 : decode c_Lo_init 11 = .ok (.aload_n 0, 1) := by decide +kernel
theorem d_Lo_init_12 : decode c_Lo_init 12 = .ok (.iconst 4, 1) := by decide +kernel
theorem d_Lo_init_13 : decode c_Lo_init 13 = .ok (.newarray .long, 2) := by decide +kernel
theorem d_Lo_init_15 : decode c_Lo_init 15 = .ok (.putfield 15, 3) := by decide +kernel
theorem d_Lo_init_18 : decode c_Lo_init 18 = .ok (.return_, 1) := by decide +kernel
theorem d_Ru_init_0 : decode c_Ru_init 0 = .ok (.aload_n 0, 1) := by decide +kernel
theorem d_Ru_init_1 : decode c_Ru_init 1 = .ok (.invokespecial 1, 3) := by decide +kernel
theorem d_Ru_init_4 : decode c_Ru_init 4 = .ok (.aload_n 0, 1) := by decide +kernel
theorem d_Ru_init_5 : decode c_Ru_init 5 = .ok (.iconst 4, 1) := by decide +kernel
theorem d_Ru_init_6 : decode c_Ru_init 6 = .ok (.newarray .int, 2) := by decide +kernel
theorem d_Ru_init_8 : decode c_Ru_init 8 = .ok (.putfield 9, 3) := by decide +kernel
theorem d_Ru_init_11 : decode c_Ru_init 11 = .ok (.aload_n 0, 1) := by decide +kernel
theorem d_Ru_init_12 : decode c_Ru_init 12 = .ok (.iconst 4, 1) := by decide +kernel
theorem d_Ru_init_13 : decode c_Ru_init 13 = .ok (.newarray .int, 2) := by decide +kernel
theorem d_Ru_init_15 : decode c_Ru_init 15 = .ok (.putfield 15, 3) := by decide +kernel
theorem d_Ru_init_18 : decode c_Ru_init 18 = .ok (.aload_n 0, 1) := by decide +kernel
theorem d_Ru_init_19 : decode c_Ru_init 19 = .ok (.iconst 4, 1) := by decide +kernel
theorem d_Ru_init_20 : decode c_Ru_init 20 = .ok (.newarray .int, 2) := by decide +kernel
theorem d_Ru_init_22 : decode c_Ru_init 22 = .ok (.putfield 18, 3) := by decide +kernel
theorem d_Ru_init_25 : decode c_Ru_init 25 = .ok (.aload_n 0, 1) := by decide +kernel
theorem d_Ru_init_26 : decode c_Ru_init 26 = .ok (.iconst 4, 1) := by decide +kernel
theorem d_Ru_init_27 : decode c_Ru_init 27 = .ok (.newarray .int, 2) := by decide +kernel
theorem d_Ru_init_29 : decode c_Ru_init 29 = .ok (.putfield 21, 3) := by decide +kernel
theorem d_Ru_init_32 : decode c_Ru_init 32 = .ok (.aload_n 0, 1) := by decide +kernel
theorem d_Ru_init_33 : decode c_Ru_init 33 = .ok (.new 24, 3) := by decide +kernel
theorem d_Ru_init_36 : decode c_Ru_init 36 = .ok (.dup, 1) := by decide +kernel
theorem d_Ru_init_37 : decode c_Ru_init 37 = .ok (.invokespecial 26, 3) := by decide +kernel
theorem d_Ru_init_40 : decode c_Ru_init 40 = .ok (.putfield 27, 3) := by decide +kernel
theorem d_Ru_init_43 : decode c_Ru_init 43 = .ok (.aload_n 0, 1) := by decide +kernel
theorem d_Ru_init_44 : decode c_Ru_init 44 = .ok (.aload_n 1, 1) := by decide +kernel
theorem d_Ru_init_45 : decode c_Ru_init 45 = .ok (.putfield 31, 3) := by decide +kernel
theorem d_Ru_init_48 : decode c_Ru_init 48 = .ok (.return_, 1) := by decide +kernel
theorem d_Pr_init_0 : decode c_Pr_init 0 = .ok (.aload_n 0, 1) := by decide +kernel
theorem d_Pr_init_1 : decode c_Pr_init 1 = .ok (.invokespecial 1, 3) := by decide +kernel
theorem d_Pr_init_4 : decode c_Pr_init 4 = .ok (.aload_n 0, 1) := by decide +kernel
theorem d_Pr_init_5 : decode c_Pr_init 5 = .ok (.sipush 768, 3) := by decide +kernel
theorem d_Pr_init_8 : decode c_Pr_init 8 = .ok (.newarray .int, 2) := by decide +kernel
theorem d_Pr_init_10 : decode c_Pr_init 10 = .ok (.putfield 9, 3) := by decide +kernel
theorem d_Pr_init_13 : decode c_Pr_init 13 = .ok (.return_, 1) := by decide +kernel
theorem d_Mo_init_0 : decode c_Mo_init 0 = .ok (.aload_n 0, 1) := by decide +kernel
theorem d_Mo_init_1 : decode c_Mo_init 1 = .ok (.invokespecial 1, 3) := by decide +kernel
theorem d_Mo_init_4 : decode c_Mo_init 4 = .ok (.aload_n 0, 1) := by decide +kernel
theorem d_Mo_init_5 : decode c_Mo_init 5 = .ok (.sipush 1024, 3) := by decide +kernel
theorem d_Mo_init_8 : decode c_Mo_init 8 = .ok (.newarray .int, 2) := by decide +kernel
theorem d_Mo_init_10 : decode c_Mo_init 10 = .ok (.putfield 7, 3) := by decide +kernel
theorem d_Mo_init_13 : decode c_Mo_init 13 = .ok (.aload_n 0, 1) := by decide +kernel
theorem d_Mo_init_14 : decode c_Mo_init 14 = .ok (.sipush 768, 3) := by decide +kernel
theorem d_Mo_init_17 : decode c_Mo_init 17 = .ok (.newarray .int, 2) := by decide +kernel
theorem d_Mo_init_19 : decode c_Mo_init 19 = .ok (.putfield 13, 3) := by decide +kernel
theorem d_Mo_init_22 : decode c_Mo_init 22 = .ok (.aload_n 0, 1) := by decide +kernel
theorem d_Mo_init_23 : decode c_Mo_init 23 = .ok (.sipush 768, 3) := by decide +kernel
theorem d_Mo_init_26 : decode c_Mo_init 26 = .ok (.newarray .int, 2) := by decide +kernel
theorem d_Mo_init_28 : decode c_Mo_init 28 = .ok (.putfield 16, 3) := by decide +kernel
theorem d_Mo_init_31 : decode c_Mo_init 31 = .ok (.aload_n 0, 1) := by decide +kernel
theorem d_Mo_init_32 : decode c_Mo_init 32 = .ok (.iconst (-1), 1) := by decide +kernel
theorem d_Mo_init_33 : decode c_Mo_init 33 = .ok (.putfield 19, 3) := by decide +kernel
theorem d_Mo_init_36 : decode c_Mo_init 36 = .ok (.aload_n 0, 1) := by decide +kernel
theorem d_Mo_init_37 : decode c_Mo_init 37 = .ok (.bipush 64, 2) := by decide +kernel
theorem d_Mo_init_39 : decode c_Mo_init 39 = .ok (.newarray .int, 2) := by decide +kernel
theorem d_Mo_init_41 : decode c_Mo_init 41 = .ok (.putfield 23, 3) := by decide +kernel
theorem d_Mo_init_44 : decode c_Mo_init 44 = .ok (.aload_n 0, 1) := by decide +kernel
theorem d_Mo_init_45 : decode c_Mo_init 45 = .ok (.bipush 32, 2) := by decide +kernel
theorem d_Mo_init_47 : decode c_Mo_init 47 = .ok (.newarray .int, 2) := by decide +kernel
theorem d_Mo_init_49 : decode c_Mo_init 49 = .ok (.putfield 26, 3) := by decide +kernel
theorem d_Mo_init_52 : decode c_Mo_init 52 = .ok (.aload_n 0, 1) := by decide +kernel
theorem d_Mo_init_53 : decode c_Mo_init 53 = .ok (.bipush 32, 2) := by decide +kernel
theorem d_Mo_init_55 : decode c_Mo_init 55 = .ok (.newarray .int, 2) := by decide +kernel
theorem d_Mo_init_57 : decode c_Mo_init 57 = .ok (.putfield 29, 3) := by decide +kernel
theorem d_Mo_init_60 : decode c_Mo_init 60 = .ok (.aload_n 0, 1) := by decide +kernel
theorem d_Mo_init_61 : decode c_Mo_init 61 = .ok (.sipush 128, 3) := by decide +kernel
theorem d_Mo_init_64 : decode c_Mo_init 64 = .ok (.newarray .int, 2) := by decide +kernel
theorem d_Mo_init_66 : decode c_Mo_init 66 = .ok (.putfield 32, 3) := by decide +kernel
theorem d_Mo_init_69 : decode c_Mo_init 69 = .ok (.aload_n 0, 1) := by decide +kernel
theorem d_Mo_init_70 : decode c_Mo_init 70 = .ok (.bipush 16, 2) := by decide +kernel
theorem d_Mo_init_72 : decode c_Mo_init 72 = .ok (.newarray .int, 2) := by decide +kernel
theorem d_Mo_init_74 : decode c_Mo_init 74 = .ok (.putfield 35, 3) := by decide +kernel
theorem d_Mo_init_77 : decode c_Mo_init 77 = .ok (.aload_n 0, 1) := by decide +kernel
theorem d_Mo_init_78 : decode c_Mo_init 78 = .ok (.bipush 12, 2) := by decide +kernel
theorem d_Mo_init_80 : decode c_Mo_init 80 = .ok (.newarray .int, 2) := by decide +kernel
theorem d_Mo_init_82 : decode c_Mo_init 82 = .ok (.putfield 38, 3) := by decide +kernel
theorem d_Mo_init_85 : decode c_Mo_init 85 = .ok (.aload_n 0, 1) := by decide +kernel
theorem d_Mo_init_86 : decode c_Mo_init 86 = .ok (.iconst 4, 1) := by decide +kernel
theorem d_Mo_init_87 : decode c_Mo_init 87 = .ok (.newarray .int, 2) := by decide +kernel
theorem d_Mo_init_89 : decode c_Mo_init 89 = .ok (.putfield 41, 3) := by decide +kernel
theorem d_Mo_init_92 : decode c_Mo_init 92 = .ok (.aload_n 0, 1) := by decide +kernel
theorem d_Mo_init_93 : decode c_Mo_init 93 = .ok (.sipush 256, 3) := by decide +kernel
theorem d_Mo_init_96 : decode c_Mo_init 96 = .ok (.newarray .int, 2) := by decide +kernel
theorem d_Mo_init_98 : decode c_Mo_init 98 = .ok (.putfield 44, 3) := by decide +kernel
theorem d_Mo_init_101 : decode c_Mo_init 101 = .ok (.aload_n 0, 1) := by decide +kernel
theorem d_Mo_init_102 : decode c_Mo_init 102 = .ok (.sipush 256, 3) := by decide +kernel
theorem d_Mo_init_105 : decode c_Mo_init 105 = .ok (.newarray .int, 2) := by decide +kernel
theorem d_Mo_init_107 : decode c_Mo_init 107 = .ok (.putfield 47, 3) := by decide +kernel
theorem d_Mo_init_110 : decode c_Mo_init 110 = .ok (.return_, 1) := by decide +kernel
def mnt : List (String × Nat × MethodName × String) := [(R_SM, 9, y_St_init, "ShaderMachine"), (R_SM, 18, y_Ch_init, "ShaderMachine"), (R_Ch, 19, y_Lo_init, "ShaderMachine"), (R_Ru, 26, y_Lo_init, "ShaderMachine"), (R_SM, 34, y_Pr_init, "ShaderMachine")]
/-- the links of private constructors across the nest -/
def en_ (U : State) : Prop := ∀ q ∈ mnt, va_Nw (.methodLinkNest q.1 q.2.1 q.2.2.1 q.2.2.2) U
theorem en_.same {u U : State} (hv : u.vm = U.vm) (h : en_ u) : en_ U := fun q hq => va_Nw.same rfl hv (h q hq)
theorem en_.moved {s U : State} (h : en_ s) (hW : s.WarmedH U.vm) : en_ U := fun q hq => va_Nw.warmM hW (h q hq)
def cn_P (D : va_G) (tys : List (ClassId × FieldType)) (ws : va_W) (sz : Nat) (U : State) : Prop := ck_P D tys ws sz U ∧ en_ U
theorem cn_blind {av : List Value} {D : va_G} {tys : List (ClassId × FieldType)} {ws : va_W} {sz : Nat} : FrameBlind (va_Pc av (cn_P D tys ws sz)) := by
  intro a U g mk q
  obtain ⟨q0, q1, q2⟩ := q
  have h := ck_blind (av := av) (D := D) (tys := tys) (ws := ws) (sz := sz) a U g mk ⟨q0, q1⟩
  exact ⟨h.1, h.2, en_.same (u := U) (U := U.calling g mk a) rfl q2⟩
def cn_v (l : Launch) (y : MethodName) (wy : List Cond) (rm : Room) (av : List Value) (D : va_G) (tys : List (ClassId × FieldType)) (ws : va_W) (post : va_W → Prop) (mc ms : Nat) : Prop :=
  ∀ sz : Nat, Met l y wy rm (va_Pc av (cn_P D tys ws sz)) (va_Qv post (ck_B D tys (va_A ws sz)) (va_A ws sz)) mc ms (va_A ws sz)
theorem ch_clsI {D : va_G} {cl : List vw_C} {tys : List (ClassId × FieldType)} {s : State} (hK : va_K D cl tys s) (i j : Nat) {c1 c2 : ClassId} (h1 : tys[i]? = some (c1, .int)) (h2 : tys[j]? = some (c2, .int)) : c1 = c2 := by
  have a1 : s.vm.findClass ("[" ++ (FieldType.int).toString) = some c1 := (hK.2 i _ h1).2
  have a2 : s.vm.findClass ("[" ++ (FieldType.int).toString) = some c2 := (hK.2 j _ h2).2
  exact Option.some.inj (a1.symm.trans a2)
theorem ch_clsL {D : va_G} {cl : List vw_C} {tys : List (ClassId × FieldType)} {s : State} (hK : va_K D cl tys s) (i j : Nat) {c1 c2 : ClassId} (h1 : tys[i]? = some (c1, .long)) (h2 : tys[j]? = some (c2, .long)) : c1 = c2 := by
  have a1 : s.vm.findClass ("[" ++ (FieldType.long).toString) = some c1 := (hK.2 i _ h1).2
  have a2 : s.vm.findClass ("[" ++ (FieldType.long).toString) = some c2 := (hK.2 j _ h2).2
  exact Option.some.inj (a1.symm.trans a2)
theorem ch_arI (n : Nat) (cA : ClassId) : vp_cell cA (n, .inl (fun _ => 0)) = arrV cA n (fun _ => defaultValue .int) := rfl
theorem ch_arL (n : Nat) (cA : ClassId) : vp_cell cA (n, .inr (.inl (fun _ => 0))) = arrV cA n (fun _ => defaultValue .long) := rfl
theorem gw_SW {own : String} {idx maxL : Nat} {y : MethodName} {cb : ByteArray} {ret : Option FieldType} {hh : List (Nat × Nat × Nat × Nat)} {k : Cond} (h1 : Cond.methodLink own idx y ∈ gw) (h2 : Cond.static y ∈ gw) (h3 : Cond.initialized y.cls ∈ gw) (h5 : Cond.codeWith y cb maxL ret hh ∈ gw) : GoodIn (k :: gw) (va_wsS own idx y (Cond.codeWith y cb maxL ret hh :: gw)) := by
  refine gw_all fun w hw => ?_
  rcases List.mem_append.mp hw with h | h
  · simp only [List.mem_cons, List.not_mem_nil, or_false] at h
    rcases h with rfl | rfl | rfl
    · exact h1
    · exact h2
    · exact h3
  · rcases List.mem_cons.mp h with rfl | h
    · exact h5
    · exact h
theorem gw_I {maxL : Nat} {y : MethodName} {cb : ByteArray} {ret : Option FieldType} {k : Cond} (h5 : Cond.code y cb maxL ret ∈ gw) : GoodIn (k :: gw) (Cond.code y cb maxL ret :: gw) := by
  refine gw_all fun w hw => ?_
  rcases List.mem_cons.mp hw with rfl | h
  · exact h5
  · exact h
section CNO
variable {l : Launch} {y : MethodName} {wy ws0 : List Cond} {rm : Room} {av : List Value} {D : va_G} {tys : List (ClassId × FieldType)} {ws w1 : va_W} {cc : ByteArray} {maxL mc ms : Nat} {post : va_W → Prop}
theorem cn_ofv (hy : plainFor y = true) (hw : wy = Cond.code y cc maxL none :: ws0)
    (body : ∀ (p : Program) (e : Env) (s : State) (m : MethodId) (below : List Frame) (meth : Method) (c : Code) (A : Nat → Prop), ck_X p s m av.toArray meth c y wy cc maxL none A → va_K D vwCl tys s → va_P D vwCl ws s.heap → va_D A ws → va_S A s.heap s.heap [] → ev_ A s s.heap → en_ s →
      W p l e rm s m av.toArray below meth c s.heap [] 0 0 (MQ below (va_Qv post (ck_B D tys A) A) av.toArray s mc ms A) (entryFrame m av.toArray maxL)) : cn_v l y wy rm av D tys ws post mc ms := by
  intro sz
  refine va_MetF (cc := cc) (maxL := maxL) (ret := none) hy hw ?_
  intro p e s m args below meth c s₁ B hml hv
  obtain ⟨rfl, ⟨hsz, hP, hK, hD0, hE⟩, hN⟩ := hv
  subst hsz
  exact body p e s m below meth c (va_A ws s.heap.size) ⟨B.exec, B.bytes, B.returns, hml, findClass_of_methodNamed B.named, atoms_spec (ws := wy) B.pre, B.notSynchronized, fun q h => Or.inr h, (name_of_methodNamed B.named B.method).1⟩ hK hP (hD0.self (sz := s.heap.size)) va_S.rf hE hN
end CNO
section CNR
variable {p : Program} {l : Launch} {e : Env} {R : Room} {s : State} {m : MethodId} {args : Array Value} {below : List Frame} {meth : Method} {c : Code} {H : Heap} {locs : List Loc} {cells slots mc ms : Nat} {Q : State → Prop} {D : va_G} {tys : List (ClassId × FieldType)} {A : Nat → Prop} {ws wc wr w1 : va_W} {pc : Nat} {ls : Array Slot} {st0 rest : List Value} {a : Array Value} {cc : ByteArray} {post : va_W → Prop}
theorem cn_vret (hx : p.tables.exec = Jvm.exec) (hb : c.code = cc) (hr : meth.sig.returnType = none) (hlk : meth.locks = false) (hc : cells ≤ mc) (hs : slots ≤ ms) (hp : post w1) (hK : va_K D vwCl tys s) (hP : va_P D vwCl w1 H) (hD : va_D A w1) (hS : va_S A s.heap H locs) (hdg : decode cc pc = .ok (.return_, 1)) :
    W p l e R s m args below meth c H locs cells slots (MQ below (va_Qv post (ck_B D tys A) A) args s mc ms A) (F0 m pc ls []) :=
  W.widen hc hs (W.vret hx hb hr (fun t ht hW => ⟨⟨w1, rfl, hp, by rw [ht]; exact hP, va_K.moved hW.alike hK, hD⟩, hS.F ht⟩) hS.2.2 hdg hlk)
theorem cn_preS {As : List Value} (hK : va_K D vwCl tys s) (hP : va_P D vwCl ws H) (hD : va_D A ws) (hS : va_S A s.heap H locs) (hA : ∀ q : Nat, s.heap.size ≤ q → A q) (hE : ev_ A s s.heap) (hN : en_ s) (isC : List Nat) (hn : va_nd isC = true) (hC : isC.map (fun i => ws[i]?) = wc.map some) :
    PreS s H (va_Pc As (cn_P D tys wc H.size)) As :=
  ⟨cn_blind, fun U hU hW => ⟨((ck_preS (As := As) hK hP hD hS hA hE isC hn hC).2 U hU hW).1, ((ck_preS (As := As) hK hP hD hS hA hE isC hn hC).2 U hU hW).2, hN.moved hW⟩⟩
theorem cn_gov (hr : va_Run p l e R s m args below meth c H locs cells slots mc ms (F0 m pc ls st0) rest (va_Qv post (ck_B D tys (va_A wc H.size)) (va_A wc H.size) a) (va_A wc H.size))
    (hP : va_P D vwCl ws H) (hD : va_D A ws) (hS : va_S A s.heap H locs) (hA : ∀ q : Nat, s.heap.size ≤ q → A q) (isC isR : List Nat) (hC : isC.map (fun i => ws[i]?) = wc.map some) (hR : isR.map (fun i => ws[i]?) = wr.map some) (hn : va_nd isR = true) (hdis : ∀ i ∈ isR, i ∉ isC)
    (kk : ∀ w1 : va_W, post w1 → ∀ (H1 : Heap) (locs1 : List Loc), va_P D vwCl (wr ++ w1) H1 → va_D A (wr ++ w1) → va_S A s.heap H1 locs1 → W p l e R s m args below meth c H1 locs1 (cells + mc) (slots + ms) Q (F0 m (pc + 3) ls rest)) : W p l e R s m args below meth c H locs cells slots Q (F0 m pc ls st0) := by
  have hFc := va_free hD hS hA isC hC
  refine va_callv hr hS (fun q _ h => hFc q h) hFc (fun u t H1 locs1 ht hvm hw hB hz1 hk1 hS1 => ?_)
  obtain ⟨hP1, hK1, hD1⟩ := hB
  rw [ht] at hP1
  obtain ⟨hP2, hD2⟩ := va_join hP hD isC isR hC hR hn hdis hk1 hFc hP1 hD1
  exact kk u hw H1 locs1 hP2 hD2 hS1
end CNR
