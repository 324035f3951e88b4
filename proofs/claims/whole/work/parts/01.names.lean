def R_SM : String := "ShaderMachine"
def R_St : String := "ShaderMachine$Store"
def R_Ve : String := "ShaderMachine$Vectors"
def R_Ch : String := "ShaderMachine$Check"
def R_Lo : String := "ShaderMachine$Loops"
def R_Ru : String := "ShaderMachine$Runner"
def R_Pr : String := "ShaderMachine$Program"
def R_Ki : String := "ShaderMachine$Kind"
def R_Ta : String := "ShaderMachine$Target"
def R_So : String := "ShaderMachine$Source"
def R_Fi : String := "ShaderMachine$Fixed"
def R_Mo : String := "ShaderMachineModel"
def R_La : String := "ShaderMachineLaw"
def R_Ma : String := "java/lang/Math"
def R_Ar : String := "java/util/Arrays"
def T_Ve : u_T := fun k => match k with
  | 0 => ("ShaderMachine$Vectors", "many", "I", true)
  | _ => ("ShaderMachine$Vectors", "parts", "[I", true)
def ty_Ve : Nat → FieldType := fun k => match k with
  | 0 => .int
  | _ => (.array .int)
theorem nd_Ve : ∀ a, a < 2 → ∀ b, b < 2 → a ≠ b → (T_Ve a).2.1 ≠ (T_Ve b).2.1 := by decide +kernel
theorem tk_Ve : ∀ k, k < 2 → parseFieldDescriptor (T_Ve k).2.2.1 = some (ty_Ve k) := by decide +kernel
def T_St : u_T := fun k => match k with
  | 0 => ("ShaderMachine$Store", "memory", "[I", true)
  | 1 => ("ShaderMachine$Store", "temporaries", "LShaderMachine$Vectors;", true)
  | 2 => ("ShaderMachine$Store", "ins", "LShaderMachine$Vectors;", true)
  | 3 => ("ShaderMachine$Store", "outs", "LShaderMachine$Vectors;", true)
  | 4 => ("ShaderMachine$Store", "uniforms", "LShaderMachine$Vectors;", true)
  | 5 => ("ShaderMachine$Store", "textures", "LShaderMachine$Vectors;", true)
  | _ => ("ShaderMachine$Store", "nothing", "LShaderMachine$Vectors;", true)
def ty_St : Nat → FieldType := fun k => match k with
  | 0 => (.array .int)
  | 1 => (.object "ShaderMachine$Vectors")
  | 2 => (.object "ShaderMachine$Vectors")
  | 3 => (.object "ShaderMachine$Vectors")
  | 4 => (.object "ShaderMachine$Vectors")
  | 5 => (.object "ShaderMachine$Vectors")
  | _ => (.object "ShaderMachine$Vectors")
theorem nd_St : ∀ a, a < 7 → ∀ b, b < 7 → a ≠ b → (T_St a).2.1 ≠ (T_St b).2.1 := by decide +kernel
theorem tk_St : ∀ k, k < 7 → parseFieldDescriptor (T_St k).2.2.1 = some (ty_St k) := by decide +kernel
def T_Lo : u_T := fun k => match k with
  | 0 => ("ShaderMachine$Loops", "places", "[I", true)
  | 1 => ("ShaderMachine$Loops", "counts", "[J", true)
  | _ => ("ShaderMachine$Loops", "depth", "I", false)
def ty_Lo : Nat → FieldType := fun k => match k with
  | 0 => (.array .int)
  | 1 => (.array .long)
  | _ => .int
theorem nd_Lo : ∀ a, a < 3 → ∀ b, b < 3 → a ≠ b → (T_Lo a).2.1 ≠ (T_Lo b).2.1 := by decide +kernel
theorem tk_Lo : ∀ k, k < 3 → parseFieldDescriptor (T_Lo k).2.2.1 = some (ty_Lo k) := by decide +kernel
def T_Pr : u_T := fun k => match k with
  | 0 => ("ShaderMachine$Program", "words", "[I", true)
  | _ => ("ShaderMachine$Program", "many", "I", false)
def ty_Pr : Nat → FieldType := fun k => match k with
  | 0 => (.array .int)
  | _ => .int
theorem nd_Pr : ∀ a, a < 2 → ∀ b, b < 2 → a ≠ b → (T_Pr a).2.1 ≠ (T_Pr b).2.1 := by decide +kernel
theorem tk_Pr : ∀ k, k < 2 → parseFieldDescriptor (T_Pr k).2.2.1 = some (ty_Pr k) := by decide +kernel
def T_Ch : u_T := fun k => match k with
  | 0 => ("ShaderMachine$Check", "loopOf", "[I", true)
  | 1 => ("ShaderMachine$Check", "loops", "LShaderMachine$Loops;", true)
  | 2 => ("ShaderMachine$Check", "fault", "I", false)
  | 3 => ("ShaderMachine$Check", "place", "I", false)
  | _ => ("ShaderMachine$Check", "steps", "J", false)
def ty_Ch : Nat → FieldType := fun k => match k with
  | 0 => (.array .int)
  | 1 => (.object "ShaderMachine$Loops")
  | 2 => .int
  | 3 => .int
  | _ => .long
theorem nd_Ch : ∀ a, a < 5 → ∀ b, b < 5 → a ≠ b → (T_Ch a).2.1 ≠ (T_Ch b).2.1 := by decide +kernel
theorem tk_Ch : ∀ k, k < 5 → parseFieldDescriptor (T_Ch k).2.2.1 = some (ty_Ch k) := by decide +kernel
def T_Ru : u_T := fun k => match k with
  | 0 => ("ShaderMachine$Runner", "store", "LShaderMachine$Store;", true)
  | 1 => ("ShaderMachine$Runner", "a", "[I", true)
  | 2 => ("ShaderMachine$Runner", "b", "[I", true)
  | 3 => ("ShaderMachine$Runner", "c", "[I", true)
  | 4 => ("ShaderMachine$Runner", "result", "[I", true)
  | 5 => ("ShaderMachine$Runner", "loops", "LShaderMachine$Loops;", true)
  | 6 => ("ShaderMachine$Runner", "place", "I", false)
  | _ => ("ShaderMachine$Runner", "isKilled", "Z", false)
def ty_Ru : Nat → FieldType := fun k => match k with
  | 0 => (.object "ShaderMachine$Store")
  | 1 => (.array .int)
  | 2 => (.array .int)
  | 3 => (.array .int)
  | 4 => (.array .int)
  | 5 => (.object "ShaderMachine$Loops")
  | 6 => .int
  | _ => .boolean
theorem nd_Ru : ∀ a, a < 8 → ∀ b, b < 8 → a ≠ b → (T_Ru a).2.1 ≠ (T_Ru b).2.1 := by decide +kernel
theorem tk_Ru : ∀ k, k < 8 → parseFieldDescriptor (T_Ru k).2.2.1 = some (ty_Ru k) := by decide +kernel
def T_SM : u_T := fun k => match k with
  | 0 => ("ShaderMachine", "store", "LShaderMachine$Store;", true)
  | 1 => ("ShaderMachine", "check", "LShaderMachine$Check;", true)
  | 2 => ("ShaderMachine", "runner", "LShaderMachine$Runner;", true)
  | 3 => ("ShaderMachine", "current", "LShaderMachine$Program;", false)
  | _ => ("ShaderMachine", "spare", "LShaderMachine$Program;", false)
def ty_SM : Nat → FieldType := fun k => match k with
  | 0 => (.object "ShaderMachine$Store")
  | 1 => (.object "ShaderMachine$Check")
  | 2 => (.object "ShaderMachine$Runner")
  | 3 => (.object "ShaderMachine$Program")
  | _ => (.object "ShaderMachine$Program")
theorem nd_SM : ∀ a, a < 5 → ∀ b, b < 5 → a ≠ b → (T_SM a).2.1 ≠ (T_SM b).2.1 := by decide +kernel
theorem tk_SM : ∀ k, k < 5 → parseFieldDescriptor (T_SM k).2.2.1 = some (ty_SM k) := by decide +kernel
def T_Mo : u_T := fun k => match k with
  | 0 => ("ShaderMachineModel", "thrown", "I", false)
  | 1 => ("ShaderMachineModel", "memory", "[I", true)
  | 2 => ("ShaderMachineModel", "program", "[I", true)
  | 3 => ("ShaderMachineModel", "fresh", "[I", true)
  | 4 => ("ShaderMachineModel", "hasProgram", "Z", false)
  | 5 => ("ShaderMachineModel", "fault", "I", false)
  | 6 => ("ShaderMachineModel", "place", "I", false)
  | 7 => ("ShaderMachineModel", "told", "I", false)
  | 8 => ("ShaderMachineModel", "temporaries", "[I", true)
  | 9 => ("ShaderMachineModel", "ins", "[I", true)
  | 10 => ("ShaderMachineModel", "outs", "[I", true)
  | 11 => ("ShaderMachineModel", "uniforms", "[I", true)
  | 12 => ("ShaderMachineModel", "textures", "[I", true)
  | 13 => ("ShaderMachineModel", "read", "[I", true)
  | 14 => ("ShaderMachineModel", "result", "[I", true)
  | 15 => ("ShaderMachineModel", "killed", "Z", false)
  | 16 => ("ShaderMachineModel", "left", "[I", true)
  | _ => ("ShaderMachineModel", "opening", "[I", true)
def ty_Mo : Nat → FieldType := fun k => match k with
  | 0 => .int
  | 1 => (.array .int)
  | 2 => (.array .int)
  | 3 => (.array .int)
  | 4 => .boolean
  | 5 => .int
  | 6 => .int
  | 7 => .int
  | 8 => (.array .int)
  | 9 => (.array .int)
  | 10 => (.array .int)
  | 11 => (.array .int)
  | 12 => (.array .int)
  | 13 => (.array .int)
  | 14 => (.array .int)
  | 15 => .boolean
  | 16 => (.array .int)
  | _ => (.array .int)
theorem nd_Mo : ∀ a, a < 18 → ∀ b, b < 18 → a ≠ b → (T_Mo a).2.1 ≠ (T_Mo b).2.1 := by decide +kernel
theorem tk_Mo : ∀ k, k < 18 → parseFieldDescriptor (T_Mo k).2.2.1 = some (ty_Mo k) := by decide +kernel
abbrev vwCl : List vw_C := [(R_Ve, T_Ve, 2), (R_St, T_St, 7), (R_Lo, T_Lo, 3), (R_Pr, T_Pr, 2), (R_Ch, T_Ch, 5), (R_Ru, T_Ru, 8), (R_SM, T_SM, 5), (R_Mo, T_Mo, 18)]
abbrev c_SM_init : ByteArray := prog_1_method_1_code
def y_SM_init : MethodName := ⟨R_SM, "<init>", "()V"⟩
abbrev c_SM_poke : ByteArray := prog_1_method_2_code
def y_SM_poke : MethodName := ⟨R_SM, "poke", "(II)V"⟩
abbrev c_SM_load : ByteArray := prog_1_method_3_code
def y_SM_load : MethodName := ⟨R_SM, "load", "(IIZ)I"⟩
abbrev c_SM_fault : ByteArray := prog_1_method_4_code
def y_SM_fault : MethodName := ⟨R_SM, "fault", "(I)I"⟩
abbrev c_SM_in : ByteArray := prog_1_method_5_code
def y_SM_in : MethodName := ⟨R_SM, "in", "(IIIII)V"⟩
abbrev c_SM_uniform : ByteArray := prog_1_method_6_code
def y_SM_uniform : MethodName := ⟨R_SM, "uniform", "(IIIII)V"⟩
abbrev c_SM_texture : ByteArray := prog_1_method_7_code
def y_SM_texture : MethodName := ⟨R_SM, "texture", "(IIIII)V"⟩
abbrev c_SM_run : ByteArray := prog_1_method_8_code
def y_SM_run : MethodName := ⟨R_SM, "run", "()I"⟩
abbrev c_SM_killed : ByteArray := prog_1_method_9_code
def y_SM_killed : MethodName := ⟨R_SM, "killed", "()Z"⟩
abbrev c_SM_out : ByteArray := prog_1_method_10_code
def y_SM_out : MethodName := ⟨R_SM, "out", "(II)I"⟩
abbrev c_SM_temporary : ByteArray := prog_1_method_11_code
def y_SM_temporary : MethodName := ⟨R_SM, "temporary", "(II)I"⟩
abbrev c_SM_mustHave : ByteArray := prog_1_method_12_code
def y_SM_mustHave : MethodName := ⟨R_SM, "mustHave", "(LShaderMachine$Vectors;I)V"⟩
abbrev c_SM_mustHavePart : ByteArray := prog_1_method_13_code
def y_SM_mustHavePart : MethodName := ⟨R_SM, "mustHavePart", "(LShaderMachine$Vectors;II)V"⟩
abbrev c_Mo_init : ByteArray := prog_13_method_1_code
def y_Mo_init : MethodName := ⟨R_Mo, "<init>", "()V"⟩
abbrev c_Mo_thrown : ByteArray := prog_13_method_2_code
def y_Mo_thrown : MethodName := ⟨R_Mo, "thrown", "()I"⟩
abbrev c_Mo_kindOf : ByteArray := prog_13_method_3_code
def y_Mo_kindOf : MethodName := ⟨R_Mo, "kindOf", "([II)I"⟩
abbrev c_Mo_numberOf : ByteArray := prog_13_method_4_code
def y_Mo_numberOf : MethodName := ⟨R_Mo, "numberOf", "([II)I"⟩
abbrev c_Mo_sourceOf : ByteArray := prog_13_method_5_code
def y_Mo_sourceOf : MethodName := ⟨R_Mo, "sourceOf", "([III)I"⟩
abbrev c_Mo_hasTarget : ByteArray := prog_13_method_6_code
def y_Mo_hasTarget : MethodName := ⟨R_Mo, "hasTarget", "(I)Z"⟩
abbrev c_Mo_sources : ByteArray := prog_13_method_7_code
def y_Mo_sources : MethodName := ⟨R_Mo, "sources", "(I)I"⟩
abbrev c_Mo_badTarget : ByteArray := prog_13_method_8_code
def y_Mo_badTarget : MethodName := ⟨R_Mo, "badTarget", "([II)Z"⟩
abbrev c_Mo_badSource : ByteArray := prog_13_method_9_code
def y_Mo_badSource : MethodName := ⟨R_Mo, "badSource", "(IZ)Z"⟩
abbrev c_Mo_badSources : ByteArray := prog_13_method_10_code
def y_Mo_badSources : MethodName := ⟨R_Mo, "badSources", "([II)Z"⟩
abbrev c_Mo_badNumber : ByteArray := prog_13_method_11_code
def y_Mo_badNumber : MethodName := ⟨R_Mo, "badNumber", "([III)Z"⟩
abbrev c_Mo_depth : ByteArray := prog_13_method_12_code
def y_Mo_depth : MethodName := ⟨R_Mo, "depth", "([II)I"⟩
abbrev c_Mo_faultOf : ByteArray := prog_13_method_13_code
def y_Mo_faultOf : MethodName := ⟨R_Mo, "faultOf", "([IIIZ)I"⟩
abbrev c_Mo_around : ByteArray := prog_13_method_14_code
def y_Mo_around : MethodName := ⟨R_Mo, "around", "([II)I"⟩
abbrev c_Mo_closing : ByteArray := prog_13_method_15_code
def y_Mo_closing : MethodName := ⟨R_Mo, "closing", "([III)I"⟩
abbrev c_Mo_steps : ByteArray := prog_13_method_16_code
def y_Mo_steps : MethodName := ⟨R_Mo, "steps", "([II)J"⟩
abbrev c_Mo_no : ByteArray := prog_13_method_17_code
def y_Mo_no : MethodName := ⟨R_Mo, "no", "(II)I"⟩
abbrev c_Mo_check : ByteArray := prog_13_method_18_code
def y_Mo_check : MethodName := ⟨R_Mo, "check", "([IIZ)I"⟩
abbrev c_Mo_refuse : ByteArray := prog_13_method_19_code
def y_Mo_refuse : MethodName := ⟨R_Mo, "refuse", "(Z)Z"⟩
abbrev c_Mo_poke : ByteArray := prog_13_method_20_code
def y_Mo_poke : MethodName := ⟨R_Mo, "poke", "(II)V"⟩
abbrev c_Mo_load : ByteArray := prog_13_method_21_code
def y_Mo_load : MethodName := ⟨R_Mo, "load", "(IIZ)I"⟩
abbrev c_Mo_fault : ByteArray := prog_13_method_22_code
def y_Mo_fault : MethodName := ⟨R_Mo, "fault", "(I)I"⟩
abbrev c_Mo_set : ByteArray := prog_13_method_23_code
def y_Mo_set : MethodName := ⟨R_Mo, "set", "([IIIIII)V"⟩
abbrev c_Mo_in : ByteArray := prog_13_method_24_code
def y_Mo_in : MethodName := ⟨R_Mo, "in", "(IIIII)V"⟩
abbrev c_Mo_uniform : ByteArray := prog_13_method_25_code
def y_Mo_uniform : MethodName := ⟨R_Mo, "uniform", "(IIIII)V"⟩
abbrev c_Mo_texture : ByteArray := prog_13_method_26_code
def y_Mo_texture : MethodName := ⟨R_Mo, "texture", "(IIIII)V"⟩
abbrev c_Mo_product : ByteArray := prog_13_method_27_code
def y_Mo_product : MethodName := ⟨R_Mo, "product", "(II)I"⟩
abbrev c_Mo_oneBy : ByteArray := prog_13_method_28_code
def y_Mo_oneBy : MethodName := ⟨R_Mo, "oneBy", "(I)I"⟩
abbrev c_Mo_greatest : ByteArray := prog_13_method_29_code
def y_Mo_greatest : MethodName := ⟨R_Mo, "greatest", "(J)I"⟩
abbrev c_Mo_take : ByteArray := prog_13_method_30_code
def y_Mo_take : MethodName := ⟨R_Mo, "take", "(II)V"⟩
abbrev c_Mo_word : ByteArray := prog_13_method_31_code
def y_Mo_word : MethodName := ⟨R_Mo, "word", "(I)I"⟩
abbrev c_Mo_part : ByteArray := prog_13_method_32_code
def y_Mo_part : MethodName := ⟨R_Mo, "part", "(II)I"⟩
abbrev c_Mo_more : ByteArray := prog_13_method_33_code
def y_Mo_more : MethodName := ⟨R_Mo, "more", "(II)I"⟩
abbrev c_Mo_put : ByteArray := prog_13_method_34_code
def y_Mo_put : MethodName := ⟨R_Mo, "put", "(II)V"⟩
abbrev c_Mo_run : ByteArray := prog_13_method_35_code
def y_Mo_run : MethodName := ⟨R_Mo, "run", "()I"⟩
abbrev c_Mo_killed : ByteArray := prog_13_method_36_code
def y_Mo_killed : MethodName := ⟨R_Mo, "killed", "()Z"⟩
abbrev c_Mo_out : ByteArray := prog_13_method_37_code
def y_Mo_out : MethodName := ⟨R_Mo, "out", "(II)I"⟩
abbrev c_Mo_temporary : ByteArray := prog_13_method_38_code
def y_Mo_temporary : MethodName := ⟨R_Mo, "temporary", "(II)I"⟩
abbrev c_Ch_init : ByteArray := prog_2_method_1_code
def y_Ch_init : MethodName := ⟨R_Ch, "<init>", "()V"⟩
abbrev c_Ch_found : ByteArray := prog_2_method_2_code
def y_Ch_found : MethodName := ⟨R_Ch, "found", "()I"⟩
abbrev c_Ch_place : ByteArray := prog_2_method_3_code
def y_Ch_place : MethodName := ⟨R_Ch, "place", "()I"⟩
abbrev c_Ch_steps : ByteArray := prog_2_method_4_code
def y_Ch_steps : MethodName := ⟨R_Ch, "steps", "()I"⟩
abbrev c_Ch_examine : ByteArray := prog_2_method_5_code
def y_Ch_examine : MethodName := ⟨R_Ch, "examine", "(LShaderMachine$Program;Z)V"⟩
abbrev c_Ch_examineWhole : ByteArray := prog_2_method_6_code
def y_Ch_examineWhole : MethodName := ⟨R_Ch, "examineWhole", "(LShaderMachine$Program;)V"⟩
abbrev c_Ch_tell : ByteArray := prog_2_method_7_code
def y_Ch_tell : MethodName := ⟨R_Ch, "tell", "(II)V"⟩
abbrev c_Ch_faultOf : ByteArray := prog_2_method_8_code
def y_Ch_faultOf : MethodName := ⟨R_Ch, "faultOf", "(LShaderMachine$Program;IZ)I"⟩
abbrev c_Ch_isTargetWrong : ByteArray := prog_2_method_9_code
def y_Ch_isTargetWrong : MethodName := ⟨R_Ch, "isTargetWrong", "(II)Z"⟩
abbrev c_Ch_areSourcesWrong : ByteArray := prog_2_method_10_code
def y_Ch_areSourcesWrong : MethodName := ⟨R_Ch, "areSourcesWrong", "(III)Z"⟩
abbrev c_Ch_isSourceWrong : ByteArray := prog_2_method_11_code
def y_Ch_isSourceWrong : MethodName := ⟨R_Ch, "isSourceWrong", "(IZ)Z"⟩
abbrev c_Ch_isNumberWrong : ByteArray := prog_2_method_12_code
def y_Ch_isNumberWrong : MethodName := ⟨R_Ch, "isNumberWrong", "(IIII)Z"⟩
abbrev c_Ch_follow : ByteArray := prog_2_method_13_code
def y_Ch_follow : MethodName := ⟨R_Ch, "follow", "(LShaderMachine$Program;I)V"⟩
abbrev c_Ch_firstStray : ByteArray := prog_2_method_14_code
def y_Ch_firstStray : MethodName := ⟨R_Ch, "firstStray", "(LShaderMachine$Program;)I"⟩
abbrev c_Ch_loopAt : ByteArray := prog_2_method_15_code
def y_Ch_loopAt : MethodName := ⟨R_Ch, "loopAt", "(I)I"⟩
abbrev c_Fi_product : ByteArray := prog_3_method_2_code
def y_Fi_product : MethodName := ⟨R_Fi, "product", "(II)I"⟩
abbrev c_Fi_reciprocal : ByteArray := prog_3_method_3_code
def y_Fi_reciprocal : MethodName := ⟨R_Fi, "reciprocal", "(I)I"⟩
abbrev c_Fi_rootOfReciprocal : ByteArray := prog_3_method_4_code
def y_Fi_rootOfReciprocal : MethodName := ⟨R_Fi, "rootOfReciprocal", "(I)I"⟩
abbrev c_Fi_rootOf : ByteArray := prog_3_method_5_code
def y_Fi_rootOf : MethodName := ⟨R_Fi, "rootOf", "(I)I"⟩
abbrev c_Fi_root : ByteArray := prog_3_method_6_code
def y_Fi_root : MethodName := ⟨R_Fi, "root", "(J)I"⟩
abbrev c_Fi_withoutSign : ByteArray := prog_3_method_7_code
def y_Fi_withoutSign : MethodName := ⟨R_Fi, "withoutSign", "(I)I"⟩
abbrev c_Fi_truth : ByteArray := prog_3_method_8_code
def y_Fi_truth : MethodName := ⟨R_Fi, "truth", "(Z)I"⟩
abbrev c_Fi_keptWithin : ByteArray := prog_3_method_9_code
def y_Fi_keptWithin : MethodName := ⟨R_Fi, "keptWithin", "(I)I"⟩
abbrev c_Ki_sources : ByteArray := prog_4_method_2_code
def y_Ki_sources : MethodName := ⟨R_Ki, "sources", "(I)I"⟩
abbrev c_Ki_hasTarget : ByteArray := prog_4_method_3_code
def y_Ki_hasTarget : MethodName := ⟨R_Ki, "hasTarget", "(I)Z"⟩
abbrev c_Ki_goes : ByteArray := prog_4_method_4_code
def y_Ki_goes : MethodName := ⟨R_Ki, "goes", "(I)Z"⟩
abbrev c_Ki_readsTexture : ByteArray := prog_4_method_5_code
def y_Ki_readsTexture : MethodName := ⟨R_Ki, "readsTexture", "(I)Z"⟩
abbrev c_Lo_init : ByteArray := prog_5_method_1_code
def y_Lo_init : MethodName := ⟨R_Lo, "<init>", "()V"⟩
abbrev c_Lo_clear : ByteArray := prog_5_method_2_code
def y_Lo_clear : MethodName := ⟨R_Lo, "clear", "()V"⟩
abbrev c_Lo_isEmpty : ByteArray := prog_5_method_3_code
def y_Lo_isEmpty : MethodName := ⟨R_Lo, "isEmpty", "()Z"⟩
abbrev c_Lo_isFull : ByteArray := prog_5_method_4_code
def y_Lo_isFull : MethodName := ⟨R_Lo, "isFull", "()Z"⟩
abbrev c_Lo_open : ByteArray := prog_5_method_5_code
def y_Lo_open : MethodName := ⟨R_Lo, "open", "(IJ)V"⟩
abbrev c_Lo_close : ByteArray := prog_5_method_6_code
def y_Lo_close : MethodName := ⟨R_Lo, "close", "()V"⟩
abbrev c_Lo_innermost : ByteArray := prog_5_method_7_code
def y_Lo_innermost : MethodName := ⟨R_Lo, "innermost", "()I"⟩
abbrev c_Lo_count : ByteArray := prog_5_method_8_code
def y_Lo_count : MethodName := ⟨R_Lo, "count", "()J"⟩
abbrev c_Lo_setCount : ByteArray := prog_5_method_9_code
def y_Lo_setCount : MethodName := ⟨R_Lo, "setCount", "(J)V"⟩
abbrev c_Pr_init : ByteArray := prog_6_method_1_code
def y_Pr_init : MethodName := ⟨R_Pr, "<init>", "()V"⟩
abbrev c_Pr_read : ByteArray := prog_6_method_2_code
def y_Pr_read : MethodName := ⟨R_Pr, "read", "(LShaderMachine$Store;II)V"⟩
abbrev c_Pr_isEmpty : ByteArray := prog_6_method_3_code
def y_Pr_isEmpty : MethodName := ⟨R_Pr, "isEmpty", "()Z"⟩
abbrev c_Pr_many : ByteArray := prog_6_method_4_code
def y_Pr_many : MethodName := ⟨R_Pr, "many", "()I"⟩
abbrev c_Pr_first : ByteArray := prog_6_method_5_code
def y_Pr_first : MethodName := ⟨R_Pr, "first", "(I)I"⟩
abbrev c_Pr_second : ByteArray := prog_6_method_6_code
def y_Pr_second : MethodName := ⟨R_Pr, "second", "(I)I"⟩
abbrev c_Pr_third : ByteArray := prog_6_method_7_code
def y_Pr_third : MethodName := ⟨R_Pr, "third", "(I)I"⟩
abbrev c_Pr_kind : ByteArray := prog_6_method_8_code
def y_Pr_kind : MethodName := ⟨R_Pr, "kind", "(I)I"⟩
abbrev c_Pr_number : ByteArray := prog_6_method_9_code
def y_Pr_number : MethodName := ⟨R_Pr, "number", "(I)I"⟩
abbrev c_Pr_has : ByteArray := prog_6_method_10_code
def y_Pr_has : MethodName := ⟨R_Pr, "has", "(I)Z"⟩
abbrev c_Ru_init : ByteArray := prog_7_method_1_code
def y_Ru_init : MethodName := ⟨R_Ru, "<init>", "(LShaderMachine$Store;)V"⟩
abbrev c_Ru_wasKilled : ByteArray := prog_7_method_2_code
def y_Ru_wasKilled : MethodName := ⟨R_Ru, "wasKilled", "()Z"⟩
abbrev c_Ru_perform : ByteArray := prog_7_method_3_code
def y_Ru_perform : MethodName := ⟨R_Ru, "perform", "(LShaderMachine$Program;)I"⟩
abbrev c_Ru_step : ByteArray := prog_7_method_4_code
def y_Ru_step : MethodName := ⟨R_Ru, "step", "(LShaderMachine$Program;)Z"⟩
abbrev c_Ru_endRound : ByteArray := prog_7_method_5_code
def y_Ru_endRound : MethodName := ⟨R_Ru, "endRound", "()V"⟩
abbrev c_Ru_readSources : ByteArray := prog_7_method_6_code
def y_Ru_readSources : MethodName := ⟨R_Ru, "readSources", "(LShaderMachine$Program;II)V"⟩
abbrev c_Ru_readSource : ByteArray := prog_7_method_7_code
def y_Ru_readSource : MethodName := ⟨R_Ru, "readSource", "(I[I)V"⟩
abbrev c_Ru_negate : ByteArray := prog_7_method_8_code
def y_Ru_negate : MethodName := ⟨R_Ru, "negate", "([I)V"⟩
abbrev c_Ru_setTarget : ByteArray := prog_7_method_9_code
def y_Ru_setTarget : MethodName := ⟨R_Ru, "setTarget", "(I)V"⟩
abbrev c_Ru_compute : ByteArray := prog_7_method_10_code
def y_Ru_compute : MethodName := ⟨R_Ru, "compute", "(II)V"⟩
abbrev c_Ru_spread : ByteArray := prog_7_method_11_code
def y_Ru_spread : MethodName := ⟨R_Ru, "spread", "(I)V"⟩
abbrev c_Ru_setResult : ByteArray := prog_7_method_12_code
def y_Ru_setResult : MethodName := ⟨R_Ru, "setResult", "(IIII)V"⟩
abbrev c_Ru_dot : ByteArray := prog_7_method_13_code
def y_Ru_dot : MethodName := ⟨R_Ru, "dot", "(I)I"⟩
abbrev c_Ru_cross : ByteArray := prog_7_method_14_code
def y_Ru_cross : MethodName := ⟨R_Ru, "cross", "()V"⟩
abbrev c_Ru_takeWords : ByteArray := prog_7_method_15_code
def y_Ru_takeWords : MethodName := ⟨R_Ru, "takeWords", "(I)V"⟩
abbrev c_Ru_takeTexture : ByteArray := prog_7_method_16_code
def y_Ru_takeTexture : MethodName := ⟨R_Ru, "takeTexture", "(II)V"⟩
abbrev c_Ru_computeParts : ByteArray := prog_7_method_17_code
def y_Ru_computeParts : MethodName := ⟨R_Ru, "computeParts", "(I)V"⟩
abbrev c_Ru_ofParts : ByteArray := prog_7_method_18_code
def y_Ru_ofParts : MethodName := ⟨R_Ru, "ofParts", "(IIII)I"⟩
abbrev c_Ru_ofBits : ByteArray := prog_7_method_19_code
def y_Ru_ofBits : MethodName := ⟨R_Ru, "ofBits", "(III)I"⟩
abbrev c_So_file : ByteArray := prog_8_method_2_code
def y_So_file : MethodName := ⟨R_So, "file", "(I)I"⟩
abbrev c_So_number : ByteArray := prog_8_method_3_code
def y_So_number : MethodName := ⟨R_So, "number", "(I)I"⟩
abbrev c_So_picks : ByteArray := prog_8_method_4_code
def y_So_picks : MethodName := ⟨R_So, "picks", "(I)I"⟩
abbrev c_So_isNegated : ByteArray := prog_8_method_5_code
def y_So_isNegated : MethodName := ⟨R_So, "isNegated", "(I)Z"⟩
abbrev c_St_init : ByteArray := prog_9_method_1_code
def y_St_init : MethodName := ⟨R_St, "<init>", "()V"⟩
abbrev c_St_hasWord : ByteArray := prog_9_method_2_code
def y_St_hasWord : MethodName := ⟨R_St, "hasWord", "(I)Z"⟩
abbrev c_St_word : ByteArray := prog_9_method_3_code
def y_St_word : MethodName := ⟨R_St, "word", "(I)I"⟩
abbrev c_St_setWord : ByteArray := prog_9_method_4_code
def y_St_setWord : MethodName := ⟨R_St, "setWord", "(II)V"⟩
abbrev c_St_sourceFile : ByteArray := prog_9_method_5_code
def y_St_sourceFile : MethodName := ⟨R_St, "sourceFile", "(I)LShaderMachine$Vectors;"⟩
abbrev c_St_targetFile : ByteArray := prog_9_method_6_code
def y_St_targetFile : MethodName := ⟨R_St, "targetFile", "(I)LShaderMachine$Vectors;"⟩
abbrev c_Ta_file : ByteArray := prog_10_method_2_code
def y_Ta_file : MethodName := ⟨R_Ta, "file", "(I)I"⟩
abbrev c_Ta_number : ByteArray := prog_10_method_3_code
def y_Ta_number : MethodName := ⟨R_Ta, "number", "(I)I"⟩
abbrev c_Ta_setsAny : ByteArray := prog_10_method_4_code
def y_Ta_setsAny : MethodName := ⟨R_Ta, "setsAny", "(I)Z"⟩
abbrev c_Ta_sets : ByteArray := prog_10_method_5_code
def y_Ta_sets : MethodName := ⟨R_Ta, "sets", "(II)Z"⟩
abbrev c_Ta_isKeptWithin : ByteArray := prog_10_method_6_code
def y_Ta_isKeptWithin : MethodName := ⟨R_Ta, "isKeptWithin", "(I)Z"⟩
abbrev c_Ve_init : ByteArray := prog_11_method_1_code
def y_Ve_init : MethodName := ⟨R_Ve, "<init>", "(I)V"⟩
abbrev c_Ve_has : ByteArray := prog_11_method_2_code
def y_Ve_has : MethodName := ⟨R_Ve, "has", "(I)Z"⟩
abbrev c_Ve_hasPart : ByteArray := prog_11_method_3_code
def y_Ve_hasPart : MethodName := ⟨R_Ve, "hasPart", "(II)Z"⟩
abbrev c_Ve_part : ByteArray := prog_11_method_4_code
def y_Ve_part : MethodName := ⟨R_Ve, "part", "(II)I"⟩
abbrev c_Ve_pick : ByteArray := prog_11_method_5_code
def y_Ve_pick : MethodName := ⟨R_Ve, "pick", "(II[I)V"⟩
abbrev c_Ve_setPart : ByteArray := prog_11_method_6_code
def y_Ve_setPart : MethodName := ⟨R_Ve, "setPart", "(III)V"⟩
abbrev c_Ve_set : ByteArray := prog_11_method_7_code
def y_Ve_set : MethodName := ⟨R_Ve, "set", "(IIIII)V"⟩
abbrev c_Ve_clear : ByteArray := prog_11_method_8_code
def y_Ve_clear : MethodName := ⟨R_Ve, "clear", "()V"⟩
abbrev c_La_poke : ByteArray := method_3_code
def y_La_poke : MethodName := ⟨R_La, "poke", "(LShaderMachine;II)I"⟩
abbrev c_La_load : ByteArray := method_4_code
def y_La_load : MethodName := ⟨R_La, "load", "(LShaderMachine;IIZ[J)I"⟩
abbrev c_La_in : ByteArray := method_5_code
def y_La_in : MethodName := ⟨R_La, "in", "(LShaderMachine;IIIII)I"⟩
abbrev c_La_uniform : ByteArray := method_6_code
def y_La_uniform : MethodName := ⟨R_La, "uniform", "(LShaderMachine;IIIII)I"⟩
abbrev c_La_texture : ByteArray := method_7_code
def y_La_texture : MethodName := ⟨R_La, "texture", "(LShaderMachine;IIIII)I"⟩
abbrev c_La_run : ByteArray := method_8_code
def y_La_run : MethodName := ⟨R_La, "run", "(LShaderMachine;[J)I"⟩
abbrev c_La_out : ByteArray := method_9_code
def y_La_out : MethodName := ⟨R_La, "out", "(LShaderMachine;II[J)I"⟩
abbrev c_La_temporary : ByteArray := method_10_code
def y_La_temporary : MethodName := ⟨R_La, "temporary", "(LShaderMachine;II[J)I"⟩
abbrev c_Ma_floorDiv : ByteArray := prog_18_method_49_code
def y_Ma_floorDiv : MethodName := ⟨R_Ma, "floorDiv", "(JJ)J"⟩
abbrev c_Ma_max : ByteArray := prog_18_method_65_code
def y_Ma_max : MethodName := ⟨R_Ma, "max", "(II)I"⟩
abbrev c_Ma_max_JJJ : ByteArray := prog_18_method_66_code
def y_Ma_max_JJJ : MethodName := ⟨R_Ma, "max", "(JJ)J"⟩
abbrev c_Ma_min : ByteArray := prog_18_method_69_code
def y_Ma_min : MethodName := ⟨R_Ma, "min", "(II)I"⟩
abbrev c_Ma_min_JJJ : ByteArray := prog_18_method_70_code
def y_Ma_min_JJJ : MethodName := ⟨R_Ma, "min", "(JJ)J"⟩
abbrev c_Ar_fill : ByteArray := prog_22_method_103_code
def y_Ar_fill : MethodName := ⟨R_Ar, "fill", "([II)V"⟩
def gw : List Cond := lw_tbl.filter goodWord
theorem gw_tb {w : Cond} (h : w ∈ gw) : w ∈ lw_tbl := (List.mem_filter.mp h).1
theorem gw_ok {w : Cond} (h : w ∈ gw) : (w.onTables && w.keeps) = true ∨ ∃ ty, w = .arrayClass ty := good_of_word (List.mem_filter.mp h).2
theorem gw_1 {w : Cond} (i : Nat) (h0 : tables_1_1[i]? = some w) (hg : goodWord w = true) : w ∈ gw := by
  have h := List.mem_of_getElem? h0
  have h9 : w ∈ tables_1 := List.mem_append_left _ h
  exact List.mem_filter.mpr ⟨List.mem_append_right _ h9, hg⟩
theorem gw_2 {w : Cond} (i : Nat) (h0 : tables_1_2[i]? = some w) (hg : goodWord w = true) : w ∈ gw := by
  have h := List.mem_of_getElem? h0
  have h9 : w ∈ tables_1 := List.mem_append_right _ (List.mem_append_left _ h)
  exact List.mem_filter.mpr ⟨List.mem_append_right _ h9, hg⟩
theorem gw_3 {w : Cond} (i : Nat) (h0 : tables_1_3[i]? = some w) (hg : goodWord w = true) : w ∈ gw := by
  have h := List.mem_of_getElem? h0
  have h9 : w ∈ tables_1 := List.mem_append_right _ (List.mem_append_right _ (List.mem_append_left _ h))
  exact List.mem_filter.mpr ⟨List.mem_append_right _ h9, hg⟩
theorem gw_4 {w : Cond} (i : Nat) (h0 : tables_1_4[i]? = some w) (hg : goodWord w = true) : w ∈ gw := by
  have h := List.mem_of_getElem? h0
  have h9 : w ∈ tables_1 := List.mem_append_right _ (List.mem_append_right _ (List.mem_append_right _ (h)))
  exact List.mem_filter.mpr ⟨List.mem_append_right _ h9, hg⟩
theorem gw_s {w : Cond} (i : Nat) (h0 : (k2_sels lw_privs)[i]? = some w) (hg : goodWord w = true) : w ∈ gw := List.mem_filter.mpr ⟨List.mem_append_left _ (List.mem_of_getElem? h0), hg⟩
theorem gw_all {k : Cond} {ws : List Cond} (h : ∀ w ∈ ws, w ∈ gw) : GoodIn (k :: gw) ws := fun w hw => ⟨List.mem_cons_of_mem _ (h w hw), gw_ok (h w hw)⟩
theorem gw_V {own C : String} {idx maxL : Nat} {y : MethodName} {cb : ByteArray} {ret : Option FieldType} {k : Cond} (h1 : Cond.methodLink own idx y ∈ gw) (h2 : Cond.instanceMethod y ∈ gw) (h3 : Cond.selects C y y ∈ gw) (h4 : Cond.initialized C ∈ gw) (h5 : Cond.code y cb maxL ret ∈ gw) : GoodIn (k :: gw) (wsV own idx C y (Cond.code y cb maxL ret :: gw)) := by
  refine gw_all fun w hw => ?_
  rcases List.mem_append.mp hw with h | h
  · simp only [List.mem_cons, List.not_mem_nil, or_false] at h
    rcases h with rfl | rfl | rfl | rfl
    · exact h1
    · exact h2
    · exact h3
    · exact h4
  · rcases List.mem_cons.mp h with rfl | h
    · exact h5
    · exact h
theorem gw_S {own : String} {idx maxL : Nat} {y : MethodName} {cb : ByteArray} {ret : Option FieldType} {k : Cond} (h1 : Cond.methodLink own idx y ∈ gw) (h2 : Cond.static y ∈ gw) (h3 : Cond.initialized y.cls ∈ gw) (h5 : Cond.code y cb maxL ret ∈ gw) : GoodIn (k :: gw) (va_wsS own idx y (Cond.code y cb maxL ret :: gw)) := by
  refine gw_all fun w hw => ?_
  rcases List.mem_append.mp hw with h | h
  · simp only [List.mem_cons, List.not_mem_nil, or_false] at h
    rcases h with rfl | rfl | rfl
    · exact h1
    · exact h2
    · exact h3
  · rcases List.mem_cons.mp h with rfl | h
    · exact h5
    · exact h
def wm_SM_init : List Cond := Cond.code y_SM_init c_SM_init 1 none :: gw
def wm_SM_poke : List Cond := Cond.code y_SM_poke c_SM_poke 3 none :: gw
def wm_SM_load : List Cond := Cond.code y_SM_load c_SM_load 5 (some .int) :: gw
def wm_SM_fault : List Cond := Cond.code y_SM_fault c_SM_fault 2 (some .int) :: gw
def wm_SM_in : List Cond := Cond.code y_SM_in c_SM_in 6 none :: gw
def wm_SM_uniform : List Cond := Cond.code y_SM_uniform c_SM_uniform 6 none :: gw
def wm_SM_texture : List Cond := Cond.code y_SM_texture c_SM_texture 6 none :: gw
def wm_SM_run : List Cond := Cond.code y_SM_run c_SM_run 1 (some .int) :: gw
def wm_SM_killed : List Cond := Cond.code y_SM_killed c_SM_killed 1 (some .boolean) :: gw
def wm_SM_out : List Cond := Cond.code y_SM_out c_SM_out 3 (some .int) :: gw
def wm_SM_temporary : List Cond := Cond.code y_SM_temporary c_SM_temporary 3 (some .int) :: gw
def wm_SM_mustHave : List Cond := Cond.code y_SM_mustHave c_SM_mustHave 2 none :: gw
def wm_SM_mustHavePart : List Cond := Cond.code y_SM_mustHavePart c_SM_mustHavePart 3 none :: gw
def wm_Mo_init : List Cond := Cond.code y_Mo_init c_Mo_init 1 none :: gw
def wm_Mo_thrown : List Cond := Cond.code y_Mo_thrown c_Mo_thrown 1 (some .int) :: gw
def wm_Mo_kindOf : List Cond := Cond.code y_Mo_kindOf c_Mo_kindOf 2 (some .int) :: gw
def wm_Mo_numberOf : List Cond := Cond.code y_Mo_numberOf c_Mo_numberOf 2 (some .int) :: gw
def wm_Mo_sourceOf : List Cond := Cond.code y_Mo_sourceOf c_Mo_sourceOf 3 (some .int) :: gw
def wm_Mo_hasTarget : List Cond := Cond.code y_Mo_hasTarget c_Mo_hasTarget 1 (some .boolean) :: gw
def wm_Mo_sources : List Cond := Cond.code y_Mo_sources c_Mo_sources 1 (some .int) :: gw
def wm_Mo_badTarget : List Cond := Cond.code y_Mo_badTarget c_Mo_badTarget 4 (some .boolean) :: gw
def wm_Mo_badSource : List Cond := Cond.code y_Mo_badSource c_Mo_badSource 4 (some .boolean) :: gw
def wm_Mo_badSources : List Cond := Cond.code y_Mo_badSources c_Mo_badSources 5 (some .boolean) :: gw
def wm_Mo_badNumber : List Cond := Cond.code y_Mo_badNumber c_Mo_badNumber 4 (some .boolean) :: gw
def wm_Mo_depth : List Cond := Cond.code y_Mo_depth c_Mo_depth 4 (some .int) :: gw
def wm_Mo_faultOf : List Cond := Cond.code y_Mo_faultOf c_Mo_faultOf 5 (some .int) :: gw
def wm_Mo_around : List Cond := Cond.code y_Mo_around c_Mo_around 4 (some .int) :: gw
def wm_Mo_closing : List Cond := Cond.code y_Mo_closing c_Mo_closing 5 (some .int) :: gw
def wm_Mo_steps : List Cond := Cond.code y_Mo_steps c_Mo_steps 8 (some .long) :: gw
def wm_Mo_no : List Cond := Cond.code y_Mo_no c_Mo_no 3 (some .int) :: gw
def wm_Mo_check : List Cond := Cond.code y_Mo_check c_Mo_check 6 (some .int) :: gw
def wm_Mo_refuse : List Cond := Cond.code y_Mo_refuse c_Mo_refuse 2 (some .boolean) :: gw
def wm_Mo_poke : List Cond := Cond.code y_Mo_poke c_Mo_poke 3 none :: gw
def wm_Mo_load : List Cond := Cond.code y_Mo_load c_Mo_load 5 (some .int) :: gw
def wm_Mo_fault : List Cond := Cond.code y_Mo_fault c_Mo_fault 2 (some .int) :: gw
def wm_Mo_set : List Cond := Cond.code y_Mo_set c_Mo_set 7 none :: gw
def wm_Mo_in : List Cond := Cond.code y_Mo_in c_Mo_in 6 none :: gw
def wm_Mo_uniform : List Cond := Cond.code y_Mo_uniform c_Mo_uniform 6 none :: gw
def wm_Mo_texture : List Cond := Cond.code y_Mo_texture c_Mo_texture 6 none :: gw
def wm_Mo_product : List Cond := Cond.code y_Mo_product c_Mo_product 2 (some .int) :: gw
def wm_Mo_oneBy : List Cond := Cond.code y_Mo_oneBy c_Mo_oneBy 3 (some .int) :: gw
def wm_Mo_greatest : List Cond := Cond.code y_Mo_greatest c_Mo_greatest 6 (some .int) :: gw
def wm_Mo_take : List Cond := Cond.code y_Mo_take c_Mo_take 7 none :: gw
def wm_Mo_word : List Cond := Cond.code y_Mo_word c_Mo_word 2 (some .int) :: gw
def wm_Mo_part : List Cond := Cond.code y_Mo_part c_Mo_part 7 (some .int) :: gw
def wm_Mo_more : List Cond := Cond.code y_Mo_more c_Mo_more 8 (some .int) :: gw
def wm_Mo_put : List Cond := Cond.code y_Mo_put c_Mo_put 5 none :: gw
def wm_Mo_run : List Cond := Cond.code y_Mo_run c_Mo_run 6 (some .int) :: gw
def wm_Mo_killed : List Cond := Cond.code y_Mo_killed c_Mo_killed 1 (some .boolean) :: gw
def wm_Mo_out : List Cond := Cond.code y_Mo_out c_Mo_out 3 (some .int) :: gw
def wm_Mo_temporary : List Cond := Cond.code y_Mo_temporary c_Mo_temporary 3 (some .int) :: gw
def wm_Ch_init : List Cond := Cond.code y_Ch_init c_Ch_init 1 none :: gw
def wm_Ch_found : List Cond := Cond.code y_Ch_found c_Ch_found 1 (some .int) :: gw
def wm_Ch_place : List Cond := Cond.code y_Ch_place c_Ch_place 1 (some .int) :: gw
def wm_Ch_steps : List Cond := Cond.code y_Ch_steps c_Ch_steps 1 (some .int) :: gw
def wm_Ch_examine : List Cond := Cond.code y_Ch_examine c_Ch_examine 5 none :: gw
def wm_Ch_examineWhole : List Cond := Cond.code y_Ch_examineWhole c_Ch_examineWhole 3 none :: gw
def wm_Ch_tell : List Cond := Cond.code y_Ch_tell c_Ch_tell 3 none :: gw
def wm_Ch_faultOf : List Cond := Cond.code y_Ch_faultOf c_Ch_faultOf 5 (some .int) :: gw
def wm_Ch_isTargetWrong : List Cond := Cond.code y_Ch_isTargetWrong c_Ch_isTargetWrong 2 (some .boolean) :: gw
def wm_Ch_areSourcesWrong : List Cond := Cond.code y_Ch_areSourcesWrong c_Ch_areSourcesWrong 4 (some .boolean) :: gw
def wm_Ch_isSourceWrong : List Cond := Cond.code y_Ch_isSourceWrong c_Ch_isSourceWrong 3 (some .boolean) :: gw
def wm_Ch_isNumberWrong : List Cond := Cond.code y_Ch_isNumberWrong c_Ch_isNumberWrong 4 (some .boolean) :: gw
def wm_Ch_follow : List Cond := Cond.code y_Ch_follow c_Ch_follow 5 none :: gw
def wm_Ch_firstStray : List Cond := Cond.code y_Ch_firstStray c_Ch_firstStray 3 (some .int) :: gw
def wm_Ch_loopAt : List Cond := Cond.code y_Ch_loopAt c_Ch_loopAt 2 (some .int) :: gw
def wm_Fi_product : List Cond := Cond.code y_Fi_product c_Fi_product 2 (some .int) :: gw
def wm_Fi_reciprocal : List Cond := Cond.code y_Fi_reciprocal c_Fi_reciprocal 3 (some .int) :: gw
def wm_Fi_rootOfReciprocal : List Cond := Cond.code y_Fi_rootOfReciprocal c_Fi_rootOfReciprocal 1 (some .int) :: gw
def wm_Fi_rootOf : List Cond := Cond.code y_Fi_rootOf c_Fi_rootOf 1 (some .int) :: gw
def wm_Fi_root : List Cond := Cond.code y_Fi_root c_Fi_root 8 (some .int) :: gw
def wm_Fi_withoutSign : List Cond := Cond.code y_Fi_withoutSign c_Fi_withoutSign 1 (some .int) :: gw
def wm_Fi_truth : List Cond := Cond.code y_Fi_truth c_Fi_truth 1 (some .int) :: gw
def wm_Fi_keptWithin : List Cond := Cond.code y_Fi_keptWithin c_Fi_keptWithin 1 (some .int) :: gw
def wm_Ki_sources : List Cond := Cond.code y_Ki_sources c_Ki_sources 1 (some .int) :: gw
def wm_Ki_hasTarget : List Cond := Cond.code y_Ki_hasTarget c_Ki_hasTarget 1 (some .boolean) :: gw
def wm_Ki_goes : List Cond := Cond.code y_Ki_goes c_Ki_goes 1 (some .boolean) :: gw
def wm_Ki_readsTexture : List Cond := Cond.code y_Ki_readsTexture c_Ki_readsTexture 1 (some .boolean) :: gw
def wm_Lo_init : List Cond := Cond.code y_Lo_init c_Lo_init 1 none :: gw
def wm_Lo_clear : List Cond := Cond.code y_Lo_clear c_Lo_clear 1 none :: gw
def wm_Lo_isEmpty : List Cond := Cond.code y_Lo_isEmpty c_Lo_isEmpty 1 (some .boolean) :: gw
def wm_Lo_isFull : List Cond := Cond.code y_Lo_isFull c_Lo_isFull 1 (some .boolean) :: gw
def wm_Lo_open : List Cond := Cond.code y_Lo_open c_Lo_open 4 none :: gw
def wm_Lo_close : List Cond := Cond.code y_Lo_close c_Lo_close 1 none :: gw
def wm_Lo_innermost : List Cond := Cond.code y_Lo_innermost c_Lo_innermost 1 (some .int) :: gw
def wm_Lo_count : List Cond := Cond.code y_Lo_count c_Lo_count 1 (some .long) :: gw
def wm_Lo_setCount : List Cond := Cond.code y_Lo_setCount c_Lo_setCount 3 none :: gw
def wm_Pr_init : List Cond := Cond.code y_Pr_init c_Pr_init 1 none :: gw
def wm_Pr_read : List Cond := Cond.code y_Pr_read c_Pr_read 5 none :: gw
def wm_Pr_isEmpty : List Cond := Cond.code y_Pr_isEmpty c_Pr_isEmpty 1 (some .boolean) :: gw
def wm_Pr_many : List Cond := Cond.code y_Pr_many c_Pr_many 1 (some .int) :: gw
def wm_Pr_first : List Cond := Cond.code y_Pr_first c_Pr_first 2 (some .int) :: gw
def wm_Pr_second : List Cond := Cond.code y_Pr_second c_Pr_second 2 (some .int) :: gw
def wm_Pr_third : List Cond := Cond.code y_Pr_third c_Pr_third 2 (some .int) :: gw
def wm_Pr_kind : List Cond := Cond.code y_Pr_kind c_Pr_kind 2 (some .int) :: gw
def wm_Pr_number : List Cond := Cond.code y_Pr_number c_Pr_number 2 (some .int) :: gw
def wm_Pr_has : List Cond := Cond.code y_Pr_has c_Pr_has 2 (some .boolean) :: gw
def wm_Ru_init : List Cond := Cond.code y_Ru_init c_Ru_init 2 none :: gw
def wm_Ru_wasKilled : List Cond := Cond.code y_Ru_wasKilled c_Ru_wasKilled 1 (some .boolean) :: gw
def wm_Ru_perform : List Cond := Cond.code y_Ru_perform c_Ru_perform 4 (some .int) :: gw
def wm_Ru_step : List Cond := Cond.code y_Ru_step c_Ru_step 5 (some .boolean) :: gw
def wm_Ru_endRound : List Cond := Cond.code y_Ru_endRound c_Ru_endRound 3 none :: gw
def wm_Ru_readSources : List Cond := Cond.code y_Ru_readSources c_Ru_readSources 4 none :: gw
def wm_Ru_readSource : List Cond := Cond.code y_Ru_readSource c_Ru_readSource 4 none :: gw
def wm_Ru_negate : List Cond := Cond.code y_Ru_negate c_Ru_negate 2 none :: gw
def wm_Ru_setTarget : List Cond := Cond.code y_Ru_setTarget c_Ru_setTarget 6 none :: gw
def wm_Ru_compute : List Cond := Cond.code y_Ru_compute c_Ru_compute 3 none :: gw
def wm_Ru_spread : List Cond := Cond.code y_Ru_spread c_Ru_spread 2 none :: gw
def wm_Ru_setResult : List Cond := Cond.code y_Ru_setResult c_Ru_setResult 5 none :: gw
def wm_Ru_dot : List Cond := Cond.code y_Ru_dot c_Ru_dot 4 (some .int) :: gw
def wm_Ru_cross : List Cond := Cond.code y_Ru_cross c_Ru_cross 1 none :: gw
def wm_Ru_takeWords : List Cond := Cond.code y_Ru_takeWords c_Ru_takeWords 3 none :: gw
def wm_Ru_takeTexture : List Cond := Cond.code y_Ru_takeTexture c_Ru_takeTexture 4 none :: gw
def wm_Ru_computeParts : List Cond := Cond.code y_Ru_computeParts c_Ru_computeParts 3 none :: gw
def wm_Ru_ofParts : List Cond := Cond.code y_Ru_ofParts c_Ru_ofParts 4 (some .int) :: gw
def wm_Ru_ofBits : List Cond := Cond.code y_Ru_ofBits c_Ru_ofBits 3 (some .int) :: gw
def wm_So_file : List Cond := Cond.code y_So_file c_So_file 1 (some .int) :: gw
def wm_So_number : List Cond := Cond.code y_So_number c_So_number 1 (some .int) :: gw
def wm_So_picks : List Cond := Cond.code y_So_picks c_So_picks 1 (some .int) :: gw
def wm_So_isNegated : List Cond := Cond.code y_So_isNegated c_So_isNegated 1 (some .boolean) :: gw
def wm_St_init : List Cond := Cond.code y_St_init c_St_init 1 none :: gw
def wm_St_hasWord : List Cond := Cond.code y_St_hasWord c_St_hasWord 2 (some .boolean) :: gw
def wm_St_word : List Cond := Cond.code y_St_word c_St_word 2 (some .int) :: gw
def wm_St_setWord : List Cond := Cond.code y_St_setWord c_St_setWord 3 none :: gw
def wm_St_sourceFile : List Cond := Cond.code y_St_sourceFile c_St_sourceFile 2 (some (.object "ShaderMachine$Vectors")) :: gw
def wm_St_targetFile : List Cond := Cond.code y_St_targetFile c_St_targetFile 2 (some (.object "ShaderMachine$Vectors")) :: gw
def wm_Ta_file : List Cond := Cond.code y_Ta_file c_Ta_file 1 (some .int) :: gw
def wm_Ta_number : List Cond := Cond.code y_Ta_number c_Ta_number 1 (some .int) :: gw
def wm_Ta_setsAny : List Cond := Cond.code y_Ta_setsAny c_Ta_setsAny 1 (some .boolean) :: gw
def wm_Ta_sets : List Cond := Cond.code y_Ta_sets c_Ta_sets 2 (some .boolean) :: gw
def wm_Ta_isKeptWithin : List Cond := Cond.code y_Ta_isKeptWithin c_Ta_isKeptWithin 1 (some .boolean) :: gw
def wm_Ve_init : List Cond := Cond.code y_Ve_init c_Ve_init 2 none :: gw
def wm_Ve_has : List Cond := Cond.code y_Ve_has c_Ve_has 2 (some .boolean) :: gw
def wm_Ve_hasPart : List Cond := Cond.code y_Ve_hasPart c_Ve_hasPart 3 (some .boolean) :: gw
def wm_Ve_part : List Cond := Cond.code y_Ve_part c_Ve_part 3 (some .int) :: gw
def wm_Ve_pick : List Cond := Cond.code y_Ve_pick c_Ve_pick 6 none :: gw
def wm_Ve_setPart : List Cond := Cond.code y_Ve_setPart c_Ve_setPart 4 none :: gw
def wm_Ve_set : List Cond := Cond.code y_Ve_set c_Ve_set 6 none :: gw
def wm_Ve_clear : List Cond := Cond.code y_Ve_clear c_Ve_clear 1 none :: gw
def wm_Ma_floorDiv : List Cond := Cond.code y_Ma_floorDiv c_Ma_floorDiv 6 (some .long) :: gw
def wm_Ma_max : List Cond := Cond.code y_Ma_max c_Ma_max 2 (some .int) :: gw
def wm_Ma_max_JJJ : List Cond := Cond.code y_Ma_max_JJJ c_Ma_max_JJJ 4 (some .long) :: gw
def wm_Ma_min : List Cond := Cond.code y_Ma_min c_Ma_min 2 (some .int) :: gw
def wm_Ma_min_JJJ : List Cond := Cond.code y_Ma_min_JJJ c_Ma_min_JJJ 4 (some .long) :: gw
def wm_Ar_fill : List Cond := Cond.code y_Ar_fill c_Ar_fill 4 none :: gw
def wm_La_poke : List Cond := Cond.codeWith y_La_poke c_La_poke 4 (some .int) [(0, 6, 9, 13)] :: gw
def wm_La_load : List Cond := Cond.codeWith y_La_load c_La_load 6 (some .int) [(0, 12, 15, 13), (0, 12, 19, 19)] :: gw
def wm_La_in : List Cond := Cond.codeWith y_La_in c_La_in 7 (some .int) [(0, 11, 14, 13)] :: gw
def wm_La_uniform : List Cond := Cond.codeWith y_La_uniform c_La_uniform 7 (some .int) [(0, 11, 14, 13)] :: gw
def wm_La_texture : List Cond := Cond.codeWith y_La_texture c_La_texture 7 (some .int) [(0, 11, 14, 13)] :: gw
def wm_La_run : List Cond := Cond.codeWith y_La_run c_La_run 3 (some .int) [(0, 8, 11, 35)] :: gw
def wm_La_out : List Cond := Cond.codeWith y_La_out c_La_out 5 (some .int) [(0, 10, 13, 13)] :: gw
def wm_La_temporary : List Cond := Cond.codeWith y_La_temporary c_La_temporary 5 (some .int) [(0, 10, 13, 13)] :: gw
theorem iu_Ve : ∀ w ∈ u_ws R_Ve T_Ve 2, w ∈ gw := by
  intro w hw
  obtain ⟨k, hk, rfl⟩ := List.mem_map.mp hw
  have hk := List.mem_range.mp hk
  match k, hk with
  | 0, _ => exact gw_1 46 (by decide +kernel) (by decide +kernel)
  | 1, _ => exact gw_1 48 (by decide +kernel) (by decide +kernel)
  | k + 2, h => exact absurd h (by omega)
theorem iw_Ve (k : Cond) : ∀ w ∈ u_ws R_Ve T_Ve 2, w ∈ k :: gw := fun w h => List.mem_cons_of_mem _ (iu_Ve w h)
theorem iu_St : ∀ w ∈ u_ws R_St T_St 7, w ∈ gw := by
  intro w hw
  obtain ⟨k, hk, rfl⟩ := List.mem_map.mp hw
  have hk := List.mem_range.mp hk
  match k, hk with
  | 0, _ => exact gw_1 68 (by decide +kernel) (by decide +kernel)
  | 1, _ => exact gw_1 70 (by decide +kernel) (by decide +kernel)
  | 2, _ => exact gw_1 72 (by decide +kernel) (by decide +kernel)
  | 3, _ => exact gw_1 74 (by decide +kernel) (by decide +kernel)
  | 4, _ => exact gw_1 76 (by decide +kernel) (by decide +kernel)
  | 5, _ => exact gw_1 78 (by decide +kernel) (by decide +kernel)
  | 6, _ => exact gw_1 80 (by decide +kernel) (by decide +kernel)
  | k + 7, h => exact absurd h (by omega)
theorem iw_St (k : Cond) : ∀ w ∈ u_ws R_St T_St 7, w ∈ k :: gw := fun w h => List.mem_cons_of_mem _ (iu_St w h)
theorem iu_Lo : ∀ w ∈ u_ws R_Lo T_Lo 3, w ∈ gw := by
  intro w hw
  obtain ⟨k, hk, rfl⟩ := List.mem_map.mp hw
  have hk := List.mem_range.mp hk
  match k, hk with
  | 0, _ => exact gw_1 98 (by decide +kernel) (by decide +kernel)
  | 1, _ => exact gw_1 100 (by decide +kernel) (by decide +kernel)
  | 2, _ => exact gw_1 102 (by decide +kernel) (by decide +kernel)
  | k + 3, h => exact absurd h (by omega)
theorem iw_Lo (k : Cond) : ∀ w ∈ u_ws R_Lo T_Lo 3, w ∈ k :: gw := fun w h => List.mem_cons_of_mem _ (iu_Lo w h)
theorem iu_Pr : ∀ w ∈ u_ws R_Pr T_Pr 2, w ∈ gw := by
  intro w hw
  obtain ⟨k, hk, rfl⟩ := List.mem_map.mp hw
  have hk := List.mem_range.mp hk
  match k, hk with
  | 0, _ => exact gw_1 163 (by decide +kernel) (by decide +kernel)
  | 1, _ => exact gw_1 165 (by decide +kernel) (by decide +kernel)
  | k + 2, h => exact absurd h (by omega)
theorem iw_Pr (k : Cond) : ∀ w ∈ u_ws R_Pr T_Pr 2, w ∈ k :: gw := fun w h => List.mem_cons_of_mem _ (iu_Pr w h)
theorem iu_Ch : ∀ w ∈ u_ws R_Ch T_Ch 5, w ∈ gw := by
  intro w hw
  obtain ⟨k, hk, rfl⟩ := List.mem_map.mp hw
  have hk := List.mem_range.mp hk
  match k, hk with
  | 0, _ => exact gw_1 111 (by decide +kernel) (by decide +kernel)
  | 1, _ => exact gw_1 113 (by decide +kernel) (by decide +kernel)
  | 2, _ => exact gw_1 115 (by decide +kernel) (by decide +kernel)
  | 3, _ => exact gw_1 117 (by decide +kernel) (by decide +kernel)
  | 4, _ => exact gw_1 119 (by decide +kernel) (by decide +kernel)
  | k + 5, h => exact absurd h (by omega)
theorem iw_Ch (k : Cond) : ∀ w ∈ u_ws R_Ch T_Ch 5, w ∈ k :: gw := fun w h => List.mem_cons_of_mem _ (iu_Ch w h)
theorem iu_Ru : ∀ w ∈ u_ws R_Ru T_Ru 8, w ∈ gw := by
  intro w hw
  obtain ⟨k, hk, rfl⟩ := List.mem_map.mp hw
  have hk := List.mem_range.mp hk
  match k, hk with
  | 0, _ => exact gw_1 138 (by decide +kernel) (by decide +kernel)
  | 1, _ => exact gw_1 140 (by decide +kernel) (by decide +kernel)
  | 2, _ => exact gw_1 142 (by decide +kernel) (by decide +kernel)
  | 3, _ => exact gw_1 144 (by decide +kernel) (by decide +kernel)
  | 4, _ => exact gw_1 146 (by decide +kernel) (by decide +kernel)
  | 5, _ => exact gw_1 148 (by decide +kernel) (by decide +kernel)
  | 6, _ => exact gw_1 150 (by decide +kernel) (by decide +kernel)
  | 7, _ => exact gw_1 152 (by decide +kernel) (by decide +kernel)
  | k + 8, h => exact absurd h (by omega)
theorem iw_Ru (k : Cond) : ∀ w ∈ u_ws R_Ru T_Ru 8, w ∈ k :: gw := fun w h => List.mem_cons_of_mem _ (iu_Ru w h)
theorem iu_SM : ∀ w ∈ u_ws R_SM T_SM 5, w ∈ gw := by
  intro w hw
  obtain ⟨k, hk, rfl⟩ := List.mem_map.mp hw
  have hk := List.mem_range.mp hk
  match k, hk with
  | 0, _ => exact gw_1 173 (by decide +kernel) (by decide +kernel)
  | 1, _ => exact gw_1 175 (by decide +kernel) (by decide +kernel)
  | 2, _ => exact gw_1 177 (by decide +kernel) (by decide +kernel)
  | 3, _ => exact gw_1 179 (by decide +kernel) (by decide +kernel)
  | 4, _ => exact gw_1 181 (by decide +kernel) (by decide +kernel)
  | k + 5, h => exact absurd h (by omega)
theorem iw_SM (k : Cond) : ∀ w ∈ u_ws R_SM T_SM 5, w ∈ k :: gw := fun w h => List.mem_cons_of_mem _ (iu_SM w h)
theorem iu_Mo : ∀ w ∈ u_ws R_Mo T_Mo 18, w ∈ gw := by
  intro w hw
  obtain ⟨k, hk, rfl⟩ := List.mem_map.mp hw
  have hk := List.mem_range.mp hk
  match k, hk with
  | 0, _ => exact gw_4 26 (by decide +kernel) (by decide +kernel)
  | 1, _ => exact gw_4 28 (by decide +kernel) (by decide +kernel)
  | 2, _ => exact gw_4 30 (by decide +kernel) (by decide +kernel)
  | 3, _ => exact gw_4 32 (by decide +kernel) (by decide +kernel)
  | 4, _ => exact gw_4 34 (by decide +kernel) (by decide +kernel)
  | 5, _ => exact gw_4 36 (by decide +kernel) (by decide +kernel)
  | 6, _ => exact gw_4 38 (by decide +kernel) (by decide +kernel)
  | 7, _ => exact gw_4 40 (by decide +kernel) (by decide +kernel)
  | 8, _ => exact gw_4 42 (by decide +kernel) (by decide +kernel)
  | 9, _ => exact gw_4 44 (by decide +kernel) (by decide +kernel)
  | 10, _ => exact gw_4 46 (by decide +kernel) (by decide +kernel)
  | 11, _ => exact gw_4 48 (by decide +kernel) (by decide +kernel)
  | 12, _ => exact gw_4 50 (by decide +kernel) (by decide +kernel)
  | 13, _ => exact gw_4 52 (by decide +kernel) (by decide +kernel)
  | 14, _ => exact gw_4 54 (by decide +kernel) (by decide +kernel)
  | 15, _ => exact gw_4 56 (by decide +kernel) (by decide +kernel)
  | 16, _ => exact gw_4 58 (by decide +kernel) (by decide +kernel)
  | 17, _ => exact gw_4 60 (by decide +kernel) (by decide +kernel)
  | k + 18, h => exact absurd h (by omega)
theorem iw_Mo (k : Cond) : ∀ w ∈ u_ws R_Mo T_Mo 18, w ∈ k :: gw := fun w h => List.mem_cons_of_mem _ (iu_Mo w h)
def nwt : List (String × Nat × String × String × String × String) := [(R_Ru, 39, "ShaderMachine$Store", "temporaries", "LShaderMachine$Vectors;", "ShaderMachine"), (R_SM, 131, "ShaderMachine$Store", "temporaries", "LShaderMachine$Vectors;", "ShaderMachine"), (R_SM, 84, "ShaderMachine$Store", "ins", "LShaderMachine$Vectors;", "ShaderMachine"), (R_Ru, 48, "ShaderMachine$Store", "outs", "LShaderMachine$Vectors;", "ShaderMachine"), (R_SM, 120, "ShaderMachine$Store", "outs", "LShaderMachine$Vectors;", "ShaderMachine"), (R_SM, 98, "ShaderMachine$Store", "uniforms", "LShaderMachine$Vectors;", "ShaderMachine"), (R_Ru, 191, "ShaderMachine$Store", "uniforms", "LShaderMachine$Vectors;", "ShaderMachine"), (R_SM, 101, "ShaderMachine$Store", "textures", "LShaderMachine$Vectors;", "ShaderMachine"), (R_Ru, 220, "ShaderMachine$Store", "textures", "LShaderMachine$Vectors;", "ShaderMachine")]
