theorem tw_21 : Cond.classLink R_La 8 R_SM ∈ gw := gw_1 21 (by decide +kernel) (by decide +kernel)
theorem tw_22 : Cond.instantiable R_SM 5 ∈ gw := gw_1 22 (by decide +kernel) (by decide +kernel)
theorem tw_25 : Cond.code y_SM_init c_SM_init 1 none ∈ gw := gw_1 25 (by rfl) (by decide +kernel)
theorem tw_23 : Cond.methodLink R_La 44 y_SM_init ∈ gw := gw_1 23 (by decide +kernel) (by decide +kernel)
theorem tw_24 : Cond.instanceMethod y_SM_init ∈ gw := gw_1 24 (by decide +kernel) (by decide +kernel)
theorem tw_722 : Cond.classLink R_La 45 R_Mo ∈ gw := gw_4 2 (by decide +kernel) (by decide +kernel)
theorem tw_723 : Cond.instantiable R_Mo 18 ∈ gw := gw_4 3 (by decide +kernel) (by decide +kernel)
theorem tw_726 : Cond.code y_Mo_init c_Mo_init 1 none ∈ gw := gw_4 6 (by rfl) (by decide +kernel)
theorem tw_724 : Cond.methodLink R_La 47 y_Mo_init ∈ gw := gw_4 4 (by decide +kernel) (by decide +kernel)
theorem tw_725 : Cond.instanceMethod y_Mo_init ∈ gw := gw_4 5 (by decide +kernel) (by decide +kernel)
theorem lw_arr {args : Array Value} {s : State} (h : (Cond.arrayClass .int).before args s = true) : ∃ cA : ClassId, ArrOfT s cA .int ∧ va_RA s cA .int := by
  obtain ⟨cA, kA, comp, h1, h2, h3⟩ := Cond.arrayClass_spec h
  exact ⟨cA, fun n z => ⟨fun k h => (by cases h), kA, h2, comp, h3⟩, h1⟩
theorem lw_arrL {args : Array Value} {s : State} (h : (Cond.arrayClass .long).before args s = true) : ∃ cA : ClassId, ArrOfT s cA .long ∧ va_RA s cA .long := by
  obtain ⟨cA, kA, comp, h1, h2, h3⟩ := Cond.arrayClass_spec h
  exact ⟨cA, fun n z => ⟨fun k h => (by cases h), kA, h2, comp, h3⟩, h1⟩
set_option maxRecDepth 100000 in
theorem lw_ev {s : State} {b : Nat} {A : Nat → Prop} (hts : ∀ w ∈ lw_tbl, w.before #[Value.ref b] s = true) (hgv : (Jvm.Cond.and given_1 narrow_1).before #[Value.ref b] s = true) (hAn : ∀ a : Nat, a < s.heap.size → ¬ A a) : ev_ A s s.heap := by
  have hs := flat_of_before _ hgv
  refine ⟨?_, ?_⟩
  · intro q hq
    simp only [nwt, List.mem_cons, List.not_mem_nil, or_false] at hq
    rcases hq with rfl | rfl | rfl | rfl | rfl | rfl | rfl | rfl | rfl
    · exact va_Nw.of rfl (hts (.fieldLinkNest R_Ru 39 "ShaderMachine$Store" "temporaries" "LShaderMachine$Vectors;" "ShaderMachine") (List.mem_append_right _ (show _ ∈ tables_1 from (List.mem_append_left _ (List.mem_of_getElem? (i := 54) (by rfl))))))
    · exact va_Nw.of rfl (hts (.fieldLinkNest R_SM 131 "ShaderMachine$Store" "temporaries" "LShaderMachine$Vectors;" "ShaderMachine") (List.mem_append_right _ (show _ ∈ tables_1 from (List.mem_append_left _ (List.mem_of_getElem? (i := 55) (by rfl))))))
    · exact va_Nw.of rfl (hts (.fieldLinkNest R_SM 84 "ShaderMachine$Store" "ins" "LShaderMachine$Vectors;" "ShaderMachine") (List.mem_append_right _ (show _ ∈ tables_1 from (List.mem_append_left _ (List.mem_of_getElem? (i := 57) (by rfl))))))
    · exact va_Nw.of rfl (hts (.fieldLinkNest R_Ru 48 "ShaderMachine$Store" "outs" "LShaderMachine$Vectors;" "ShaderMachine") (List.mem_append_right _ (show _ ∈ tables_1 from (List.mem_append_left _ (List.mem_of_getElem? (i := 59) (by rfl))))))
    · exact va_Nw.of rfl (hts (.fieldLinkNest R_SM 120 "ShaderMachine$Store" "outs" "LShaderMachine$Vectors;" "ShaderMachine") (List.mem_append_right _ (show _ ∈ tables_1 from (List.mem_append_left _ (List.mem_of_getElem? (i := 60) (by rfl))))))
    · exact va_Nw.of rfl (hts (.fieldLinkNest R_SM 98 "ShaderMachine$Store" "uniforms" "LShaderMachine$Vectors;" "ShaderMachine") (List.mem_append_right _ (show _ ∈ tables_1 from (List.mem_append_left _ (List.mem_of_getElem? (i := 62) (by rfl))))))
    · exact va_Nw.of rfl (hts (.fieldLinkNest R_Ru 191 "ShaderMachine$Store" "uniforms" "LShaderMachine$Vectors;" "ShaderMachine") (List.mem_append_right _ (show _ ∈ tables_1 from (List.mem_append_left _ (List.mem_of_getElem? (i := 63) (by rfl))))))
    · exact va_Nw.of rfl (hts (.fieldLinkNest R_SM 101 "ShaderMachine$Store" "textures" "LShaderMachine$Vectors;" "ShaderMachine") (List.mem_append_right _ (show _ ∈ tables_1 from (List.mem_append_left _ (List.mem_of_getElem? (i := 65) (by rfl))))))
    · exact va_Nw.of rfl (hts (.fieldLinkNest R_Ru 220 "ShaderMachine$Store" "textures" "LShaderMachine$Vectors;" "ShaderMachine") (List.mem_append_right _ (show _ ∈ tables_1 from (List.mem_append_left _ (List.mem_of_getElem? (i := 66) (by rfl))))))
  · have hel : ∀ j : Nat, j < 41 → (Cond.eq (.elem (.static R_Ki "SOURCES" "[I") (.int (Int32.ofNat j))) (.int (ks_ j))).before #[Value.ref b] s = true := by
      intro j hj
      match j, hj with
      | 0, _ => exact hs _ (by decide +kernel)
      | 1, _ => exact hs _ (by decide +kernel)
      | 2, _ => exact hs _ (by decide +kernel)
      | 3, _ => exact hs _ (by decide +kernel)
      | 4, _ => exact hs _ (by decide +kernel)
      | 5, _ => exact hs _ (by decide +kernel)
      | 6, _ => exact hs _ (by decide +kernel)
      | 7, _ => exact hs _ (by decide +kernel)
      | 8, _ => exact hs _ (by decide +kernel)
      | 9, _ => exact hs _ (by decide +kernel)
      | 10, _ => exact hs _ (by decide +kernel)
      | 11, _ => exact hs _ (by decide +kernel)
      | 12, _ => exact hs _ (by decide +kernel)
      | 13, _ => exact hs _ (by decide +kernel)
      | 14, _ => exact hs _ (by decide +kernel)
      | 15, _ => exact hs _ (by decide +kernel)
      | 16, _ => exact hs _ (by decide +kernel)
      | 17, _ => exact hs _ (by decide +kernel)
      | 18, _ => exact hs _ (by decide +kernel)
      | 19, _ => exact hs _ (by decide +kernel)
      | 20, _ => exact hs _ (by decide +kernel)
      | 21, _ => exact hs _ (by decide +kernel)
      | 22, _ => exact hs _ (by decide +kernel)
      | 23, _ => exact hs _ (by decide +kernel)
      | 24, _ => exact hs _ (by decide +kernel)
      | 25, _ => exact hs _ (by decide +kernel)
      | 26, _ => exact hs _ (by decide +kernel)
      | 27, _ => exact hs _ (by decide +kernel)
      | 28, _ => exact hs _ (by decide +kernel)
      | 29, _ => exact hs _ (by decide +kernel)
      | 30, _ => exact hs _ (by decide +kernel)
      | 31, _ => exact hs _ (by decide +kernel)
      | 32, _ => exact hs _ (by decide +kernel)
      | 33, _ => exact hs _ (by decide +kernel)
      | 34, _ => exact hs _ (by decide +kernel)
      | 35, _ => exact hs _ (by decide +kernel)
      | 36, _ => exact hs _ (by decide +kernel)
      | 37, _ => exact hs _ (by decide +kernel)
      | 38, _ => exact hs _ (by decide +kernel)
      | 39, _ => exact hs _ (by decide +kernel)
      | 40, _ => exact hs _ (by decide +kernel)
      | j + 41, h => exact absurd h (by omega)
    obtain ⟨t, ht, hT⟩ := va_Tof (args := #[Value.ref b]) (s := s) (tm := .static R_Ki "SOURCES" "[I") (ty := .int) (N := 41) (f := fun j => .int (ks_ j)) (A := A) (by decide) (hs _ (by decide +kernel)) (va_eqt (hs _ (by decide +kernel))) (fun j hj => va_eqt (hel j hj)) hAn
    exact ⟨t, va_Zref (hts (.laysStatic R_Ki "SOURCES" "[I") (List.mem_append_right _ (show _ ∈ tables_1 from (List.mem_append_right _ (List.mem_append_left _ (List.mem_of_getElem? (i := 135) (by rfl))))))) (hts (.initialized R_Ki) (List.mem_append_right _ (show _ ∈ tables_1 from (List.mem_append_left _ (List.mem_of_getElem? (i := 14) (by rfl)))))) ht hAn, hT⟩
set_option maxRecDepth 100000 in
theorem lw_ex {s : State} {b : Nat} {A : Nat → Prop} (hts : ∀ w ∈ lw_tbl, w.before #[Value.ref b] s = true) (hgv : (Jvm.Cond.and given_1 narrow_1).before #[Value.ref b] s = true) (hAn : ∀ a : Nat, a < s.heap.size → ¬ A a) : ex_ A s s.heap := by
  have hs := flat_of_before _ hgv
  have str : ∀ (own : String) (k : Nat) (tx : String), (Cond.stringRef own k tx).before #[Value.ref b] s = true → (Cond.exactly (.string own k) "java/lang/String").before #[Value.ref b] s = true → ∃ a : Nat, vk_R own k tx a s := by
    intro own k tx h1 h2
    obtain ⟨a, c, cA, kA, q1, -⟩ := Cond.exactly_spec (args := #[Value.ref b]) (first := s) (o := none) (s := s) (idx := []) (t := .string own k) (cls := "java/lang/String") h2
    have h3 : (Cond.stringRef own k tx).before #[] s = true := by first | exact va_tabs rfl rfl h1 | (simp only [Cond.before, Cond.holds, Cond.value] at h1 ⊢; exact h1)
    exact ⟨a, h3, by rw [Term.string_eval_of_vm (args := #[]) (rfl : s.vm = s.vm)]; first | exact q1 | simpa [Term.eval] using q1⟩
  refine ⟨?_, ?_, ?_, ?_, ?_, ?_⟩
  · intro q hq
    simp only [stl, List.mem_cons, List.not_mem_nil, or_false] at hq
    rcases hq with rfl | rfl | rfl | rfl | rfl | rfl | rfl
    · exact str _ _ _ (hts (.stringRef R_SM 48 "no such word of memory") (List.mem_append_right _ (show _ ∈ tables_1 from (List.mem_append_right _ (List.mem_append_left _ (List.mem_of_getElem? (i := 17) (by rfl))))))) (hs _ (by decide +kernel))
    · exact str _ _ _ (hts (.stringRef R_SM 57 "a program has 1 to 256 instructions") (List.mem_append_right _ (show _ ∈ tables_1 from (List.mem_append_right _ (List.mem_append_left _ (List.mem_of_getElem? (i := 57) (by rfl))))))) (hs _ (by decide +kernel))
    · exact str _ _ _ (hts (.stringRef R_SM 59 "the program's words are not all there") (List.mem_append_right _ (show _ ∈ tables_1 from (List.mem_append_right _ (List.mem_append_left _ (List.mem_of_getElem? (i := 58) (by rfl))))))) (hs _ (by decide +kernel))
    · exact str _ _ _ (hts (.stringRef R_SM 75 "the program has a fault") (List.mem_append_right _ (show _ ∈ tables_1 from (List.mem_append_right _ (List.mem_append_left _ (List.mem_of_getElem? (i := 209) (by rfl))))))) (hs _ (by decide +kernel))
    · exact str _ _ _ (hts (.stringRef R_SM 137 "no such vector") (List.mem_append_right _ (show _ ∈ tables_1 from (List.mem_append_right _ (List.mem_append_left _ (List.mem_of_getElem? (i := 237) (by rfl))))))) (hs _ (by decide +kernel))
    · exact str _ _ _ (hts (.stringRef R_SM 110 "there is no program") (List.mem_append_right _ (show _ ∈ tables_1 from (List.mem_append_right _ (List.mem_append_right _ (List.mem_append_left _ (List.mem_of_getElem? (i := 45) (by rfl)))))))) (hs _ (by decide +kernel))
    · exact str _ _ _ (hts (.stringRef R_SM 143 "no such vector or part") (List.mem_append_right _ (show _ ∈ tables_1 from (List.mem_append_right _ (List.mem_append_right _ (List.mem_append_left _ (List.mem_of_getElem? (i := 233) (by rfl)))))))) (hs _ (by decide +kernel))
  · exact vx_Zqof (hts (.laysStatic "java/lang/Throwable" "UNASSIGNED_STACK" "[Ljava/lang/StackTraceElement;") (List.mem_append_right _ (show _ ∈ tables_1 from (List.mem_append_right _ (List.mem_append_left _ (List.mem_of_getElem? (i := 3) (by rfl))))))) (hts (.initialized "java/lang/Throwable") (List.mem_append_right _ (show _ ∈ tables_1 from (List.mem_append_left _ (List.mem_of_getElem? (i := 10) (by rfl)))))) (hs (.isRef (.static "java/lang/Throwable" "UNASSIGNED_STACK" "[Ljava/lang/StackTraceElement;")) (by decide +kernel)) hAn
  · exact vx_Zqof (hts (.laysStatic "java/lang/Throwable" "SUPPRESSED_SENTINEL" "Ljava/util/List;") (List.mem_append_right _ (show _ ∈ tables_1 from (List.mem_append_right _ (List.mem_append_left _ (List.mem_of_getElem? (i := 5) (by rfl))))))) (hts (.initialized "java/lang/Throwable") (List.mem_append_right _ (show _ ∈ tables_1 from (List.mem_append_left _ (List.mem_of_getElem? (i := 10) (by rfl)))))) (hs (.isRef (.static "java/lang/Throwable" "SUPPRESSED_SENTINEL" "Ljava/util/List;")) (by decide +kernel)) hAn
  · intro q hq
    simp only [cbl, List.mem_cons, List.not_mem_nil, or_false] at hq
    rcases hq with rfl | rfl | rfl
    · exact va_Cb.of (hts (.castable "java/lang/IndexOutOfBoundsException" "java/lang/IndexOutOfBoundsException") (List.mem_append_right _ (show _ ∈ tables_1 from (List.mem_append_left _ (List.mem_of_getElem? (i := 218) (by rfl))))))
    · exact va_Cb.of (hts (.castable "java/lang/IllegalArgumentException" "java/lang/IllegalArgumentException") (List.mem_append_right _ (show _ ∈ tables_1 from (List.mem_append_right _ (List.mem_append_left _ (List.mem_of_getElem? (i := 202) (by rfl)))))))
    · exact va_Cb.of (hts (.castable "java/lang/IllegalStateException" "java/lang/IllegalStateException") (List.mem_append_right _ (show _ ∈ tables_1 from (List.mem_append_right _ (List.mem_append_right _ (List.mem_append_left _ (List.mem_of_getElem? (i := 38) (by rfl))))))))
  · exact va_Nc.of (hs (.not (.castable xa_ xi_)) (by decide +kernel))
  · intro q hq
    simp only [dcl, List.mem_cons, List.not_mem_nil, or_false] at hq
    rcases hq with rfl | rfl | rfl
    · exact va_Dl.of (hts (.declares ⟨"java/lang/RuntimeException", "<init>", "(Ljava/lang/String;)V"⟩) (List.mem_append_right _ (show _ ∈ tables_1 from (List.mem_append_left _ (List.mem_of_getElem? (i := 220) (by rfl))))))
    · exact va_Dl.of (hts (.declares ⟨"java/lang/Exception", "<init>", "(Ljava/lang/String;)V"⟩) (List.mem_append_right _ (show _ ∈ tables_1 from (List.mem_append_left _ (List.mem_of_getElem? (i := 222) (by rfl))))))
    · exact va_Dl.of (hts (.declares ⟨"java/lang/Throwable", "<init>", "(Ljava/lang/String;)V"⟩) (List.mem_append_right _ (show _ ∈ tables_1 from (List.mem_append_left _ (List.mem_of_getElem? (i := 224) (by rfl))))))
set_option maxRecDepth 100000 in
theorem lw_en {s : State} {b : Nat} (hts : ∀ w ∈ lw_tbl, w.before #[Value.ref b] s = true) : en_ s := by
  intro q hq
  simp only [mnt, List.mem_cons, List.not_mem_nil, or_false] at hq
  rcases hq with rfl | rfl | rfl | rfl | rfl
  · exact va_Nw.of rfl (hts (.methodLinkNest R_SM 9 y_St_init "ShaderMachine") (List.mem_append_right _ (show _ ∈ tables_1 from (List.mem_append_left _ (List.mem_of_getElem? (i := 31) (by rfl))))))
  · exact va_Nw.of rfl (hts (.methodLinkNest R_SM 18 y_Ch_init "ShaderMachine") (List.mem_append_right _ (show _ ∈ tables_1 from (List.mem_append_left _ (List.mem_of_getElem? (i := 85) (by rfl))))))
  · exact va_Nw.of rfl (hts (.methodLinkNest R_Ch 19 y_Lo_init "ShaderMachine") (List.mem_append_right _ (show _ ∈ tables_1 from (List.mem_append_left _ (List.mem_of_getElem? (i := 91) (by rfl))))))
  · exact va_Nw.of rfl (hts (.methodLinkNest R_Ru 26 y_Lo_init "ShaderMachine") (List.mem_append_right _ (show _ ∈ tables_1 from (List.mem_append_left _ (List.mem_of_getElem? (i := 129) (by rfl))))))
  · exact va_Nw.of rfl (hts (.methodLinkNest R_SM 34 y_Pr_init "ShaderMachine") (List.mem_append_right _ (show _ ∈ tables_1 from (List.mem_append_left _ (List.mem_of_getElem? (i := 157) (by rfl))))))
