def pf_Mo_put_66 (fu : Nat) (n_o_result : Nat) (n_o_outs : Nat) (n_o_temporaries : Nat) : Nat → Int32 → Int32 → (Nat → Int32) → (Nat → Int32) → (Nat → Int32) → Option ((Nat → Int32) × (Nat → Int32) × (Nat → Int32))
  | 0, _, _, _, _, _ => none
  | n + 1, x1, x3, g_f_o_result, g_f_o_outs, g_f_o_temporaries =>
    if (4 : Int32) ≤ x3 then
      some (g_f_o_result, g_f_o_outs, g_f_o_temporaries)
    else
      if ((x1 >>> (((12 : Int32) + x3) &&& 31)) &&& (1 : Int32)) = (1 : Int32) then
        if ((x1 >>> ((6 : Int32) &&& 31)) &&& (3 : Int32)) = 0 then
          if (0 : Int32) ≤ x3 ∧ x3.toNatClampNeg < n_o_result then (
          if (0 : Int32) ≤ (((4 : Int32) * ((x1 >>> ((8 : Int32) &&& 31)) &&& (15 : Int32))) + x3) ∧ (((4 : Int32) * ((x1 >>> ((8 : Int32) &&& 31)) &&& (15 : Int32))) + x3).toNatClampNeg < n_o_temporaries then (
          pf_Mo_put_66 fu n_o_result n_o_outs n_o_temporaries n x1 (x3 + 1) g_f_o_result g_f_o_outs (upd g_f_o_temporaries (((4 : Int32) * ((x1 >>> ((8 : Int32) &&& 31)) &&& (15 : Int32))) + x3).toNatClampNeg (g_f_o_result x3.toNatClampNeg))) else none) else none
        else
          if (0 : Int32) ≤ x3 ∧ x3.toNatClampNeg < n_o_result then (
          if (0 : Int32) ≤ (((4 : Int32) * ((x1 >>> ((8 : Int32) &&& 31)) &&& (15 : Int32))) + x3) ∧ (((4 : Int32) * ((x1 >>> ((8 : Int32) &&& 31)) &&& (15 : Int32))) + x3).toNatClampNeg < n_o_outs then (
          pf_Mo_put_66 fu n_o_result n_o_outs n_o_temporaries n x1 (x3 + 1) g_f_o_result (upd g_f_o_outs (((4 : Int32) * ((x1 >>> ((8 : Int32) &&& 31)) &&& (15 : Int32))) + x3).toNatClampNeg (g_f_o_result x3.toNatClampNeg)) g_f_o_temporaries) else none) else none
      else
        pf_Mo_put_66 fu n_o_result n_o_outs n_o_temporaries n x1 (x3 + 1) g_f_o_result g_f_o_outs g_f_o_temporaries
def pf_Mo_put_2 (fu : Nat) (o_told : Int32) (n_o_read : Nat) (f_o_read : Nat → Int32) (n_o_textures : Nat) (f_o_textures : Nat → Int32) (n_o_uniforms : Nat) (f_o_uniforms : Nat → Int32) (n_o_memory : Nat) (f_o_memory : Nat → Int32) (n_o_result : Nat) (n_o_outs : Nat) (n_o_temporaries : Nat) : Nat → Int32 → Int32 → Int32 → (Nat → Int32) → (Nat → Int32) → (Nat → Int32) → Option ((Nat → Int32) × (Nat → Int32) × (Nat → Int32))
  | 0, _, _, _, _, _, _ => none
  | n + 1, x1, x2, x3, g_f_o_result, g_f_o_outs, g_f_o_temporaries =>
    if (4 : Int32) ≤ x3 then
      pf_Mo_put_66 fu n_o_result n_o_outs n_o_temporaries fu x1 (0 : Int32) g_f_o_result g_f_o_outs g_f_o_temporaries
    else
      Option.bind (pf_Mo_part fu x2 x3 o_told n_o_read f_o_read n_o_textures f_o_textures n_o_uniforms f_o_uniforms n_o_memory f_o_memory) (fun r_3 => 
      if ((x1 >>> ((16 : Int32) &&& 31)) &&& (1 : Int32)) = 0 then
        if (0 : Int32) ≤ x3 ∧ x3.toNatClampNeg < n_o_result then (
        pf_Mo_put_2 fu o_told n_o_read f_o_read n_o_textures f_o_textures n_o_uniforms f_o_uniforms n_o_memory f_o_memory n_o_result n_o_outs n_o_temporaries n x1 x2 (x3 + 1) (upd g_f_o_result x3.toNatClampNeg r_3) g_f_o_outs g_f_o_temporaries) else none
      else
        if 0 ≤ r_3 then
          if r_3 ≤ (65536 : Int32) then
            if (0 : Int32) ≤ x3 ∧ x3.toNatClampNeg < n_o_result then (
            pf_Mo_put_2 fu o_told n_o_read f_o_read n_o_textures f_o_textures n_o_uniforms f_o_uniforms n_o_memory f_o_memory n_o_result n_o_outs n_o_temporaries n x1 x2 (x3 + 1) (upd g_f_o_result x3.toNatClampNeg r_3) g_f_o_outs g_f_o_temporaries) else none
          else
            if (0 : Int32) ≤ x3 ∧ x3.toNatClampNeg < n_o_result then (
            pf_Mo_put_2 fu o_told n_o_read f_o_read n_o_textures f_o_textures n_o_uniforms f_o_uniforms n_o_memory f_o_memory n_o_result n_o_outs n_o_temporaries n x1 x2 (x3 + 1) (upd g_f_o_result x3.toNatClampNeg (65536 : Int32)) g_f_o_outs g_f_o_temporaries) else none
        else
          if (0 : Int32) ≤ x3 ∧ x3.toNatClampNeg < n_o_result then (
          pf_Mo_put_2 fu o_told n_o_read f_o_read n_o_textures f_o_textures n_o_uniforms f_o_uniforms n_o_memory f_o_memory n_o_result n_o_outs n_o_temporaries n x1 x2 (x3 + 1) (upd g_f_o_result x3.toNatClampNeg (0 : Int32)) g_f_o_outs g_f_o_temporaries) else none)
def pf_Mo_put (fu : Nat) (p1 : Int32) (p2 : Int32) (o_told : Int32) (n_o_read : Nat) (f_o_read : Nat → Int32) (n_o_textures : Nat) (f_o_textures : Nat → Int32) (n_o_uniforms : Nat) (f_o_uniforms : Nat → Int32) (n_o_memory : Nat) (f_o_memory : Nat → Int32) (n_o_result : Nat) (f_o_result : Nat → Int32) (n_o_outs : Nat) (f_o_outs : Nat → Int32) (n_o_temporaries : Nat) (f_o_temporaries : Nat → Int32) : Option ((Nat → Int32) × (Nat → Int32) × (Nat → Int32)) :=
  pf_Mo_put_2 fu o_told n_o_read f_o_read n_o_textures f_o_textures n_o_uniforms f_o_uniforms n_o_memory f_o_memory n_o_result n_o_outs n_o_temporaries fu p1 p2 (0 : Int32) f_o_result f_o_outs f_o_temporaries
set_option maxHeartbeats 4000000 in
set_option maxRecDepth 100000 in
theorem k_Mo_put (l : Launch) (dC : Nat → ClassId) (dI : Nat → Nat → Nat) (cI cJ : ClassId) (fu : Nat) (p1 : Int32) (p2 : Int32) (o_thrown : Int32) (o_hasProgram : Int32) (o_fault : Int32) (o_place : Int32) (o_told : Int32) (o_killed : Int32) (n_o_read : Nat) (f_o_read : Nat → Int32) (n_o_textures : Nat) (f_o_textures : Nat → Int32) (n_o_uniforms : Nat) (f_o_uniforms : Nat → Int32) (n_o_memory : Nat) (f_o_memory : Nat → Int32) (n_o_result : Nat) (f_o_result : Nat → Int32) (n_o_outs : Nat) (f_o_outs : Nat → Int32) (n_o_temporaries : Nat) (f_o_temporaries : Nat → Int32) (q_o : Nat) (q_o_memory : Nat) (q_o_program : Nat) (q_o_fresh : Nat) (q_o_temporaries : Nat) (q_o_ins : Nat) (q_o_outs : Nat) (q_o_uniforms : Nat) (q_o_textures : Nat) (q_o_read : Nat) (q_o_result : Nat) (q_o_left : Nat) (q_o_opening : Nat) (o_f_o_result : Nat → Int32) (o_f_o_outs : Nat → Int32) (o_f_o_temporaries : Nat → Int32) (h : pf_Mo_put fu p1 p2 o_told n_o_read f_o_read n_o_textures f_o_textures n_o_uniforms f_o_uniforms n_o_memory f_o_memory n_o_result f_o_result n_o_outs f_o_outs n_o_temporaries f_o_temporaries = some (o_f_o_result, o_f_o_outs, o_f_o_temporaries)) : ck_v l y_Mo_put wm_Mo_put ({ frames := 3, cells := 0, slots := 0, locals := 74 } : Room) [.ref q_o, .int p1, .int p2] (dC, dI) [(cI, .int), (cJ, .long)] [(q_o, .inr (7, [.int o_thrown, .ref q_o_memory, .ref q_o_program, .ref q_o_fresh, .int o_hasProgram, .int o_fault, .int o_place, .int o_told, .ref q_o_temporaries, .ref q_o_ins, .ref q_o_outs, .ref q_o_uniforms, .ref q_o_textures, .ref q_o_read, .ref q_o_result, .int o_killed, .ref q_o_left, .ref q_o_opening])), (q_o_read, .inl (cI, n_o_read, .inl f_o_read)), (q_o_textures, .inl (cI, n_o_textures, .inl f_o_textures)), (q_o_uniforms, .inl (cI, n_o_uniforms, .inl f_o_uniforms)), (q_o_memory, .inl (cI, n_o_memory, .inl f_o_memory)), (q_o_result, .inl (cI, n_o_result, .inl f_o_result)), (q_o_outs, .inl (cI, n_o_outs, .inl f_o_outs)), (q_o_temporaries, .inl (cI, n_o_temporaries, .inl f_o_temporaries))] [(q_o, .inr (7, [.int o_thrown, .ref q_o_memory, .ref q_o_program, .ref q_o_fresh, .int o_hasProgram, .int o_fault, .int o_place, .int o_told, .ref q_o_temporaries, .ref q_o_ins, .ref q_o_outs, .ref q_o_uniforms, .ref q_o_textures, .ref q_o_read, .ref q_o_result, .int o_killed, .ref q_o_left, .ref q_o_opening])), (q_o_read, .inl (cI, n_o_read, .inl f_o_read)), (q_o_textures, .inl (cI, n_o_textures, .inl f_o_textures)), (q_o_uniforms, .inl (cI, n_o_uniforms, .inl f_o_uniforms)), (q_o_memory, .inl (cI, n_o_memory, .inl f_o_memory)), (q_o_result, .inl (cI, n_o_result, .inl o_f_o_result)), (q_o_outs, .inl (cI, n_o_outs, .inl o_f_o_outs)), (q_o_temporaries, .inl (cI, n_o_temporaries, .inl o_f_o_temporaries))] := by
  refine ck_ofv (cc := c_Mo_put) (maxL := 5) (ret := none) (by decide +kernel) rfl ?_
  intro p e s m below meth c A C0 hK hP hD hS hE
  obtain ⟨hx, hb, hr, hml, hown, hts, hlk, hA, hin⟩ := C0
  have w_66 : ∀ (n_66 : Nat) (x1 : Int32) (x3 : Int32) (g_f_o_result : Nat → Int32) (g_f_o_outs : Nat → Int32) (g_f_o_temporaries : Nat → Int32), pf_Mo_put_66 fu n_o_result n_o_outs n_o_temporaries n_66 x1 x3 g_f_o_result g_f_o_outs g_f_o_temporaries = some (o_f_o_result, o_f_o_outs, o_f_o_temporaries) → ∀ (H : Heap) (locs : List Loc), va_P (dC, dI) vwCl [(q_o, .inr (7, [.int o_thrown, .ref q_o_memory, .ref q_o_program, .ref q_o_fresh, .int o_hasProgram, .int o_fault, .int o_place, .int o_told, .ref q_o_temporaries, .ref q_o_ins, .ref q_o_outs, .ref q_o_uniforms, .ref q_o_textures, .ref q_o_read, .ref q_o_result, .int o_killed, .ref q_o_left, .ref q_o_opening])), (q_o_read, .inl (cI, n_o_read, .inl f_o_read)), (q_o_textures, .inl (cI, n_o_textures, .inl f_o_textures)), (q_o_uniforms, .inl (cI, n_o_uniforms, .inl f_o_uniforms)), (q_o_memory, .inl (cI, n_o_memory, .inl f_o_memory)), (q_o_result, .inl (cI, n_o_result, .inl g_f_o_result)), (q_o_outs, .inl (cI, n_o_outs, .inl g_f_o_outs)), (q_o_temporaries, .inl (cI, n_o_temporaries, .inl g_f_o_temporaries))] H → va_D A [(q_o, .inr (7, [.int o_thrown, .ref q_o_memory, .ref q_o_program, .ref q_o_fresh, .int o_hasProgram, .int o_fault, .int o_place, .int o_told, .ref q_o_temporaries, .ref q_o_ins, .ref q_o_outs, .ref q_o_uniforms, .ref q_o_textures, .ref q_o_read, .ref q_o_result, .int o_killed, .ref q_o_left, .ref q_o_opening])), (q_o_read, .inl (cI, n_o_read, .inl f_o_read)), (q_o_textures, .inl (cI, n_o_textures, .inl f_o_textures)), (q_o_uniforms, .inl (cI, n_o_uniforms, .inl f_o_uniforms)), (q_o_memory, .inl (cI, n_o_memory, .inl f_o_memory)), (q_o_result, .inl (cI, n_o_result, .inl g_f_o_result)), (q_o_outs, .inl (cI, n_o_outs, .inl g_f_o_outs)), (q_o_temporaries, .inl (cI, n_o_temporaries, .inl g_f_o_temporaries))] → va_S A s.heap H locs → ∀ ls : Array Slot, lv_has ls 5 [(0, .ref q_o), (1, .int x1), (3, .int x3)] → W p l e ({ frames := 3, cells := 0, slots := 0, locals := 74 } : Room) s m ([.ref q_o, .int p1, .int p2] : List Value).toArray below meth c H locs 0 0 (ck_Qv below (dC, dI) [(cI, .int), (cJ, .long)] A ([.ref q_o, .int p1, .int p2] : List Value).toArray s [(q_o, .inr (7, [.int o_thrown, .ref q_o_memory, .ref q_o_program, .ref q_o_fresh, .int o_hasProgram, .int o_fault, .int o_place, .int o_told, .ref q_o_temporaries, .ref q_o_ins, .ref q_o_outs, .ref q_o_uniforms, .ref q_o_textures, .ref q_o_read, .ref q_o_result, .int o_killed, .ref q_o_left, .ref q_o_opening])), (q_o_read, .inl (cI, n_o_read, .inl f_o_read)), (q_o_textures, .inl (cI, n_o_textures, .inl f_o_textures)), (q_o_uniforms, .inl (cI, n_o_uniforms, .inl f_o_uniforms)), (q_o_memory, .inl (cI, n_o_memory, .inl f_o_memory)), (q_o_result, .inl (cI, n_o_result, .inl o_f_o_result)), (q_o_outs, .inl (cI, n_o_outs, .inl o_f_o_outs)), (q_o_temporaries, .inl (cI, n_o_temporaries, .inl o_f_o_temporaries))]) (F0 m 66 ls []) := by
    intro n_66
    induction n_66 with
    | zero =>
      intro x1 x3 g_f_o_result g_f_o_outs g_f_o_temporaries h
      cases h
    | succ n_66 ih_66 =>
      intro x1 x3 g_f_o_result g_f_o_outs g_f_o_temporaries h H locs hP hD hS ls hl
      rw [pf_Mo_put_66] at h
      refine lv_iload_n hx hb d_Mo_put_66 rfl (lv_at hl 2 rfl) ?_
      refine lv_iconst (v := 4) hx hb d_Mo_put_67 (by decide) ?_
      refine lv_icmp_ge (tgt := 140) hx hb d_Mo_put_68 (by decide) (fun c_11 => ?_) (fun c_11 => ?_)
      · rw [if_pos c_11] at h
        cases h
        exact ck_vret hx hb hr hlk hK hP hD hS d_Mo_put_140
      · rw [if_neg c_11] at h
        refine lv_iload_n hx hb d_Mo_put_71 rfl (lv_at hl 1 rfl) ?_
        refine lv_bipush (v := 12) hx hb d_Mo_put_72 (by decide) ?_
        refine lv_iload_n hx hb d_Mo_put_74 rfl (lv_at hl 2 rfl) ?_
        refine lv_iadd hx hb d_Mo_put_75 ?_
        refine lv_ishr hx hb d_Mo_put_76 ?_
        refine lv_iconst (v := 1) hx hb d_Mo_put_77 (by decide) ?_
        refine lv_iand hx hb d_Mo_put_78 ?_
        refine lv_iconst (v := 1) hx hb d_Mo_put_79 (by decide) ?_
        refine lv_icmp_ne (tgt := 134) hx hb d_Mo_put_80 (by decide) (fun c_12 => ?_) (fun c_12 => ?_)
        · rw [if_neg c_12] at h
          refine lv_iinc (v := (x3 + 1)) (lv' := [(3, .int (x3 + 1)), (0, .ref q_o), (1, .int x1)]) hx hb d_Mo_put_134 hl (k := 2) rfl (by rfl) (by decide) rfl (fun ls hl => ?_)
          refine lv_goto (tgt := 66) hx hb d_Mo_put_137 (by decide) ?_
          exact ih_66 x1 (x3 + 1) g_f_o_result g_f_o_outs g_f_o_temporaries h _ _ hP hD hS _ (lv_sub hl [1, 2, 0] rfl)
        · rw [if_pos c_12] at h
          refine lv_iconst (v := 4) hx hb d_Mo_put_83 (by decide) ?_
          refine lv_iload_n hx hb d_Mo_put_84 rfl (lv_at hl 1 rfl) ?_
          refine lv_bipush (v := 8) hx hb d_Mo_put_85 (by decide) ?_
          refine lv_ishr hx hb d_Mo_put_87 ?_
          refine lv_bipush (v := 15) hx hb d_Mo_put_88 (by decide) ?_
          refine lv_iand hx hb d_Mo_put_90 ?_
          refine lv_imul hx hb d_Mo_put_91 ?_
          refine lv_iload_n hx hb d_Mo_put_92 rfl (lv_at hl 2 rfl) ?_
          refine lv_iadd hx hb d_Mo_put_93 ?_
          refine lv_istore (lv' := [(4, .int (((4 : Int32) * ((x1 >>> ((8 : Int32) &&& 31)) &&& (15 : Int32))) + x3)), (0, .ref q_o), (1, .int x1), (3, .int x3)]) hx hb d_Mo_put_94 hl (by decide) rfl (fun ls hl => ?_)
          refine lv_iload_n hx hb d_Mo_put_96 rfl (lv_at hl 2 rfl) ?_
          refine lv_bipush (v := 6) hx hb d_Mo_put_97 (by decide) ?_
          refine lv_ishr hx hb d_Mo_put_99 ?_
          refine lv_iconst (v := 3) hx hb d_Mo_put_100 (by decide) ?_
          refine lv_iand hx hb d_Mo_put_101 ?_
          refine lv_if_ne (tgt := 121) hx hb d_Mo_put_102 (by decide) (fun c_13 => ?_) (fun c_13 => ?_)
          · rw [if_neg c_13] at h
            refine lv_aload_n hx hb d_Mo_put_121 rfl (lv_at hl 1 rfl) ?_
            refine va_get (D := (dC, dI)) (ci := 7) (v := .ref q_o_outs) (C := R_Mo) (T := T_Mo) (N := 18) hx hb hts (iw_Mo _) hown hK hP 0 rfl rfl 10 (by decide) (hts (.fieldLink R_Mo 29 "ShaderMachineModel" "outs" "[I") (List.mem_cons_of_mem _ tw_738)) (fun _ h9 => h9) rfl d_Mo_put_122 ?_
            refine lv_iload hx hb d_Mo_put_125 (lv_at hl 0 rfl) ?_
            refine lv_aload_n hx hb d_Mo_put_127 rfl (lv_at hl 1 rfl) ?_
            refine va_get (D := (dC, dI)) (ci := 7) (v := .ref q_o_result) (C := R_Mo) (T := T_Mo) (N := 18) hx hb hts (iw_Mo _) hown hK hP 0 rfl rfl 14 (by decide) (hts (.fieldLink R_Mo 41 "ShaderMachineModel" "result" "[I") (List.mem_cons_of_mem _ tw_742)) (fun _ h9 => h9) rfl d_Mo_put_128 ?_
            refine lv_iload_n hx hb d_Mo_put_131 rfl (lv_at hl 3 rfl) ?_
            obtain ⟨c_14, h⟩ := ch_ite h
            refine va_iald hx hb hK hP 5 0 rfl rfl (ch_in c_14) d_Mo_put_132 ?_
            obtain ⟨c_15, h⟩ := ch_ite h
            refine va_iast hx hb hK hP hD hS 6 0 rfl rfl (ch_in c_15) d_Mo_put_133 (fun H locs hP hD hS => ?_)
            have hP : va_P (dC, dI) vwCl [(q_o, .inr (7, [.int o_thrown, .ref q_o_memory, .ref q_o_program, .ref q_o_fresh, .int o_hasProgram, .int o_fault, .int o_place, .int o_told, .ref q_o_temporaries, .ref q_o_ins, .ref q_o_outs, .ref q_o_uniforms, .ref q_o_textures, .ref q_o_read, .ref q_o_result, .int o_killed, .ref q_o_left, .ref q_o_opening])), (q_o_read, .inl (cI, n_o_read, .inl f_o_read)), (q_o_textures, .inl (cI, n_o_textures, .inl f_o_textures)), (q_o_uniforms, .inl (cI, n_o_uniforms, .inl f_o_uniforms)), (q_o_memory, .inl (cI, n_o_memory, .inl f_o_memory)), (q_o_result, .inl (cI, n_o_result, .inl g_f_o_result)), (q_o_outs, .inl (cI, n_o_outs, .inl (upd g_f_o_outs (((4 : Int32) * ((x1 >>> ((8 : Int32) &&& 31)) &&& (15 : Int32))) + x3).toNatClampNeg (g_f_o_result x3.toNatClampNeg)))), (q_o_temporaries, .inl (cI, n_o_temporaries, .inl g_f_o_temporaries))] H := hP
            have hD : va_D A [(q_o, .inr (7, [.int o_thrown, .ref q_o_memory, .ref q_o_program, .ref q_o_fresh, .int o_hasProgram, .int o_fault, .int o_place, .int o_told, .ref q_o_temporaries, .ref q_o_ins, .ref q_o_outs, .ref q_o_uniforms, .ref q_o_textures, .ref q_o_read, .ref q_o_result, .int o_killed, .ref q_o_left, .ref q_o_opening])), (q_o_read, .inl (cI, n_o_read, .inl f_o_read)), (q_o_textures, .inl (cI, n_o_textures, .inl f_o_textures)), (q_o_uniforms, .inl (cI, n_o_uniforms, .inl f_o_uniforms)), (q_o_memory, .inl (cI, n_o_memory, .inl f_o_memory)), (q_o_result, .inl (cI, n_o_result, .inl g_f_o_result)), (q_o_outs, .inl (cI, n_o_outs, .inl (upd g_f_o_outs (((4 : Int32) * ((x1 >>> ((8 : Int32) &&& 31)) &&& (15 : Int32))) + x3).toNatClampNeg (g_f_o_result x3.toNatClampNeg)))), (q_o_temporaries, .inl (cI, n_o_temporaries, .inl g_f_o_temporaries))] := hD
            refine lv_iinc (v := (x3 + 1)) (lv' := [(3, .int (x3 + 1)), (4, .int (((4 : Int32) * ((x1 >>> ((8 : Int32) &&& 31)) &&& (15 : Int32))) + x3)), (0, .ref q_o), (1, .int x1)]) hx hb d_Mo_put_134 hl (k := 3) rfl (by rfl) (by decide) rfl (fun ls hl => ?_)
            refine lv_goto (tgt := 66) hx hb d_Mo_put_137 (by decide) ?_
            exact ih_66 x1 (x3 + 1) g_f_o_result (upd g_f_o_outs (((4 : Int32) * ((x1 >>> ((8 : Int32) &&& 31)) &&& (15 : Int32))) + x3).toNatClampNeg (g_f_o_result x3.toNatClampNeg)) g_f_o_temporaries h _ _ hP hD hS _ (lv_sub hl [2, 3, 0] rfl)
          · rw [if_pos c_13] at h
            refine lv_aload_n hx hb d_Mo_put_105 rfl (lv_at hl 1 rfl) ?_
            refine va_get (D := (dC, dI)) (ci := 7) (v := .ref q_o_temporaries) (C := R_Mo) (T := T_Mo) (N := 18) hx hb hts (iw_Mo _) hown hK hP 0 rfl rfl 8 (by decide) (hts (.fieldLink R_Mo 23 "ShaderMachineModel" "temporaries" "[I") (List.mem_cons_of_mem _ tw_736)) (fun _ h9 => h9) rfl d_Mo_put_106 ?_
            refine lv_iload hx hb d_Mo_put_109 (lv_at hl 0 rfl) ?_
            refine lv_aload_n hx hb d_Mo_put_111 rfl (lv_at hl 1 rfl) ?_
            refine va_get (D := (dC, dI)) (ci := 7) (v := .ref q_o_result) (C := R_Mo) (T := T_Mo) (N := 18) hx hb hts (iw_Mo _) hown hK hP 0 rfl rfl 14 (by decide) (hts (.fieldLink R_Mo 41 "ShaderMachineModel" "result" "[I") (List.mem_cons_of_mem _ tw_742)) (fun _ h9 => h9) rfl d_Mo_put_112 ?_
            refine lv_iload_n hx hb d_Mo_put_115 rfl (lv_at hl 3 rfl) ?_
            obtain ⟨c_16, h⟩ := ch_ite h
            refine va_iald hx hb hK hP 5 0 rfl rfl (ch_in c_16) d_Mo_put_116 ?_
            obtain ⟨c_17, h⟩ := ch_ite h
            refine va_iast hx hb hK hP hD hS 7 0 rfl rfl (ch_in c_17) d_Mo_put_117 (fun H locs hP hD hS => ?_)
            have hP : va_P (dC, dI) vwCl [(q_o, .inr (7, [.int o_thrown, .ref q_o_memory, .ref q_o_program, .ref q_o_fresh, .int o_hasProgram, .int o_fault, .int o_place, .int o_told, .ref q_o_temporaries, .ref q_o_ins, .ref q_o_outs, .ref q_o_uniforms, .ref q_o_textures, .ref q_o_read, .ref q_o_result, .int o_killed, .ref q_o_left, .ref q_o_opening])), (q_o_read, .inl (cI, n_o_read, .inl f_o_read)), (q_o_textures, .inl (cI, n_o_textures, .inl f_o_textures)), (q_o_uniforms, .inl (cI, n_o_uniforms, .inl f_o_uniforms)), (q_o_memory, .inl (cI, n_o_memory, .inl f_o_memory)), (q_o_result, .inl (cI, n_o_result, .inl g_f_o_result)), (q_o_outs, .inl (cI, n_o_outs, .inl g_f_o_outs)), (q_o_temporaries, .inl (cI, n_o_temporaries, .inl (upd g_f_o_temporaries (((4 : Int32) * ((x1 >>> ((8 : Int32) &&& 31)) &&& (15 : Int32))) + x3).toNatClampNeg (g_f_o_result x3.toNatClampNeg))))] H := hP
            have hD : va_D A [(q_o, .inr (7, [.int o_thrown, .ref q_o_memory, .ref q_o_program, .ref q_o_fresh, .int o_hasProgram, .int o_fault, .int o_place, .int o_told, .ref q_o_temporaries, .ref q_o_ins, .ref q_o_outs, .ref q_o_uniforms, .ref q_o_textures, .ref q_o_read, .ref q_o_result, .int o_killed, .ref q_o_left, .ref q_o_opening])), (q_o_read, .inl (cI, n_o_read, .inl f_o_read)), (q_o_textures, .inl (cI, n_o_textures, .inl f_o_textures)), (q_o_uniforms, .inl (cI, n_o_uniforms, .inl f_o_uniforms)), (q_o_memory, .inl (cI, n_o_memory, .inl f_o_memory)), (q_o_result, .inl (cI, n_o_result, .inl g_f_o_result)), (q_o_outs, .inl (cI, n_o_outs, .inl g_f_o_outs)), (q_o_temporaries, .inl (cI, n_o_temporaries, .inl (upd g_f_o_temporaries (((4 : Int32) * ((x1 >>> ((8 : Int32) &&& 31)) &&& (15 : Int32))) + x3).toNatClampNeg (g_f_o_result x3.toNatClampNeg))))] := hD
            refine lv_goto (tgt := 134) hx hb d_Mo_put_118 (by decide) ?_
            refine lv_iinc (v := (x3 + 1)) (lv' := [(3, .int (x3 + 1)), (4, .int (((4 : Int32) * ((x1 >>> ((8 : Int32) &&& 31)) &&& (15 : Int32))) + x3)), (0, .ref q_o), (1, .int x1)]) hx hb d_Mo_put_134 hl (k := 3) rfl (by rfl) (by decide) rfl (fun ls hl => ?_)
            refine lv_goto (tgt := 66) hx hb d_Mo_put_137 (by decide) ?_
            exact ih_66 x1 (x3 + 1) g_f_o_result g_f_o_outs (upd g_f_o_temporaries (((4 : Int32) * ((x1 >>> ((8 : Int32) &&& 31)) &&& (15 : Int32))) + x3).toNatClampNeg (g_f_o_result x3.toNatClampNeg)) h _ _ hP hD hS _ (lv_sub hl [2, 3, 0] rfl)
  have w_2 : ∀ (n_2 : Nat) (x1 : Int32) (x2 : Int32) (x3 : Int32) (g_f_o_result : Nat → Int32) (g_f_o_outs : Nat → Int32) (g_f_o_temporaries : Nat → Int32), pf_Mo_put_2 fu o_told n_o_read f_o_read n_o_textures f_o_textures n_o_uniforms f_o_uniforms n_o_memory f_o_memory n_o_result n_o_outs n_o_temporaries n_2 x1 x2 x3 g_f_o_result g_f_o_outs g_f_o_temporaries = some (o_f_o_result, o_f_o_outs, o_f_o_temporaries) → ∀ (H : Heap) (locs : List Loc), va_P (dC, dI) vwCl [(q_o, .inr (7, [.int o_thrown, .ref q_o_memory, .ref q_o_program, .ref q_o_fresh, .int o_hasProgram, .int o_fault, .int o_place, .int o_told, .ref q_o_temporaries, .ref q_o_ins, .ref q_o_outs, .ref q_o_uniforms, .ref q_o_textures, .ref q_o_read, .ref q_o_result, .int o_killed, .ref q_o_left, .ref q_o_opening])), (q_o_read, .inl (cI, n_o_read, .inl f_o_read)), (q_o_textures, .inl (cI, n_o_textures, .inl f_o_textures)), (q_o_uniforms, .inl (cI, n_o_uniforms, .inl f_o_uniforms)), (q_o_memory, .inl (cI, n_o_memory, .inl f_o_memory)), (q_o_result, .inl (cI, n_o_result, .inl g_f_o_result)), (q_o_outs, .inl (cI, n_o_outs, .inl g_f_o_outs)), (q_o_temporaries, .inl (cI, n_o_temporaries, .inl g_f_o_temporaries))] H → va_D A [(q_o, .inr (7, [.int o_thrown, .ref q_o_memory, .ref q_o_program, .ref q_o_fresh, .int o_hasProgram, .int o_fault, .int o_place, .int o_told, .ref q_o_temporaries, .ref q_o_ins, .ref q_o_outs, .ref q_o_uniforms, .ref q_o_textures, .ref q_o_read, .ref q_o_result, .int o_killed, .ref q_o_left, .ref q_o_opening])), (q_o_read, .inl (cI, n_o_read, .inl f_o_read)), (q_o_textures, .inl (cI, n_o_textures, .inl f_o_textures)), (q_o_uniforms, .inl (cI, n_o_uniforms, .inl f_o_uniforms)), (q_o_memory, .inl (cI, n_o_memory, .inl f_o_memory)), (q_o_result, .inl (cI, n_o_result, .inl g_f_o_result)), (q_o_outs, .inl (cI, n_o_outs, .inl g_f_o_outs)), (q_o_temporaries, .inl (cI, n_o_temporaries, .inl g_f_o_temporaries))] → va_S A s.heap H locs → ∀ ls : Array Slot, lv_has ls 5 [(0, .ref q_o), (1, .int x1), (2, .int x2), (3, .int x3)] → W p l e ({ frames := 3, cells := 0, slots := 0, locals := 74 } : Room) s m ([.ref q_o, .int p1, .int p2] : List Value).toArray below meth c H locs 0 0 (ck_Qv below (dC, dI) [(cI, .int), (cJ, .long)] A ([.ref q_o, .int p1, .int p2] : List Value).toArray s [(q_o, .inr (7, [.int o_thrown, .ref q_o_memory, .ref q_o_program, .ref q_o_fresh, .int o_hasProgram, .int o_fault, .int o_place, .int o_told, .ref q_o_temporaries, .ref q_o_ins, .ref q_o_outs, .ref q_o_uniforms, .ref q_o_textures, .ref q_o_read, .ref q_o_result, .int o_killed, .ref q_o_left, .ref q_o_opening])), (q_o_read, .inl (cI, n_o_read, .inl f_o_read)), (q_o_textures, .inl (cI, n_o_textures, .inl f_o_textures)), (q_o_uniforms, .inl (cI, n_o_uniforms, .inl f_o_uniforms)), (q_o_memory, .inl (cI, n_o_memory, .inl f_o_memory)), (q_o_result, .inl (cI, n_o_result, .inl o_f_o_result)), (q_o_outs, .inl (cI, n_o_outs, .inl o_f_o_outs)), (q_o_temporaries, .inl (cI, n_o_temporaries, .inl o_f_o_temporaries))]) (F0 m 2 ls []) := by
    intro n_2
    induction n_2 with
    | zero =>
      intro x1 x2 x3 g_f_o_result g_f_o_outs g_f_o_temporaries h
      cases h
    | succ n_2 ih_2 =>
      intro x1 x2 x3 g_f_o_result g_f_o_outs g_f_o_temporaries h H locs hP hD hS ls hl
      rw [pf_Mo_put_2] at h
      refine lv_iload_n hx hb d_Mo_put_2 rfl (lv_at hl 3 rfl) ?_
      refine lv_iconst (v := 4) hx hb d_Mo_put_3 (by decide) ?_
      refine lv_icmp_ge (tgt := 64) hx hb d_Mo_put_4 (by decide) (fun c_1 => ?_) (fun c_1 => ?_)
      · rw [if_pos c_1] at h
        refine lv_iconst (v := 0) hx hb d_Mo_put_64 (by decide) ?_
        refine lv_istore_n (lv' := [(3, .int (0 : Int32)), (0, .ref q_o), (1, .int x1), (2, .int x2)]) hx hb d_Mo_put_65 rfl hl (by decide) rfl (fun ls hl => ?_)
        exact w_66 fu x1 (0 : Int32) g_f_o_result g_f_o_outs g_f_o_temporaries h _ _ hP hD hS _ (lv_sub hl [1, 2, 0] rfl)
      · rw [if_neg c_1] at h
        refine lv_aload_n hx hb d_Mo_put_7 rfl (lv_at hl 0 rfl) ?_
        refine lv_iload_n hx hb d_Mo_put_8 rfl (lv_at hl 2 rfl) ?_
        refine lv_iload_n hx hb d_Mo_put_9 rfl (lv_at hl 3 rfl) ?_
        obtain ⟨r_3, h_2, h⟩ := ch_bind h
        try dsimp only at h
        refine ck_goi (wc := [(q_o, .inr (7, [.int o_thrown, .ref q_o_memory, .ref q_o_program, .ref q_o_fresh, .int o_hasProgram, .int o_fault, .int o_place, .int o_told, .ref q_o_temporaries, .ref q_o_ins, .ref q_o_outs, .ref q_o_uniforms, .ref q_o_textures, .ref q_o_read, .ref q_o_result, .int o_killed, .ref q_o_left, .ref q_o_opening])), (q_o_read, .inl (cI, n_o_read, .inl f_o_read)), (q_o_textures, .inl (cI, n_o_textures, .inl f_o_textures)), (q_o_uniforms, .inl (cI, n_o_uniforms, .inl f_o_uniforms)), (q_o_memory, .inl (cI, n_o_memory, .inl f_o_memory))]) (wr := [(q_o_result, .inl (cI, n_o_result, .inl g_f_o_result)), (q_o_outs, .inl (cI, n_o_outs, .inl g_f_o_outs)), (q_o_temporaries, .inl (cI, n_o_temporaries, .inl g_f_o_temporaries))]) (w1 := [(q_o, .inr (7, [.int o_thrown, .ref q_o_memory, .ref q_o_program, .ref q_o_fresh, .int o_hasProgram, .int o_fault, .int o_place, .int o_told, .ref q_o_temporaries, .ref q_o_ins, .ref q_o_outs, .ref q_o_uniforms, .ref q_o_textures, .ref q_o_read, .ref q_o_result, .int o_killed, .ref q_o_left, .ref q_o_opening])), (q_o_read, .inl (cI, n_o_read, .inl f_o_read)), (q_o_textures, .inl (cI, n_o_textures, .inl f_o_textures)), (q_o_uniforms, .inl (cI, n_o_uniforms, .inl f_o_uniforms)), (q_o_memory, .inl (cI, n_o_memory, .inl f_o_memory))]) (va_runV (As := [.int x2, .int x3]) (rest := []) ⟨hx, hb, hml, hown, hts⟩ (k_Mo_part l dC dI cI cJ fu x2 x3 o_thrown o_hasProgram o_fault o_place o_told o_killed n_o_read f_o_read n_o_textures f_o_textures n_o_uniforms f_o_uniforms n_o_memory f_o_memory q_o q_o_memory q_o_program q_o_fresh q_o_temporaries q_o_ins q_o_outs q_o_uniforms q_o_textures q_o_read q_o_result q_o_left q_o_opening r_3 h_2 _) (cwV 2 hts (gw_V tw_883 tw_885 sw_434 tw_9 tw_886) rfl rfl rfl (by decide +kernel) ⟨Nat.le_of_ble_eq_true rfl, Nat.le_of_ble_eq_true rfl⟩) (ck_preV (wc := [(q_o, .inr (7, [.int o_thrown, .ref q_o_memory, .ref q_o_program, .ref q_o_fresh, .int o_hasProgram, .int o_fault, .int o_place, .int o_told, .ref q_o_temporaries, .ref q_o_ins, .ref q_o_outs, .ref q_o_uniforms, .ref q_o_textures, .ref q_o_read, .ref q_o_result, .int o_killed, .ref q_o_left, .ref q_o_opening])), (q_o_read, .inl (cI, n_o_read, .inl f_o_read)), (q_o_textures, .inl (cI, n_o_textures, .inl f_o_textures)), (q_o_uniforms, .inl (cI, n_o_uniforms, .inl f_o_uniforms)), (q_o_memory, .inl (cI, n_o_memory, .inl f_o_memory))]) hK hP hD hS hA hE 0 rfl rfl rfl [0, 1, 2, 3, 4] (by decide) rfl) rfl rfl hl.1 rfl (lv_room (Nat.le_of_ble_eq_true rfl)) d_Mo_put_10 ⟨Nat.le_of_ble_eq_true rfl, Nat.le_of_ble_eq_true rfl⟩) hP hD hS hA [0, 1, 2, 3, 4] [5, 6, 7] rfl rfl (by decide) (by decide) (fun H locs hP hD hS => ?_)
        have hP : va_P (dC, dI) vwCl [(q_o, .inr (7, [.int o_thrown, .ref q_o_memory, .ref q_o_program, .ref q_o_fresh, .int o_hasProgram, .int o_fault, .int o_place, .int o_told, .ref q_o_temporaries, .ref q_o_ins, .ref q_o_outs, .ref q_o_uniforms, .ref q_o_textures, .ref q_o_read, .ref q_o_result, .int o_killed, .ref q_o_left, .ref q_o_opening])), (q_o_read, .inl (cI, n_o_read, .inl f_o_read)), (q_o_textures, .inl (cI, n_o_textures, .inl f_o_textures)), (q_o_uniforms, .inl (cI, n_o_uniforms, .inl f_o_uniforms)), (q_o_memory, .inl (cI, n_o_memory, .inl f_o_memory)), (q_o_result, .inl (cI, n_o_result, .inl g_f_o_result)), (q_o_outs, .inl (cI, n_o_outs, .inl g_f_o_outs)), (q_o_temporaries, .inl (cI, n_o_temporaries, .inl g_f_o_temporaries))] H := hP.sub [3, 4, 5, 6, 7, 0, 1, 2] rfl
        have hD : va_D A [(q_o, .inr (7, [.int o_thrown, .ref q_o_memory, .ref q_o_program, .ref q_o_fresh, .int o_hasProgram, .int o_fault, .int o_place, .int o_told, .ref q_o_temporaries, .ref q_o_ins, .ref q_o_outs, .ref q_o_uniforms, .ref q_o_textures, .ref q_o_read, .ref q_o_result, .int o_killed, .ref q_o_left, .ref q_o_opening])), (q_o_read, .inl (cI, n_o_read, .inl f_o_read)), (q_o_textures, .inl (cI, n_o_textures, .inl f_o_textures)), (q_o_uniforms, .inl (cI, n_o_uniforms, .inl f_o_uniforms)), (q_o_memory, .inl (cI, n_o_memory, .inl f_o_memory)), (q_o_result, .inl (cI, n_o_result, .inl g_f_o_result)), (q_o_outs, .inl (cI, n_o_outs, .inl g_f_o_outs)), (q_o_temporaries, .inl (cI, n_o_temporaries, .inl g_f_o_temporaries))] := hD.sub [3, 4, 5, 6, 7, 0, 1, 2] (by decide) rfl
        refine lv_istore (lv' := [(4, .int r_3), (0, .ref q_o), (1, .int x1), (2, .int x2), (3, .int x3)]) hx hb d_Mo_put_13 hl (by decide) rfl (fun ls hl => ?_)
        refine lv_aload_n hx hb d_Mo_put_15 rfl (lv_at hl 1 rfl) ?_
        refine va_get (D := (dC, dI)) (ci := 7) (v := .ref q_o_result) (C := R_Mo) (T := T_Mo) (N := 18) hx hb hts (iw_Mo _) hown hK hP 0 rfl rfl 14 (by decide) (hts (.fieldLink R_Mo 41 "ShaderMachineModel" "result" "[I") (List.mem_cons_of_mem _ tw_742)) (fun _ h9 => h9) rfl d_Mo_put_16 ?_
        refine lv_iload_n hx hb d_Mo_put_19 rfl (lv_at hl 4 rfl) ?_
        refine lv_iload_n hx hb d_Mo_put_20 rfl (lv_at hl 2 rfl) ?_
        refine lv_bipush (v := 16) hx hb d_Mo_put_21 (by decide) ?_
        refine lv_ishr hx hb d_Mo_put_23 ?_
        refine lv_iconst (v := 1) hx hb d_Mo_put_24 (by decide) ?_
        refine lv_iand hx hb d_Mo_put_25 ?_
        refine lv_if_ne (tgt := 34) hx hb d_Mo_put_26 (by decide) (fun c_4 => ?_) (fun c_4 => ?_)
        · rw [if_neg c_4] at h
          refine lv_iload hx hb d_Mo_put_34 (lv_at hl 0 rfl) ?_
          refine lv_if_ge (tgt := 43) hx hb d_Mo_put_36 (by decide) (fun c_5 => ?_) (fun c_5 => ?_)
          · rw [if_pos c_5] at h
            refine lv_iload hx hb d_Mo_put_43 (lv_at hl 0 rfl) ?_
            refine lv_ldc (v := 65536) hx hb hown (hts (.constant R_Mo 153 (65536)) (by decide +kernel)) d_Mo_put_45 ?_
            refine lv_icmp_le (tgt := 55) hx hb d_Mo_put_47 (by decide) (fun c_6 => ?_) (fun c_6 => ?_)
            · rw [if_pos c_6] at h
              refine lv_iload hx hb d_Mo_put_55 (lv_at hl 0 rfl) ?_
              obtain ⟨c_7, h⟩ := ch_ite h
              refine va_iast hx hb hK hP hD hS 5 0 rfl rfl (ch_in c_7) d_Mo_put_57 (fun H locs hP hD hS => ?_)
              have hP : va_P (dC, dI) vwCl [(q_o, .inr (7, [.int o_thrown, .ref q_o_memory, .ref q_o_program, .ref q_o_fresh, .int o_hasProgram, .int o_fault, .int o_place, .int o_told, .ref q_o_temporaries, .ref q_o_ins, .ref q_o_outs, .ref q_o_uniforms, .ref q_o_textures, .ref q_o_read, .ref q_o_result, .int o_killed, .ref q_o_left, .ref q_o_opening])), (q_o_read, .inl (cI, n_o_read, .inl f_o_read)), (q_o_textures, .inl (cI, n_o_textures, .inl f_o_textures)), (q_o_uniforms, .inl (cI, n_o_uniforms, .inl f_o_uniforms)), (q_o_memory, .inl (cI, n_o_memory, .inl f_o_memory)), (q_o_result, .inl (cI, n_o_result, .inl (upd g_f_o_result x3.toNatClampNeg r_3))), (q_o_outs, .inl (cI, n_o_outs, .inl g_f_o_outs)), (q_o_temporaries, .inl (cI, n_o_temporaries, .inl g_f_o_temporaries))] H := hP
              have hD : va_D A [(q_o, .inr (7, [.int o_thrown, .ref q_o_memory, .ref q_o_program, .ref q_o_fresh, .int o_hasProgram, .int o_fault, .int o_place, .int o_told, .ref q_o_temporaries, .ref q_o_ins, .ref q_o_outs, .ref q_o_uniforms, .ref q_o_textures, .ref q_o_read, .ref q_o_result, .int o_killed, .ref q_o_left, .ref q_o_opening])), (q_o_read, .inl (cI, n_o_read, .inl f_o_read)), (q_o_textures, .inl (cI, n_o_textures, .inl f_o_textures)), (q_o_uniforms, .inl (cI, n_o_uniforms, .inl f_o_uniforms)), (q_o_memory, .inl (cI, n_o_memory, .inl f_o_memory)), (q_o_result, .inl (cI, n_o_result, .inl (upd g_f_o_result x3.toNatClampNeg r_3))), (q_o_outs, .inl (cI, n_o_outs, .inl g_f_o_outs)), (q_o_temporaries, .inl (cI, n_o_temporaries, .inl g_f_o_temporaries))] := hD
              refine lv_iinc (v := (x3 + 1)) (lv' := [(3, .int (x3 + 1)), (4, .int r_3), (0, .ref q_o), (1, .int x1), (2, .int x2)]) hx hb d_Mo_put_58 hl (k := 4) rfl (by rfl) (by decide) rfl (fun ls hl => ?_)
              refine lv_goto (tgt := 2) hx hb d_Mo_put_61 (by decide) ?_
              exact ih_2 x1 x2 (x3 + 1) (upd g_f_o_result x3.toNatClampNeg r_3) g_f_o_outs g_f_o_temporaries h _ _ hP hD hS _ (lv_sub hl [2, 3, 4, 0] rfl)
            · rw [if_neg c_6] at h
              refine lv_ldc (v := 65536) hx hb hown (hts (.constant R_Mo 153 (65536)) (by decide +kernel)) d_Mo_put_50 ?_
              refine lv_goto (tgt := 57) hx hb d_Mo_put_52 (by decide) ?_
              obtain ⟨c_8, h⟩ := ch_ite h
              refine va_iast hx hb hK hP hD hS 5 0 rfl rfl (ch_in c_8) d_Mo_put_57 (fun H locs hP hD hS => ?_)
              have hP : va_P (dC, dI) vwCl [(q_o, .inr (7, [.int o_thrown, .ref q_o_memory, .ref q_o_program, .ref q_o_fresh, .int o_hasProgram, .int o_fault, .int o_place, .int o_told, .ref q_o_temporaries, .ref q_o_ins, .ref q_o_outs, .ref q_o_uniforms, .ref q_o_textures, .ref q_o_read, .ref q_o_result, .int o_killed, .ref q_o_left, .ref q_o_opening])), (q_o_read, .inl (cI, n_o_read, .inl f_o_read)), (q_o_textures, .inl (cI, n_o_textures, .inl f_o_textures)), (q_o_uniforms, .inl (cI, n_o_uniforms, .inl f_o_uniforms)), (q_o_memory, .inl (cI, n_o_memory, .inl f_o_memory)), (q_o_result, .inl (cI, n_o_result, .inl (upd g_f_o_result x3.toNatClampNeg (65536 : Int32)))), (q_o_outs, .inl (cI, n_o_outs, .inl g_f_o_outs)), (q_o_temporaries, .inl (cI, n_o_temporaries, .inl g_f_o_temporaries))] H := hP
              have hD : va_D A [(q_o, .inr (7, [.int o_thrown, .ref q_o_memory, .ref q_o_program, .ref q_o_fresh, .int o_hasProgram, .int o_fault, .int o_place, .int o_told, .ref q_o_temporaries, .ref q_o_ins, .ref q_o_outs, .ref q_o_uniforms, .ref q_o_textures, .ref q_o_read, .ref q_o_result, .int o_killed, .ref q_o_left, .ref q_o_opening])), (q_o_read, .inl (cI, n_o_read, .inl f_o_read)), (q_o_textures, .inl (cI, n_o_textures, .inl f_o_textures)), (q_o_uniforms, .inl (cI, n_o_uniforms, .inl f_o_uniforms)), (q_o_memory, .inl (cI, n_o_memory, .inl f_o_memory)), (q_o_result, .inl (cI, n_o_result, .inl (upd g_f_o_result x3.toNatClampNeg (65536 : Int32)))), (q_o_outs, .inl (cI, n_o_outs, .inl g_f_o_outs)), (q_o_temporaries, .inl (cI, n_o_temporaries, .inl g_f_o_temporaries))] := hD
              refine lv_iinc (v := (x3 + 1)) (lv' := [(3, .int (x3 + 1)), (4, .int r_3), (0, .ref q_o), (1, .int x1), (2, .int x2)]) hx hb d_Mo_put_58 hl (k := 4) rfl (by rfl) (by decide) rfl (fun ls hl => ?_)
              refine lv_goto (tgt := 2) hx hb d_Mo_put_61 (by decide) ?_
              exact ih_2 x1 x2 (x3 + 1) (upd g_f_o_result x3.toNatClampNeg (65536 : Int32)) g_f_o_outs g_f_o_temporaries h _ _ hP hD hS _ (lv_sub hl [2, 3, 4, 0] rfl)
          · rw [if_neg c_5] at h
            refine lv_iconst (v := 0) hx hb d_Mo_put_39 (by decide) ?_
            refine lv_goto (tgt := 57) hx hb d_Mo_put_40 (by decide) ?_
            obtain ⟨c_9, h⟩ := ch_ite h
            refine va_iast hx hb hK hP hD hS 5 0 rfl rfl (ch_in c_9) d_Mo_put_57 (fun H locs hP hD hS => ?_)
            have hP : va_P (dC, dI) vwCl [(q_o, .inr (7, [.int o_thrown, .ref q_o_memory, .ref q_o_program, .ref q_o_fresh, .int o_hasProgram, .int o_fault, .int o_place, .int o_told, .ref q_o_temporaries, .ref q_o_ins, .ref q_o_outs, .ref q_o_uniforms, .ref q_o_textures, .ref q_o_read, .ref q_o_result, .int o_killed, .ref q_o_left, .ref q_o_opening])), (q_o_read, .inl (cI, n_o_read, .inl f_o_read)), (q_o_textures, .inl (cI, n_o_textures, .inl f_o_textures)), (q_o_uniforms, .inl (cI, n_o_uniforms, .inl f_o_uniforms)), (q_o_memory, .inl (cI, n_o_memory, .inl f_o_memory)), (q_o_result, .inl (cI, n_o_result, .inl (upd g_f_o_result x3.toNatClampNeg (0 : Int32)))), (q_o_outs, .inl (cI, n_o_outs, .inl g_f_o_outs)), (q_o_temporaries, .inl (cI, n_o_temporaries, .inl g_f_o_temporaries))] H := hP
            have hD : va_D A [(q_o, .inr (7, [.int o_thrown, .ref q_o_memory, .ref q_o_program, .ref q_o_fresh, .int o_hasProgram, .int o_fault, .int o_place, .int o_told, .ref q_o_temporaries, .ref q_o_ins, .ref q_o_outs, .ref q_o_uniforms, .ref q_o_textures, .ref q_o_read, .ref q_o_result, .int o_killed, .ref q_o_left, .ref q_o_opening])), (q_o_read, .inl (cI, n_o_read, .inl f_o_read)), (q_o_textures, .inl (cI, n_o_textures, .inl f_o_textures)), (q_o_uniforms, .inl (cI, n_o_uniforms, .inl f_o_uniforms)), (q_o_memory, .inl (cI, n_o_memory, .inl f_o_memory)), (q_o_result, .inl (cI, n_o_result, .inl (upd g_f_o_result x3.toNatClampNeg (0 : Int32)))), (q_o_outs, .inl (cI, n_o_outs, .inl g_f_o_outs)), (q_o_temporaries, .inl (cI, n_o_temporaries, .inl g_f_o_temporaries))] := hD
            refine lv_iinc (v := (x3 + 1)) (lv' := [(3, .int (x3 + 1)), (4, .int r_3), (0, .ref q_o), (1, .int x1), (2, .int x2)]) hx hb d_Mo_put_58 hl (k := 4) rfl (by rfl) (by decide) rfl (fun ls hl => ?_)
            refine lv_goto (tgt := 2) hx hb d_Mo_put_61 (by decide) ?_
            exact ih_2 x1 x2 (x3 + 1) (upd g_f_o_result x3.toNatClampNeg (0 : Int32)) g_f_o_outs g_f_o_temporaries h _ _ hP hD hS _ (lv_sub hl [2, 3, 4, 0] rfl)
        · rw [if_pos c_4] at h
          refine lv_iload hx hb d_Mo_put_29 (lv_at hl 0 rfl) ?_
          refine lv_goto (tgt := 57) hx hb d_Mo_put_31 (by decide) ?_
          obtain ⟨c_10, h⟩ := ch_ite h
          refine va_iast hx hb hK hP hD hS 5 0 rfl rfl (ch_in c_10) d_Mo_put_57 (fun H locs hP hD hS => ?_)
          have hP : va_P (dC, dI) vwCl [(q_o, .inr (7, [.int o_thrown, .ref q_o_memory, .ref q_o_program, .ref q_o_fresh, .int o_hasProgram, .int o_fault, .int o_place, .int o_told, .ref q_o_temporaries, .ref q_o_ins, .ref q_o_outs, .ref q_o_uniforms, .ref q_o_textures, .ref q_o_read, .ref q_o_result, .int o_killed, .ref q_o_left, .ref q_o_opening])), (q_o_read, .inl (cI, n_o_read, .inl f_o_read)), (q_o_textures, .inl (cI, n_o_textures, .inl f_o_textures)), (q_o_uniforms, .inl (cI, n_o_uniforms, .inl f_o_uniforms)), (q_o_memory, .inl (cI, n_o_memory, .inl f_o_memory)), (q_o_result, .inl (cI, n_o_result, .inl (upd g_f_o_result x3.toNatClampNeg r_3))), (q_o_outs, .inl (cI, n_o_outs, .inl g_f_o_outs)), (q_o_temporaries, .inl (cI, n_o_temporaries, .inl g_f_o_temporaries))] H := hP
          have hD : va_D A [(q_o, .inr (7, [.int o_thrown, .ref q_o_memory, .ref q_o_program, .ref q_o_fresh, .int o_hasProgram, .int o_fault, .int o_place, .int o_told, .ref q_o_temporaries, .ref q_o_ins, .ref q_o_outs, .ref q_o_uniforms, .ref q_o_textures, .ref q_o_read, .ref q_o_result, .int o_killed, .ref q_o_left, .ref q_o_opening])), (q_o_read, .inl (cI, n_o_read, .inl f_o_read)), (q_o_textures, .inl (cI, n_o_textures, .inl f_o_textures)), (q_o_uniforms, .inl (cI, n_o_uniforms, .inl f_o_uniforms)), (q_o_memory, .inl (cI, n_o_memory, .inl f_o_memory)), (q_o_result, .inl (cI, n_o_result, .inl (upd g_f_o_result x3.toNatClampNeg r_3))), (q_o_outs, .inl (cI, n_o_outs, .inl g_f_o_outs)), (q_o_temporaries, .inl (cI, n_o_temporaries, .inl g_f_o_temporaries))] := hD
          refine lv_iinc (v := (x3 + 1)) (lv' := [(3, .int (x3 + 1)), (4, .int r_3), (0, .ref q_o), (1, .int x1), (2, .int x2)]) hx hb d_Mo_put_58 hl (k := 4) rfl (by rfl) (by decide) rfl (fun ls hl => ?_)
          refine lv_goto (tgt := 2) hx hb d_Mo_put_61 (by decide) ?_
          exact ih_2 x1 x2 (x3 + 1) (upd g_f_o_result x3.toNatClampNeg r_3) g_f_o_outs g_f_o_temporaries h _ _ hP hD hS _ (lv_sub hl [2, 3, 4, 0] rfl)
  unfold pf_Mo_put at h
  have hl := lv_entry ([.ref q_o, .int p1, .int p2]) (n := 5) (Nat.le_of_ble_eq_true rfl)
  rw [lg_entry_eq]
  generalize (lg_sl ([.ref q_o, .int p1, .int p2]) ++ List.replicate (5 - (lg_sl ([.ref q_o, .int p1, .int p2])).length) Slot.unset).toArray = ls at hl ⊢
  have hl : lv_has ls 5 [(0, .ref q_o), (1, .int p1), (2, .int p2)] := hl
  refine lv_iconst (v := 0) hx hb d_Mo_put_0 (by decide) ?_
  refine lv_istore_n (lv' := [(3, .int (0 : Int32)), (0, .ref q_o), (1, .int p1), (2, .int p2)]) hx hb d_Mo_put_1 rfl hl (by decide) rfl (fun ls hl => ?_)
  exact w_2 fu p1 p2 (0 : Int32) f_o_result f_o_outs f_o_temporaries h _ _ hP hD hS _ (lv_sub hl [1, 2, 3, 0] rfl)
