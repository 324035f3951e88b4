def pf_Mo_uniform (p1 : Int32) (p2 : Int32) (p3 : Int32) (p4 : Int32) (p5 : Int32) (n_o_uniforms : Nat) (f_o_uniforms : Nat → Int32) : Option (Int32 × (Nat → Int32)) :=
  if p1 < 0 then
    Option.bind (pf_Mo_refuse (1 : Int32)) (fun (r_3, w_4) => 
    if r_3 = 0 then
      Option.bind (pf_Mo_set p1 p2 p3 p4 p5 n_o_uniforms f_o_uniforms) (fun w_7 => 
      some (w_4, w_7))
    else
      some (w_4, f_o_uniforms))
  else
    if p1 ≤ (31 : Int32) then
      Option.bind (pf_Mo_refuse (0 : Int32)) (fun (r_10, w_11) => 
      if r_10 = 0 then
        Option.bind (pf_Mo_set p1 p2 p3 p4 p5 n_o_uniforms f_o_uniforms) (fun w_14 => 
        some (w_11, w_14))
      else
        some (w_11, f_o_uniforms))
    else
      Option.bind (pf_Mo_refuse (1 : Int32)) (fun (r_16, w_17) => 
      if r_16 = 0 then
        Option.bind (pf_Mo_set p1 p2 p3 p4 p5 n_o_uniforms f_o_uniforms) (fun w_20 => 
        some (w_17, w_20))
      else
        some (w_17, f_o_uniforms))
set_option maxHeartbeats 4000000 in
set_option maxRecDepth 100000 in
theorem k_Mo_uniform (l : Launch) (dC : Nat → ClassId) (dI : Nat → Nat → Nat) (cI cJ : ClassId) (p1 : Int32) (p2 : Int32) (p3 : Int32) (p4 : Int32) (p5 : Int32) (o_thrown : Int32) (o_hasProgram : Int32) (o_fault : Int32) (o_place : Int32) (o_told : Int32) (o_killed : Int32) (n_o_uniforms : Nat) (f_o_uniforms : Nat → Int32) (q_o : Nat) (q_o_memory : Nat) (q_o_program : Nat) (q_o_fresh : Nat) (q_o_temporaries : Nat) (q_o_ins : Nat) (q_o_outs : Nat) (q_o_uniforms : Nat) (q_o_textures : Nat) (q_o_read : Nat) (q_o_result : Nat) (q_o_left : Nat) (q_o_opening : Nat) (o_o_thrown : Int32) (o_f_o_uniforms : Nat → Int32) (h : pf_Mo_uniform p1 p2 p3 p4 p5 n_o_uniforms f_o_uniforms = some (o_o_thrown, o_f_o_uniforms)) : ck_v l y_Mo_uniform wm_Mo_uniform ({ frames := 1, cells := 0, slots := 0, locals := 26 } : Room) [.ref q_o, .int p1, .int p2, .int p3, .int p4, .int p5] (dC, dI) [(cI, .int), (cJ, .long)] [(q_o, .inr (7, [.int o_thrown, .ref q_o_memory, .ref q_o_program, .ref q_o_fresh, .int o_hasProgram, .int o_fault, .int o_place, .int o_told, .ref q_o_temporaries, .ref q_o_ins, .ref q_o_outs, .ref q_o_uniforms, .ref q_o_textures, .ref q_o_read, .ref q_o_result, .int o_killed, .ref q_o_left, .ref q_o_opening])), (q_o_uniforms, .inl (cI, n_o_uniforms, .inl f_o_uniforms))] [(q_o, .inr (7, [.int o_o_thrown, .ref q_o_memory, .ref q_o_program, .ref q_o_fresh, .int o_hasProgram, .int o_fault, .int o_place, .int o_told, .ref q_o_temporaries, .ref q_o_ins, .ref q_o_outs, .ref q_o_uniforms, .ref q_o_textures, .ref q_o_read, .ref q_o_result, .int o_killed, .ref q_o_left, .ref q_o_opening])), (q_o_uniforms, .inl (cI, n_o_uniforms, .inl o_f_o_uniforms))] := by
  refine ck_ofv (cc := c_Mo_uniform) (maxL := 6) (ret := none) (by decide +kernel) rfl ?_
  intro p e s m below meth c A C0 hK hP hD hS hE
  obtain ⟨hx, hb, hr, hml, hown, hts, hlk, hA, hin⟩ := C0
  unfold pf_Mo_uniform at h
  have hl := lv_entry ([.ref q_o, .int p1, .int p2, .int p3, .int p4, .int p5]) (n := 6) (Nat.le_of_ble_eq_true rfl)
  rw [lg_entry_eq]
  generalize (lg_sl ([.ref q_o, .int p1, .int p2, .int p3, .int p4, .int p5]) ++ List.replicate (6 - (lg_sl ([.ref q_o, .int p1, .int p2, .int p3, .int p4, .int p5])).length) Slot.unset).toArray = ls at hl ⊢
  have hl : lv_has ls 6 [(0, .ref q_o), (1, .int p1), (2, .int p2), (3, .int p3), (4, .int p4), (5, .int p5)] := hl
  refine lv_aload_n hx hb d_Mo_uniform_0 rfl (lv_at hl 0 rfl) ?_
  refine lv_iload_n hx hb d_Mo_uniform_1 rfl (lv_at hl 1 rfl) ?_
  refine lv_if_lt (tgt := 11) hx hb d_Mo_uniform_2 (by decide) (fun c_1 => ?_) (fun c_1 => ?_)
  · rw [if_pos c_1] at h
    refine lv_iconst (v := 1) hx hb d_Mo_uniform_11 (by decide) ?_
    refine lv_goto (tgt := 16) hx hb d_Mo_uniform_12 (by decide) ?_
    obtain ⟨⟨r_3, w_4⟩, h_2, h⟩ := ch_bind h
    try dsimp only at h
    refine ck_goi (wc := [(q_o, .inr (7, [.int o_thrown, .ref q_o_memory, .ref q_o_program, .ref q_o_fresh, .int o_hasProgram, .int o_fault, .int o_place, .int o_told, .ref q_o_temporaries, .ref q_o_ins, .ref q_o_outs, .ref q_o_uniforms, .ref q_o_textures, .ref q_o_read, .ref q_o_result, .int o_killed, .ref q_o_left, .ref q_o_opening]))]) (wr := [(q_o_uniforms, .inl (cI, n_o_uniforms, .inl f_o_uniforms))]) (w1 := [(q_o, .inr (7, [.int w_4, .ref q_o_memory, .ref q_o_program, .ref q_o_fresh, .int o_hasProgram, .int o_fault, .int o_place, .int o_told, .ref q_o_temporaries, .ref q_o_ins, .ref q_o_outs, .ref q_o_uniforms, .ref q_o_textures, .ref q_o_read, .ref q_o_result, .int o_killed, .ref q_o_left, .ref q_o_opening]))]) (va_runV (As := [.int (1 : Int32)]) (rest := []) ⟨hx, hb, hml, hown, hts⟩ (k_Mo_refuse l dC dI cI cJ (1 : Int32) o_thrown o_hasProgram o_fault o_place o_told o_killed q_o q_o_memory q_o_program q_o_fresh q_o_temporaries q_o_ins q_o_outs q_o_uniforms q_o_textures q_o_read q_o_result q_o_left q_o_opening r_3 w_4 h_2 _) (cwV 1 hts (gw_V tw_791 tw_793 sw_394 tw_9 tw_794) rfl rfl rfl (by decide +kernel) ⟨Nat.le_of_ble_eq_true rfl, Nat.le_of_ble_eq_true rfl⟩) (ck_preV (wc := [(q_o, .inr (7, [.int o_thrown, .ref q_o_memory, .ref q_o_program, .ref q_o_fresh, .int o_hasProgram, .int o_fault, .int o_place, .int o_told, .ref q_o_temporaries, .ref q_o_ins, .ref q_o_outs, .ref q_o_uniforms, .ref q_o_textures, .ref q_o_read, .ref q_o_result, .int o_killed, .ref q_o_left, .ref q_o_opening]))]) hK hP hD hS hA hE 0 rfl rfl rfl [0] (by decide) rfl) rfl rfl hl.1 rfl (lv_room (Nat.le_of_ble_eq_true rfl)) d_Mo_uniform_16 ⟨Nat.le_of_ble_eq_true rfl, Nat.le_of_ble_eq_true rfl⟩) hP hD hS hA [0] [1] rfl rfl (by decide) (by decide) (fun H locs hP hD hS => ?_)
    have hP : va_P (dC, dI) vwCl [(q_o, .inr (7, [.int w_4, .ref q_o_memory, .ref q_o_program, .ref q_o_fresh, .int o_hasProgram, .int o_fault, .int o_place, .int o_told, .ref q_o_temporaries, .ref q_o_ins, .ref q_o_outs, .ref q_o_uniforms, .ref q_o_textures, .ref q_o_read, .ref q_o_result, .int o_killed, .ref q_o_left, .ref q_o_opening])), (q_o_uniforms, .inl (cI, n_o_uniforms, .inl f_o_uniforms))] H := hP.sub [1, 0] rfl
    have hD : va_D A [(q_o, .inr (7, [.int w_4, .ref q_o_memory, .ref q_o_program, .ref q_o_fresh, .int o_hasProgram, .int o_fault, .int o_place, .int o_told, .ref q_o_temporaries, .ref q_o_ins, .ref q_o_outs, .ref q_o_uniforms, .ref q_o_textures, .ref q_o_read, .ref q_o_result, .int o_killed, .ref q_o_left, .ref q_o_opening])), (q_o_uniforms, .inl (cI, n_o_uniforms, .inl f_o_uniforms))] := hD.sub [1, 0] (by decide) rfl
    refine lv_if_ne (tgt := 37) hx hb d_Mo_uniform_19 (by decide) (fun c_5 => ?_) (fun c_5 => ?_)
    · rw [if_neg c_5] at h
      cases h
      exact ck_vret hx hb hr hlk hK hP hD hS d_Mo_uniform_37
    · rw [if_pos c_5] at h
      refine lv_aload_n hx hb d_Mo_uniform_22 rfl (lv_at hl 0 rfl) ?_
      refine lv_aload_n hx hb d_Mo_uniform_23 rfl (lv_at hl 0 rfl) ?_
      refine va_get (D := (dC, dI)) (ci := 7) (v := .ref q_o_uniforms) (C := R_Mo) (T := T_Mo) (N := 18) hx hb hts (iw_Mo _) hown hK hP 0 rfl rfl 11 (by decide) (hts (.fieldLink R_Mo 32 "ShaderMachineModel" "uniforms" "[I") (List.mem_cons_of_mem _ tw_739)) (fun _ h9 => h9) rfl d_Mo_uniform_24 ?_
      refine lv_iload_n hx hb d_Mo_uniform_27 rfl (lv_at hl 1 rfl) ?_
      refine lv_iload_n hx hb d_Mo_uniform_28 rfl (lv_at hl 2 rfl) ?_
      refine lv_iload_n hx hb d_Mo_uniform_29 rfl (lv_at hl 3 rfl) ?_
      refine lv_iload hx hb d_Mo_uniform_30 (lv_at hl 4 rfl) ?_
      refine lv_iload hx hb d_Mo_uniform_32 (lv_at hl 5 rfl) ?_
      obtain ⟨w_7, h_6, h⟩ := ch_bind h
      try dsimp only at h
      refine ck_gov (wc := [(q_o_uniforms, .inl (cI, n_o_uniforms, .inl f_o_uniforms))]) (wr := [(q_o, .inr (7, [.int w_4, .ref q_o_memory, .ref q_o_program, .ref q_o_fresh, .int o_hasProgram, .int o_fault, .int o_place, .int o_told, .ref q_o_temporaries, .ref q_o_ins, .ref q_o_outs, .ref q_o_uniforms, .ref q_o_textures, .ref q_o_read, .ref q_o_result, .int o_killed, .ref q_o_left, .ref q_o_opening]))]) (w1 := [(q_o_uniforms, .inl (cI, n_o_uniforms, .inl w_7))]) (va_runV (As := [.ref q_o_uniforms, .int p1, .int p2, .int p3, .int p4, .int p5]) (rest := []) ⟨hx, hb, hml, hown, hts⟩ (k_Mo_set l dC dI cI cJ p1 p2 p3 p4 p5 n_o_uniforms f_o_uniforms q_o q_o_uniforms w_7 h_6 _) (cwV 6 hts (gw_V tw_859 tw_861 sw_408 tw_9 tw_862) rfl rfl rfl (by decide +kernel) ⟨Nat.le_of_ble_eq_true rfl, Nat.le_of_ble_eq_true rfl⟩) (ck_preV (wc := [(q_o_uniforms, .inl (cI, n_o_uniforms, .inl f_o_uniforms))]) hK hP hD hS hA hE 0 rfl rfl rfl [1] (by decide) rfl) rfl rfl hl.1 rfl (lv_room (Nat.le_of_ble_eq_true rfl)) d_Mo_uniform_34 ⟨Nat.le_of_ble_eq_true rfl, Nat.le_of_ble_eq_true rfl⟩) hP hD hS hA [1] [0] rfl rfl (by decide) (by decide) (fun H locs hP hD hS => ?_)
      have hP : va_P (dC, dI) vwCl [(q_o, .inr (7, [.int w_4, .ref q_o_memory, .ref q_o_program, .ref q_o_fresh, .int o_hasProgram, .int o_fault, .int o_place, .int o_told, .ref q_o_temporaries, .ref q_o_ins, .ref q_o_outs, .ref q_o_uniforms, .ref q_o_textures, .ref q_o_read, .ref q_o_result, .int o_killed, .ref q_o_left, .ref q_o_opening])), (q_o_uniforms, .inl (cI, n_o_uniforms, .inl w_7))] H := hP.sub [0, 1] rfl
      have hD : va_D A [(q_o, .inr (7, [.int w_4, .ref q_o_memory, .ref q_o_program, .ref q_o_fresh, .int o_hasProgram, .int o_fault, .int o_place, .int o_told, .ref q_o_temporaries, .ref q_o_ins, .ref q_o_outs, .ref q_o_uniforms, .ref q_o_textures, .ref q_o_read, .ref q_o_result, .int o_killed, .ref q_o_left, .ref q_o_opening])), (q_o_uniforms, .inl (cI, n_o_uniforms, .inl w_7))] := hD.sub [0, 1] (by decide) rfl
      cases h
      exact ck_vret hx hb hr hlk hK hP hD hS d_Mo_uniform_37
  · rw [if_neg c_1] at h
    refine lv_iload_n hx hb d_Mo_uniform_5 rfl (lv_at hl 1 rfl) ?_
    refine lv_bipush (v := 31) hx hb d_Mo_uniform_6 (by decide) ?_
    refine lv_icmp_le (tgt := 15) hx hb d_Mo_uniform_8 (by decide) (fun c_8 => ?_) (fun c_8 => ?_)
    · rw [if_pos c_8] at h
      refine lv_iconst (v := 0) hx hb d_Mo_uniform_15 (by decide) ?_
      obtain ⟨⟨r_10, w_11⟩, h_9, h⟩ := ch_bind h
      try dsimp only at h
      refine ck_goi (wc := [(q_o, .inr (7, [.int o_thrown, .ref q_o_memory, .ref q_o_program, .ref q_o_fresh, .int o_hasProgram, .int o_fault, .int o_place, .int o_told, .ref q_o_temporaries, .ref q_o_ins, .ref q_o_outs, .ref q_o_uniforms, .ref q_o_textures, .ref q_o_read, .ref q_o_result, .int o_killed, .ref q_o_left, .ref q_o_opening]))]) (wr := [(q_o_uniforms, .inl (cI, n_o_uniforms, .inl f_o_uniforms))]) (w1 := [(q_o, .inr (7, [.int w_11, .ref q_o_memory, .ref q_o_program, .ref q_o_fresh, .int o_hasProgram, .int o_fault, .int o_place, .int o_told, .ref q_o_temporaries, .ref q_o_ins, .ref q_o_outs, .ref q_o_uniforms, .ref q_o_textures, .ref q_o_read, .ref q_o_result, .int o_killed, .ref q_o_left, .ref q_o_opening]))]) (va_runV (As := [.int (0 : Int32)]) (rest := []) ⟨hx, hb, hml, hown, hts⟩ (k_Mo_refuse l dC dI cI cJ (0 : Int32) o_thrown o_hasProgram o_fault o_place o_told o_killed q_o q_o_memory q_o_program q_o_fresh q_o_temporaries q_o_ins q_o_outs q_o_uniforms q_o_textures q_o_read q_o_result q_o_left q_o_opening r_10 w_11 h_9 _) (cwV 1 hts (gw_V tw_791 tw_793 sw_394 tw_9 tw_794) rfl rfl rfl (by decide +kernel) ⟨Nat.le_of_ble_eq_true rfl, Nat.le_of_ble_eq_true rfl⟩) (ck_preV (wc := [(q_o, .inr (7, [.int o_thrown, .ref q_o_memory, .ref q_o_program, .ref q_o_fresh, .int o_hasProgram, .int o_fault, .int o_place, .int o_told, .ref q_o_temporaries, .ref q_o_ins, .ref q_o_outs, .ref q_o_uniforms, .ref q_o_textures, .ref q_o_read, .ref q_o_result, .int o_killed, .ref q_o_left, .ref q_o_opening]))]) hK hP hD hS hA hE 0 rfl rfl rfl [0] (by decide) rfl) rfl rfl hl.1 rfl (lv_room (Nat.le_of_ble_eq_true rfl)) d_Mo_uniform_16 ⟨Nat.le_of_ble_eq_true rfl, Nat.le_of_ble_eq_true rfl⟩) hP hD hS hA [0] [1] rfl rfl (by decide) (by decide) (fun H locs hP hD hS => ?_)
      have hP : va_P (dC, dI) vwCl [(q_o, .inr (7, [.int w_11, .ref q_o_memory, .ref q_o_program, .ref q_o_fresh, .int o_hasProgram, .int o_fault, .int o_place, .int o_told, .ref q_o_temporaries, .ref q_o_ins, .ref q_o_outs, .ref q_o_uniforms, .ref q_o_textures, .ref q_o_read, .ref q_o_result, .int o_killed, .ref q_o_left, .ref q_o_opening])), (q_o_uniforms, .inl (cI, n_o_uniforms, .inl f_o_uniforms))] H := hP.sub [1, 0] rfl
      have hD : va_D A [(q_o, .inr (7, [.int w_11, .ref q_o_memory, .ref q_o_program, .ref q_o_fresh, .int o_hasProgram, .int o_fault, .int o_place, .int o_told, .ref q_o_temporaries, .ref q_o_ins, .ref q_o_outs, .ref q_o_uniforms, .ref q_o_textures, .ref q_o_read, .ref q_o_result, .int o_killed, .ref q_o_left, .ref q_o_opening])), (q_o_uniforms, .inl (cI, n_o_uniforms, .inl f_o_uniforms))] := hD.sub [1, 0] (by decide) rfl
      refine lv_if_ne (tgt := 37) hx hb d_Mo_uniform_19 (by decide) (fun c_12 => ?_) (fun c_12 => ?_)
      · rw [if_neg c_12] at h
        cases h
        exact ck_vret hx hb hr hlk hK hP hD hS d_Mo_uniform_37
      · rw [if_pos c_12] at h
        refine lv_aload_n hx hb d_Mo_uniform_22 rfl (lv_at hl 0 rfl) ?_
        refine lv_aload_n hx hb d_Mo_uniform_23 rfl (lv_at hl 0 rfl) ?_
        refine va_get (D := (dC, dI)) (ci := 7) (v := .ref q_o_uniforms) (C := R_Mo) (T := T_Mo) (N := 18) hx hb hts (iw_Mo _) hown hK hP 0 rfl rfl 11 (by decide) (hts (.fieldLink R_Mo 32 "ShaderMachineModel" "uniforms" "[I") (List.mem_cons_of_mem _ tw_739)) (fun _ h9 => h9) rfl d_Mo_uniform_24 ?_
        refine lv_iload_n hx hb d_Mo_uniform_27 rfl (lv_at hl 1 rfl) ?_
        refine lv_iload_n hx hb d_Mo_uniform_28 rfl (lv_at hl 2 rfl) ?_
        refine lv_iload_n hx hb d_Mo_uniform_29 rfl (lv_at hl 3 rfl) ?_
        refine lv_iload hx hb d_Mo_uniform_30 (lv_at hl 4 rfl) ?_
        refine lv_iload hx hb d_Mo_uniform_32 (lv_at hl 5 rfl) ?_
        obtain ⟨w_14, h_13, h⟩ := ch_bind h
        try dsimp only at h
        refine ck_gov (wc := [(q_o_uniforms, .inl (cI, n_o_uniforms, .inl f_o_uniforms))]) (wr := [(q_o, .inr (7, [.int w_11, .ref q_o_memory, .ref q_o_program, .ref q_o_fresh, .int o_hasProgram, .int o_fault, .int o_place, .int o_told, .ref q_o_temporaries, .ref q_o_ins, .ref q_o_outs, .ref q_o_uniforms, .ref q_o_textures, .ref q_o_read, .ref q_o_result, .int o_killed, .ref q_o_left, .ref q_o_opening]))]) (w1 := [(q_o_uniforms, .inl (cI, n_o_uniforms, .inl w_14))]) (va_runV (As := [.ref q_o_uniforms, .int p1, .int p2, .int p3, .int p4, .int p5]) (rest := []) ⟨hx, hb, hml, hown, hts⟩ (k_Mo_set l dC dI cI cJ p1 p2 p3 p4 p5 n_o_uniforms f_o_uniforms q_o q_o_uniforms w_14 h_13 _) (cwV 6 hts (gw_V tw_859 tw_861 sw_408 tw_9 tw_862) rfl rfl rfl (by decide +kernel) ⟨Nat.le_of_ble_eq_true rfl, Nat.le_of_ble_eq_true rfl⟩) (ck_preV (wc := [(q_o_uniforms, .inl (cI, n_o_uniforms, .inl f_o_uniforms))]) hK hP hD hS hA hE 0 rfl rfl rfl [1] (by decide) rfl) rfl rfl hl.1 rfl (lv_room (Nat.le_of_ble_eq_true rfl)) d_Mo_uniform_34 ⟨Nat.le_of_ble_eq_true rfl, Nat.le_of_ble_eq_true rfl⟩) hP hD hS hA [1] [0] rfl rfl (by decide) (by decide) (fun H locs hP hD hS => ?_)
        have hP : va_P (dC, dI) vwCl [(q_o, .inr (7, [.int w_11, .ref q_o_memory, .ref q_o_program, .ref q_o_fresh, .int o_hasProgram, .int o_fault, .int o_place, .int o_told, .ref q_o_temporaries, .ref q_o_ins, .ref q_o_outs, .ref q_o_uniforms, .ref q_o_textures, .ref q_o_read, .ref q_o_result, .int o_killed, .ref q_o_left, .ref q_o_opening])), (q_o_uniforms, .inl (cI, n_o_uniforms, .inl w_14))] H := hP.sub [0, 1] rfl
        have hD : va_D A [(q_o, .inr (7, [.int w_11, .ref q_o_memory, .ref q_o_program, .ref q_o_fresh, .int o_hasProgram, .int o_fault, .int o_place, .int o_told, .ref q_o_temporaries, .ref q_o_ins, .ref q_o_outs, .ref q_o_uniforms, .ref q_o_textures, .ref q_o_read, .ref q_o_result, .int o_killed, .ref q_o_left, .ref q_o_opening])), (q_o_uniforms, .inl (cI, n_o_uniforms, .inl w_14))] := hD.sub [0, 1] (by decide) rfl
        cases h
        exact ck_vret hx hb hr hlk hK hP hD hS d_Mo_uniform_37
    · rw [if_neg c_8] at h
      refine lv_iconst (v := 1) hx hb d_Mo_uniform_11 (by decide) ?_
      refine lv_goto (tgt := 16) hx hb d_Mo_uniform_12 (by decide) ?_
      obtain ⟨⟨r_16, w_17⟩, h_15, h⟩ := ch_bind h
      try dsimp only at h
      refine ck_goi (wc := [(q_o, .inr (7, [.int o_thrown, .ref q_o_memory, .ref q_o_program, .ref q_o_fresh, .int o_hasProgram, .int o_fault, .int o_place, .int o_told, .ref q_o_temporaries, .ref q_o_ins, .ref q_o_outs, .ref q_o_uniforms, .ref q_o_textures, .ref q_o_read, .ref q_o_result, .int o_killed, .ref q_o_left, .ref q_o_opening]))]) (wr := [(q_o_uniforms, .inl (cI, n_o_uniforms, .inl f_o_uniforms))]) (w1 := [(q_o, .inr (7, [.int w_17, .ref q_o_memory, .ref q_o_program, .ref q_o_fresh, .int o_hasProgram, .int o_fault, .int o_place, .int o_told, .ref q_o_temporaries, .ref q_o_ins, .ref q_o_outs, .ref q_o_uniforms, .ref q_o_textures, .ref q_o_read, .ref q_o_result, .int o_killed, .ref q_o_left, .ref q_o_opening]))]) (va_runV (As := [.int (1 : Int32)]) (rest := []) ⟨hx, hb, hml, hown, hts⟩ (k_Mo_refuse l dC dI cI cJ (1 : Int32) o_thrown o_hasProgram o_fault o_place o_told o_killed q_o q_o_memory q_o_program q_o_fresh q_o_temporaries q_o_ins q_o_outs q_o_uniforms q_o_textures q_o_read q_o_result q_o_left q_o_opening r_16 w_17 h_15 _) (cwV 1 hts (gw_V tw_791 tw_793 sw_394 tw_9 tw_794) rfl rfl rfl (by decide +kernel) ⟨Nat.le_of_ble_eq_true rfl, Nat.le_of_ble_eq_true rfl⟩) (ck_preV (wc := [(q_o, .inr (7, [.int o_thrown, .ref q_o_memory, .ref q_o_program, .ref q_o_fresh, .int o_hasProgram, .int o_fault, .int o_place, .int o_told, .ref q_o_temporaries, .ref q_o_ins, .ref q_o_outs, .ref q_o_uniforms, .ref q_o_textures, .ref q_o_read, .ref q_o_result, .int o_killed, .ref q_o_left, .ref q_o_opening]))]) hK hP hD hS hA hE 0 rfl rfl rfl [0] (by decide) rfl) rfl rfl hl.1 rfl (lv_room (Nat.le_of_ble_eq_true rfl)) d_Mo_uniform_16 ⟨Nat.le_of_ble_eq_true rfl, Nat.le_of_ble_eq_true rfl⟩) hP hD hS hA [0] [1] rfl rfl (by decide) (by decide) (fun H locs hP hD hS => ?_)
      have hP : va_P (dC, dI) vwCl [(q_o, .inr (7, [.int w_17, .ref q_o_memory, .ref q_o_program, .ref q_o_fresh, .int o_hasProgram, .int o_fault, .int o_place, .int o_told, .ref q_o_temporaries, .ref q_o_ins, .ref q_o_outs, .ref q_o_uniforms, .ref q_o_textures, .ref q_o_read, .ref q_o_result, .int o_killed, .ref q_o_left, .ref q_o_opening])), (q_o_uniforms, .inl (cI, n_o_uniforms, .inl f_o_uniforms))] H := hP.sub [1, 0] rfl
      have hD : va_D A [(q_o, .inr (7, [.int w_17, .ref q_o_memory, .ref q_o_program, .ref q_o_fresh, .int o_hasProgram, .int o_fault, .int o_place, .int o_told, .ref q_o_temporaries, .ref q_o_ins, .ref q_o_outs, .ref q_o_uniforms, .ref q_o_textures, .ref q_o_read, .ref q_o_result, .int o_killed, .ref q_o_left, .ref q_o_opening])), (q_o_uniforms, .inl (cI, n_o_uniforms, .inl f_o_uniforms))] := hD.sub [1, 0] (by decide) rfl
      refine lv_if_ne (tgt := 37) hx hb d_Mo_uniform_19 (by decide) (fun c_18 => ?_) (fun c_18 => ?_)
      · rw [if_neg c_18] at h
        cases h
        exact ck_vret hx hb hr hlk hK hP hD hS d_Mo_uniform_37
      · rw [if_pos c_18] at h
        refine lv_aload_n hx hb d_Mo_uniform_22 rfl (lv_at hl 0 rfl) ?_
        refine lv_aload_n hx hb d_Mo_uniform_23 rfl (lv_at hl 0 rfl) ?_
        refine va_get (D := (dC, dI)) (ci := 7) (v := .ref q_o_uniforms) (C := R_Mo) (T := T_Mo) (N := 18) hx hb hts (iw_Mo _) hown hK hP 0 rfl rfl 11 (by decide) (hts (.fieldLink R_Mo 32 "ShaderMachineModel" "uniforms" "[I") (List.mem_cons_of_mem _ tw_739)) (fun _ h9 => h9) rfl d_Mo_uniform_24 ?_
        refine lv_iload_n hx hb d_Mo_uniform_27 rfl (lv_at hl 1 rfl) ?_
        refine lv_iload_n hx hb d_Mo_uniform_28 rfl (lv_at hl 2 rfl) ?_
        refine lv_iload_n hx hb d_Mo_uniform_29 rfl (lv_at hl 3 rfl) ?_
        refine lv_iload hx hb d_Mo_uniform_30 (lv_at hl 4 rfl) ?_
        refine lv_iload hx hb d_Mo_uniform_32 (lv_at hl 5 rfl) ?_
        obtain ⟨w_20, h_19, h⟩ := ch_bind h
        try dsimp only at h
        refine ck_gov (wc := [(q_o_uniforms, .inl (cI, n_o_uniforms, .inl f_o_uniforms))]) (wr := [(q_o, .inr (7, [.int w_17, .ref q_o_memory, .ref q_o_program, .ref q_o_fresh, .int o_hasProgram, .int o_fault, .int o_place, .int o_told, .ref q_o_temporaries, .ref q_o_ins, .ref q_o_outs, .ref q_o_uniforms, .ref q_o_textures, .ref q_o_read, .ref q_o_result, .int o_killed, .ref q_o_left, .ref q_o_opening]))]) (w1 := [(q_o_uniforms, .inl (cI, n_o_uniforms, .inl w_20))]) (va_runV (As := [.ref q_o_uniforms, .int p1, .int p2, .int p3, .int p4, .int p5]) (rest := []) ⟨hx, hb, hml, hown, hts⟩ (k_Mo_set l dC dI cI cJ p1 p2 p3 p4 p5 n_o_uniforms f_o_uniforms q_o q_o_uniforms w_20 h_19 _) (cwV 6 hts (gw_V tw_859 tw_861 sw_408 tw_9 tw_862) rfl rfl rfl (by decide +kernel) ⟨Nat.le_of_ble_eq_true rfl, Nat.le_of_ble_eq_true rfl⟩) (ck_preV (wc := [(q_o_uniforms, .inl (cI, n_o_uniforms, .inl f_o_uniforms))]) hK hP hD hS hA hE 0 rfl rfl rfl [1] (by decide) rfl) rfl rfl hl.1 rfl (lv_room (Nat.le_of_ble_eq_true rfl)) d_Mo_uniform_34 ⟨Nat.le_of_ble_eq_true rfl, Nat.le_of_ble_eq_true rfl⟩) hP hD hS hA [1] [0] rfl rfl (by decide) (by decide) (fun H locs hP hD hS => ?_)
        have hP : va_P (dC, dI) vwCl [(q_o, .inr (7, [.int w_17, .ref q_o_memory, .ref q_o_program, .ref q_o_fresh, .int o_hasProgram, .int o_fault, .int o_place, .int o_told, .ref q_o_temporaries, .ref q_o_ins, .ref q_o_outs, .ref q_o_uniforms, .ref q_o_textures, .ref q_o_read, .ref q_o_result, .int o_killed, .ref q_o_left, .ref q_o_opening])), (q_o_uniforms, .inl (cI, n_o_uniforms, .inl w_20))] H := hP.sub [0, 1] rfl
        have hD : va_D A [(q_o, .inr (7, [.int w_17, .ref q_o_memory, .ref q_o_program, .ref q_o_fresh, .int o_hasProgram, .int o_fault, .int o_place, .int o_told, .ref q_o_temporaries, .ref q_o_ins, .ref q_o_outs, .ref q_o_uniforms, .ref q_o_textures, .ref q_o_read, .ref q_o_result, .int o_killed, .ref q_o_left, .ref q_o_opening])), (q_o_uniforms, .inl (cI, n_o_uniforms, .inl w_20))] := hD.sub [0, 1] (by decide) rfl
        cases h
        exact ck_vret hx hb hr hlk hK hP hD hS d_Mo_uniform_37
def pf_Mo_texture (p1 : Int32) (p2 : Int32) (p3 : Int32) (p4 : Int32) (p5 : Int32) (n_o_textures : Nat) (f_o_textures : Nat → Int32) : Option (Int32 × (Nat → Int32)) :=
  if p1 < 0 then
    Option.bind (pf_Mo_refuse (1 : Int32)) (fun (r_3, w_4) => 
    if r_3 = 0 then
      Option.bind (pf_Mo_set p1 p2 p3 p4 p5 n_o_textures f_o_textures) (fun w_7 => 
      some (w_4, w_7))
    else
      some (w_4, f_o_textures))
  else
    if p1 ≤ (3 : Int32) then
      Option.bind (pf_Mo_refuse (0 : Int32)) (fun (r_10, w_11) => 
      if r_10 = 0 then
        Option.bind (pf_Mo_set p1 p2 p3 p4 p5 n_o_textures f_o_textures) (fun w_14 => 
        some (w_11, w_14))
      else
        some (w_11, f_o_textures))
    else
      Option.bind (pf_Mo_refuse (1 : Int32)) (fun (r_16, w_17) => 
      if r_16 = 0 then
        Option.bind (pf_Mo_set p1 p2 p3 p4 p5 n_o_textures f_o_textures) (fun w_20 => 
        some (w_17, w_20))
      else
        some (w_17, f_o_textures))
set_option maxHeartbeats 4000000 in
set_option maxRecDepth 100000 in
theorem k_Mo_texture (l : Launch) (dC : Nat → ClassId) (dI : Nat → Nat → Nat) (cI cJ : ClassId) (p1 : Int32) (p2 : Int32) (p3 : Int32) (p4 : Int32) (p5 : Int32) (o_thrown : Int32) (o_hasProgram : Int32) (o_fault : Int32) (o_place : Int32) (o_told : Int32) (o_killed : Int32) (n_o_textures : Nat) (f_o_textures : Nat → Int32) (q_o : Nat) (q_o_memory : Nat) (q_o_program : Nat) (q_o_fresh : Nat) (q_o_temporaries : Nat) (q_o_ins : Nat) (q_o_outs : Nat) (q_o_uniforms : Nat) (q_o_textures : Nat) (q_o_read : Nat) (q_o_result : Nat) (q_o_left : Nat) (q_o_opening : Nat) (o_o_thrown : Int32) (o_f_o_textures : Nat → Int32) (h : pf_Mo_texture p1 p2 p3 p4 p5 n_o_textures f_o_textures = some (o_o_thrown, o_f_o_textures)) : ck_v l y_Mo_texture wm_Mo_texture ({ frames := 1, cells := 0, slots := 0, locals := 26 } : Room) [.ref q_o, .int p1, .int p2, .int p3, .int p4, .int p5] (dC, dI) [(cI, .int), (cJ, .long)] [(q_o, .inr (7, [.int o_thrown, .ref q_o_memory, .ref q_o_program, .ref q_o_fresh, .int o_hasProgram, .int o_fault, .int o_place, .int o_told, .ref q_o_temporaries, .ref q_o_ins, .ref q_o_outs, .ref q_o_uniforms, .ref q_o_textures, .ref q_o_read, .ref q_o_result, .int o_killed, .ref q_o_left, .ref q_o_opening])), (q_o_textures, .inl (cI, n_o_textures, .inl f_o_textures))] [(q_o, .inr (7, [.int o_o_thrown, .ref q_o_memory, .ref q_o_program, .ref q_o_fresh, .int o_hasProgram, .int o_fault, .int o_place, .int o_told, .ref q_o_temporaries, .ref q_o_ins, .ref q_o_outs, .ref q_o_uniforms, .ref q_o_textures, .ref q_o_read, .ref q_o_result, .int o_killed, .ref q_o_left, .ref q_o_opening])), (q_o_textures, .inl (cI, n_o_textures, .inl o_f_o_textures))] := by
  refine ck_ofv (cc := c_Mo_texture) (maxL := 6) (ret := none) (by decide +kernel) rfl ?_
  intro p e s m below meth c A C0 hK hP hD hS hE
  obtain ⟨hx, hb, hr, hml, hown, hts, hlk, hA, hin⟩ := C0
  unfold pf_Mo_texture at h
  have hl := lv_entry ([.ref q_o, .int p1, .int p2, .int p3, .int p4, .int p5]) (n := 6) (Nat.le_of_ble_eq_true rfl)
  rw [lg_entry_eq]
  generalize (lg_sl ([.ref q_o, .int p1, .int p2, .int p3, .int p4, .int p5]) ++ List.replicate (6 - (lg_sl ([.ref q_o, .int p1, .int p2, .int p3, .int p4, .int p5])).length) Slot.unset).toArray = ls at hl ⊢
  have hl : lv_has ls 6 [(0, .ref q_o), (1, .int p1), (2, .int p2), (3, .int p3), (4, .int p4), (5, .int p5)] := hl
  refine lv_aload_n hx hb d_Mo_texture_0 rfl (lv_at hl 0 rfl) ?_
  refine lv_iload_n hx hb d_Mo_texture_1 rfl (lv_at hl 1 rfl) ?_
  refine lv_if_lt (tgt := 10) hx hb d_Mo_texture_2 (by decide) (fun c_1 => ?_) (fun c_1 => ?_)
  · rw [if_pos c_1] at h
    refine lv_iconst (v := 1) hx hb d_Mo_texture_10 (by decide) ?_
    refine lv_goto (tgt := 15) hx hb d_Mo_texture_11 (by decide) ?_
    obtain ⟨⟨r_3, w_4⟩, h_2, h⟩ := ch_bind h
    try dsimp only at h
    refine ck_goi (wc := [(q_o, .inr (7, [.int o_thrown, .ref q_o_memory, .ref q_o_program, .ref q_o_fresh, .int o_hasProgram, .int o_fault, .int o_place, .int o_told, .ref q_o_temporaries, .ref q_o_ins, .ref q_o_outs, .ref q_o_uniforms, .ref q_o_textures, .ref q_o_read, .ref q_o_result, .int o_killed, .ref q_o_left, .ref q_o_opening]))]) (wr := [(q_o_textures, .inl (cI, n_o_textures, .inl f_o_textures))]) (w1 := [(q_o, .inr (7, [.int w_4, .ref q_o_memory, .ref q_o_program, .ref q_o_fresh, .int o_hasProgram, .int o_fault, .int o_place, .int o_told, .ref q_o_temporaries, .ref q_o_ins, .ref q_o_outs, .ref q_o_uniforms, .ref q_o_textures, .ref q_o_read, .ref q_o_result, .int o_killed, .ref q_o_left, .ref q_o_opening]))]) (va_runV (As := [.int (1 : Int32)]) (rest := []) ⟨hx, hb, hml, hown, hts⟩ (k_Mo_refuse l dC dI cI cJ (1 : Int32) o_thrown o_hasProgram o_fault o_place o_told o_killed q_o q_o_memory q_o_program q_o_fresh q_o_temporaries q_o_ins q_o_outs q_o_uniforms q_o_textures q_o_read q_o_result q_o_left q_o_opening r_3 w_4 h_2 _) (cwV 1 hts (gw_V tw_791 tw_793 sw_394 tw_9 tw_794) rfl rfl rfl (by decide +kernel) ⟨Nat.le_of_ble_eq_true rfl, Nat.le_of_ble_eq_true rfl⟩) (ck_preV (wc := [(q_o, .inr (7, [.int o_thrown, .ref q_o_memory, .ref q_o_program, .ref q_o_fresh, .int o_hasProgram, .int o_fault, .int o_place, .int o_told, .ref q_o_temporaries, .ref q_o_ins, .ref q_o_outs, .ref q_o_uniforms, .ref q_o_textures, .ref q_o_read, .ref q_o_result, .int o_killed, .ref q_o_left, .ref q_o_opening]))]) hK hP hD hS hA hE 0 rfl rfl rfl [0] (by decide) rfl) rfl rfl hl.1 rfl (lv_room (Nat.le_of_ble_eq_true rfl)) d_Mo_texture_15 ⟨Nat.le_of_ble_eq_true rfl, Nat.le_of_ble_eq_true rfl⟩) hP hD hS hA [0] [1] rfl rfl (by decide) (by decide) (fun H locs hP hD hS => ?_)
    have hP : va_P (dC, dI) vwCl [(q_o, .inr (7, [.int w_4, .ref q_o_memory, .ref q_o_program, .ref q_o_fresh, .int o_hasProgram, .int o_fault, .int o_place, .int o_told, .ref q_o_temporaries, .ref q_o_ins, .ref q_o_outs, .ref q_o_uniforms, .ref q_o_textures, .ref q_o_read, .ref q_o_result, .int o_killed, .ref q_o_left, .ref q_o_opening])), (q_o_textures, .inl (cI, n_o_textures, .inl f_o_textures))] H := hP.sub [1, 0] rfl
    have hD : va_D A [(q_o, .inr (7, [.int w_4, .ref q_o_memory, .ref q_o_program, .ref q_o_fresh, .int o_hasProgram, .int o_fault, .int o_place, .int o_told, .ref q_o_temporaries, .ref q_o_ins, .ref q_o_outs, .ref q_o_uniforms, .ref q_o_textures, .ref q_o_read, .ref q_o_result, .int o_killed, .ref q_o_left, .ref q_o_opening])), (q_o_textures, .inl (cI, n_o_textures, .inl f_o_textures))] := hD.sub [1, 0] (by decide) rfl
    refine lv_if_ne (tgt := 36) hx hb d_Mo_texture_18 (by decide) (fun c_5 => ?_) (fun c_5 => ?_)
    · rw [if_neg c_5] at h
      cases h
      exact ck_vret hx hb hr hlk hK hP hD hS d_Mo_texture_36
    · rw [if_pos c_5] at h
      refine lv_aload_n hx hb d_Mo_texture_21 rfl (lv_at hl 0 rfl) ?_
      refine lv_aload_n hx hb d_Mo_texture_22 rfl (lv_at hl 0 rfl) ?_
      refine va_get (D := (dC, dI)) (ci := 7) (v := .ref q_o_textures) (C := R_Mo) (T := T_Mo) (N := 18) hx hb hts (iw_Mo _) hown hK hP 0 rfl rfl 12 (by decide) (hts (.fieldLink R_Mo 35 "ShaderMachineModel" "textures" "[I") (List.mem_cons_of_mem _ tw_740)) (fun _ h9 => h9) rfl d_Mo_texture_23 ?_
      refine lv_iload_n hx hb d_Mo_texture_26 rfl (lv_at hl 1 rfl) ?_
      refine lv_iload_n hx hb d_Mo_texture_27 rfl (lv_at hl 2 rfl) ?_
      refine lv_iload_n hx hb d_Mo_texture_28 rfl (lv_at hl 3 rfl) ?_
      refine lv_iload hx hb d_Mo_texture_29 (lv_at hl 4 rfl) ?_
      refine lv_iload hx hb d_Mo_texture_31 (lv_at hl 5 rfl) ?_
      obtain ⟨w_7, h_6, h⟩ := ch_bind h
      try dsimp only at h
      refine ck_gov (wc := [(q_o_textures, .inl (cI, n_o_textures, .inl f_o_textures))]) (wr := [(q_o, .inr (7, [.int w_4, .ref q_o_memory, .ref q_o_program, .ref q_o_fresh, .int o_hasProgram, .int o_fault, .int o_place, .int o_told, .ref q_o_temporaries, .ref q_o_ins, .ref q_o_outs, .ref q_o_uniforms, .ref q_o_textures, .ref q_o_read, .ref q_o_result, .int o_killed, .ref q_o_left, .ref q_o_opening]))]) (w1 := [(q_o_textures, .inl (cI, n_o_textures, .inl w_7))]) (va_runV (As := [.ref q_o_textures, .int p1, .int p2, .int p3, .int p4, .int p5]) (rest := []) ⟨hx, hb, hml, hown, hts⟩ (k_Mo_set l dC dI cI cJ p1 p2 p3 p4 p5 n_o_textures f_o_textures q_o q_o_textures w_7 h_6 _) (cwV 6 hts (gw_V tw_859 tw_861 sw_408 tw_9 tw_862) rfl rfl rfl (by decide +kernel) ⟨Nat.le_of_ble_eq_true rfl, Nat.le_of_ble_eq_true rfl⟩) (ck_preV (wc := [(q_o_textures, .inl (cI, n_o_textures, .inl f_o_textures))]) hK hP hD hS hA hE 0 rfl rfl rfl [1] (by decide) rfl) rfl rfl hl.1 rfl (lv_room (Nat.le_of_ble_eq_true rfl)) d_Mo_texture_33 ⟨Nat.le_of_ble_eq_true rfl, Nat.le_of_ble_eq_true rfl⟩) hP hD hS hA [1] [0] rfl rfl (by decide) (by decide) (fun H locs hP hD hS => ?_)
      have hP : va_P (dC, dI) vwCl [(q_o, .inr (7, [.int w_4, .ref q_o_memory, .ref q_o_program, .ref q_o_fresh, .int o_hasProgram, .int o_fault, .int o_place, .int o_told, .ref q_o_temporaries, .ref q_o_ins, .ref q_o_outs, .ref q_o_uniforms, .ref q_o_textures, .ref q_o_read, .ref q_o_result, .int o_killed, .ref q_o_left, .ref q_o_opening])), (q_o_textures, .inl (cI, n_o_textures, .inl w_7))] H := hP.sub [0, 1] rfl
      have hD : va_D A [(q_o, .inr (7, [.int w_4, .ref q_o_memory, .ref q_o_program, .ref q_o_fresh, .int o_hasProgram, .int o_fault, .int o_place, .int o_told, .ref q_o_temporaries, .ref q_o_ins, .ref q_o_outs, .ref q_o_uniforms, .ref q_o_textures, .ref q_o_read, .ref q_o_result, .int o_killed, .ref q_o_left, .ref q_o_opening])), (q_o_textures, .inl (cI, n_o_textures, .inl w_7))] := hD.sub [0, 1] (by decide) rfl
      cases h
      exact ck_vret hx hb hr hlk hK hP hD hS d_Mo_texture_36
  · rw [if_neg c_1] at h
    refine lv_iload_n hx hb d_Mo_texture_5 rfl (lv_at hl 1 rfl) ?_
    refine lv_iconst (v := 3) hx hb d_Mo_texture_6 (by decide) ?_
    refine lv_icmp_le (tgt := 14) hx hb d_Mo_texture_7 (by decide) (fun c_8 => ?_) (fun c_8 => ?_)
    · rw [if_pos c_8] at h
      refine lv_iconst (v := 0) hx hb d_Mo_texture_14 (by decide) ?_
      obtain ⟨⟨r_10, w_11⟩, h_9, h⟩ := ch_bind h
      try dsimp only at h
      refine ck_goi (wc := [(q_o, .inr (7, [.int o_thrown, .ref q_o_memory, .ref q_o_program, .ref q_o_fresh, .int o_hasProgram, .int o_fault, .int o_place, .int o_told, .ref q_o_temporaries, .ref q_o_ins, .ref q_o_outs, .ref q_o_uniforms, .ref q_o_textures, .ref q_o_read, .ref q_o_result, .int o_killed, .ref q_o_left, .ref q_o_opening]))]) (wr := [(q_o_textures, .inl (cI, n_o_textures, .inl f_o_textures))]) (w1 := [(q_o, .inr (7, [.int w_11, .ref q_o_memory, .ref q_o_program, .ref q_o_fresh, .int o_hasProgram, .int o_fault, .int o_place, .int o_told, .ref q_o_temporaries, .ref q_o_ins, .ref q_o_outs, .ref q_o_uniforms, .ref q_o_textures, .ref q_o_read, .ref q_o_result, .int o_killed, .ref q_o_left, .ref q_o_opening]))]) (va_runV (As := [.int (0 : Int32)]) (rest := []) ⟨hx, hb, hml, hown, hts⟩ (k_Mo_refuse l dC dI cI cJ (0 : Int32) o_thrown o_hasProgram o_fault o_place o_told o_killed q_o q_o_memory q_o_program q_o_fresh q_o_temporaries q_o_ins q_o_outs q_o_uniforms q_o_textures q_o_read q_o_result q_o_left q_o_opening r_10 w_11 h_9 _) (cwV 1 hts (gw_V tw_791 tw_793 sw_394 tw_9 tw_794) rfl rfl rfl (by decide +kernel) ⟨Nat.le_of_ble_eq_true rfl, Nat.le_of_ble_eq_true rfl⟩) (ck_preV (wc := [(q_o, .inr (7, [.int o_thrown, .ref q_o_memory, .ref q_o_program, .ref q_o_fresh, .int o_hasProgram, .int o_fault, .int o_place, .int o_told, .ref q_o_temporaries, .ref q_o_ins, .ref q_o_outs, .ref q_o_uniforms, .ref q_o_textures, .ref q_o_read, .ref q_o_result, .int o_killed, .ref q_o_left, .ref q_o_opening]))]) hK hP hD hS hA hE 0 rfl rfl rfl [0] (by decide) rfl) rfl rfl hl.1 rfl (lv_room (Nat.le_of_ble_eq_true rfl)) d_Mo_texture_15 ⟨Nat.le_of_ble_eq_true rfl, Nat.le_of_ble_eq_true rfl⟩) hP hD hS hA [0] [1] rfl rfl (by decide) (by decide) (fun H locs hP hD hS => ?_)
      have hP : va_P (dC, dI) vwCl [(q_o, .inr (7, [.int w_11, .ref q_o_memory, .ref q_o_program, .ref q_o_fresh, .int o_hasProgram, .int o_fault, .int o_place, .int o_told, .ref q_o_temporaries, .ref q_o_ins, .ref q_o_outs, .ref q_o_uniforms, .ref q_o_textures, .ref q_o_read, .ref q_o_result, .int o_killed, .ref q_o_left, .ref q_o_opening])), (q_o_textures, .inl (cI, n_o_textures, .inl f_o_textures))] H := hP.sub [1, 0] rfl
      have hD : va_D A [(q_o, .inr (7, [.int w_11, .ref q_o_memory, .ref q_o_program, .ref q_o_fresh, .int o_hasProgram, .int o_fault, .int o_place, .int o_told, .ref q_o_temporaries, .ref q_o_ins, .ref q_o_outs, .ref q_o_uniforms, .ref q_o_textures, .ref q_o_read, .ref q_o_result, .int o_killed, .ref q_o_left, .ref q_o_opening])), (q_o_textures, .inl (cI, n_o_textures, .inl f_o_textures))] := hD.sub [1, 0] (by decide) rfl
      refine lv_if_ne (tgt := 36) hx hb d_Mo_texture_18 (by decide) (fun c_12 => ?_) (fun c_12 => ?_)
      · rw [if_neg c_12] at h
        cases h
        exact ck_vret hx hb hr hlk hK hP hD hS d_Mo_texture_36
      · rw [if_pos c_12] at h
        refine lv_aload_n hx hb d_Mo_texture_21 rfl (lv_at hl 0 rfl) ?_
        refine lv_aload_n hx hb d_Mo_texture_22 rfl (lv_at hl 0 rfl) ?_
        refine va_get (D := (dC, dI)) (ci := 7) (v := .ref q_o_textures) (C := R_Mo) (T := T_Mo) (N := 18) hx hb hts (iw_Mo _) hown hK hP 0 rfl rfl 12 (by decide) (hts (.fieldLink R_Mo 35 "ShaderMachineModel" "textures" "[I") (List.mem_cons_of_mem _ tw_740)) (fun _ h9 => h9) rfl d_Mo_texture_23 ?_
        refine lv_iload_n hx hb d_Mo_texture_26 rfl (lv_at hl 1 rfl) ?_
        refine lv_iload_n hx hb d_Mo_texture_27 rfl (lv_at hl 2 rfl) ?_
        refine lv_iload_n hx hb d_Mo_texture_28 rfl (lv_at hl 3 rfl) ?_
        refine lv_iload hx hb d_Mo_texture_29 (lv_at hl 4 rfl) ?_
        refine lv_iload hx hb d_Mo_texture_31 (lv_at hl 5 rfl) ?_
        obtain ⟨w_14, h_13, h⟩ := ch_bind h
        try dsimp only at h
        refine ck_gov (wc := [(q_o_textures, .inl (cI, n_o_textures, .inl f_o_textures))]) (wr := [(q_o, .inr (7, [.int w_11, .ref q_o_memory, .ref q_o_program, .ref q_o_fresh, .int o_hasProgram, .int o_fault, .int o_place, .int o_told, .ref q_o_temporaries, .ref q_o_ins, .ref q_o_outs, .ref q_o_uniforms, .ref q_o_textures, .ref q_o_read, .ref q_o_result, .int o_killed, .ref q_o_left, .ref q_o_opening]))]) (w1 := [(q_o_textures, .inl (cI, n_o_textures, .inl w_14))]) (va_runV (As := [.ref q_o_textures, .int p1, .int p2, .int p3, .int p4, .int p5]) (rest := []) ⟨hx, hb, hml, hown, hts⟩ (k_Mo_set l dC dI cI cJ p1 p2 p3 p4 p5 n_o_textures f_o_textures q_o q_o_textures w_14 h_13 _) (cwV 6 hts (gw_V tw_859 tw_861 sw_408 tw_9 tw_862) rfl rfl rfl (by decide +kernel) ⟨Nat.le_of_ble_eq_true rfl, Nat.le_of_ble_eq_true rfl⟩) (ck_preV (wc := [(q_o_textures, .inl (cI, n_o_textures, .inl f_o_textures))]) hK hP hD hS hA hE 0 rfl rfl rfl [1] (by decide) rfl) rfl rfl hl.1 rfl (lv_room (Nat.le_of_ble_eq_true rfl)) d_Mo_texture_33 ⟨Nat.le_of_ble_eq_true rfl, Nat.le_of_ble_eq_true rfl⟩) hP hD hS hA [1] [0] rfl rfl (by decide) (by decide) (fun H locs hP hD hS => ?_)
        have hP : va_P (dC, dI) vwCl [(q_o, .inr (7, [.int w_11, .ref q_o_memory, .ref q_o_program, .ref q_o_fresh, .int o_hasProgram, .int o_fault, .int o_place, .int o_told, .ref q_o_temporaries, .ref q_o_ins, .ref q_o_outs, .ref q_o_uniforms, .ref q_o_textures, .ref q_o_read, .ref q_o_result, .int o_killed, .ref q_o_left, .ref q_o_opening])), (q_o_textures, .inl (cI, n_o_textures, .inl w_14))] H := hP.sub [0, 1] rfl
        have hD : va_D A [(q_o, .inr (7, [.int w_11, .ref q_o_memory, .ref q_o_program, .ref q_o_fresh, .int o_hasProgram, .int o_fault, .int o_place, .int o_told, .ref q_o_temporaries, .ref q_o_ins, .ref q_o_outs, .ref q_o_uniforms, .ref q_o_textures, .ref q_o_read, .ref q_o_result, .int o_killed, .ref q_o_left, .ref q_o_opening])), (q_o_textures, .inl (cI, n_o_textures, .inl w_14))] := hD.sub [0, 1] (by decide) rfl
        cases h
        exact ck_vret hx hb hr hlk hK hP hD hS d_Mo_texture_36
    · rw [if_neg c_8] at h
      refine lv_iconst (v := 1) hx hb d_Mo_texture_10 (by decide) ?_
      refine lv_goto (tgt := 15) hx hb d_Mo_texture_11 (by decide) ?_
      obtain ⟨⟨r_16, w_17⟩, h_15, h⟩ := ch_bind h
      try dsimp only at h
      refine ck_goi (wc := [(q_o, .inr (7, [.int o_thrown, .ref q_o_memory, .ref q_o_program, .ref q_o_fresh, .int o_hasProgram, .int o_fault, .int o_place, .int o_told, .ref q_o_temporaries, .ref q_o_ins, .ref q_o_outs, .ref q_o_uniforms, .ref q_o_textures, .ref q_o_read, .ref q_o_result, .int o_killed, .ref q_o_left, .ref q_o_opening]))]) (wr := [(q_o_textures, .inl (cI, n_o_textures, .inl f_o_textures))]) (w1 := [(q_o, .inr (7, [.int w_17, .ref q_o_memory, .ref q_o_program, .ref q_o_fresh, .int o_hasProgram, .int o_fault, .int o_place, .int o_told, .ref q_o_temporaries, .ref q_o_ins, .ref q_o_outs, .ref q_o_uniforms, .ref q_o_textures, .ref q_o_read, .ref q_o_result, .int o_killed, .ref q_o_left, .ref q_o_opening]))]) (va_runV (As := [.int (1 : Int32)]) (rest := []) ⟨hx, hb, hml, hown, hts⟩ (k_Mo_refuse l dC dI cI cJ (1 : Int32) o_thrown o_hasProgram o_fault o_place o_told o_killed q_o q_o_memory q_o_program q_o_fresh q_o_temporaries q_o_ins q_o_outs q_o_uniforms q_o_textures q_o_read q_o_result q_o_left q_o_opening r_16 w_17 h_15 _) (cwV 1 hts (gw_V tw_791 tw_793 sw_394 tw_9 tw_794) rfl rfl rfl (by decide +kernel) ⟨Nat.le_of_ble_eq_true rfl, Nat.le_of_ble_eq_true rfl⟩) (ck_preV (wc := [(q_o, .inr (7, [.int o_thrown, .ref q_o_memory, .ref q_o_program, .ref q_o_fresh, .int o_hasProgram, .int o_fault, .int o_place, .int o_told, .ref q_o_temporaries, .ref q_o_ins, .ref q_o_outs, .ref q_o_uniforms, .ref q_o_textures, .ref q_o_read, .ref q_o_result, .int o_killed, .ref q_o_left, .ref q_o_opening]))]) hK hP hD hS hA hE 0 rfl rfl rfl [0] (by decide) rfl) rfl rfl hl.1 rfl (lv_room (Nat.le_of_ble_eq_true rfl)) d_Mo_texture_15 ⟨Nat.le_of_ble_eq_true rfl, Nat.le_of_ble_eq_true rfl⟩) hP hD hS hA [0] [1] rfl rfl (by decide) (by decide) (fun H locs hP hD hS => ?_)
      have hP : va_P (dC, dI) vwCl [(q_o, .inr (7, [.int w_17, .ref q_o_memory, .ref q_o_program, .ref q_o_fresh, .int o_hasProgram, .int o_fault, .int o_place, .int o_told, .ref q_o_temporaries, .ref q_o_ins, .ref q_o_outs, .ref q_o_uniforms, .ref q_o_textures, .ref q_o_read, .ref q_o_result, .int o_killed, .ref q_o_left, .ref q_o_opening])), (q_o_textures, .inl (cI, n_o_textures, .inl f_o_textures))] H := hP.sub [1, 0] rfl
      have hD : va_D A [(q_o, .inr (7, [.int w_17, .ref q_o_memory, .ref q_o_program, .ref q_o_fresh, .int o_hasProgram, .int o_fault, .int o_place, .int o_told, .ref q_o_temporaries, .ref q_o_ins, .ref q_o_outs, .ref q_o_uniforms, .ref q_o_textures, .ref q_o_read, .ref q_o_result, .int o_killed, .ref q_o_left, .ref q_o_opening])), (q_o_textures, .inl (cI, n_o_textures, .inl f_o_textures))] := hD.sub [1, 0] (by decide) rfl
      refine lv_if_ne (tgt := 36) hx hb d_Mo_texture_18 (by decide) (fun c_18 => ?_) (fun c_18 => ?_)
      · rw [if_neg c_18] at h
        cases h
        exact ck_vret hx hb hr hlk hK hP hD hS d_Mo_texture_36
      · rw [if_pos c_18] at h
        refine lv_aload_n hx hb d_Mo_texture_21 rfl (lv_at hl 0 rfl) ?_
        refine lv_aload_n hx hb d_Mo_texture_22 rfl (lv_at hl 0 rfl) ?_
        refine va_get (D := (dC, dI)) (ci := 7) (v := .ref q_o_textures) (C := R_Mo) (T := T_Mo) (N := 18) hx hb hts (iw_Mo _) hown hK hP 0 rfl rfl 12 (by decide) (hts (.fieldLink R_Mo 35 "ShaderMachineModel" "textures" "[I") (List.mem_cons_of_mem _ tw_740)) (fun _ h9 => h9) rfl d_Mo_texture_23 ?_
        refine lv_iload_n hx hb d_Mo_texture_26 rfl (lv_at hl 1 rfl) ?_
        refine lv_iload_n hx hb d_Mo_texture_27 rfl (lv_at hl 2 rfl) ?_
        refine lv_iload_n hx hb d_Mo_texture_28 rfl (lv_at hl 3 rfl) ?_
        refine lv_iload hx hb d_Mo_texture_29 (lv_at hl 4 rfl) ?_
        refine lv_iload hx hb d_Mo_texture_31 (lv_at hl 5 rfl) ?_
        obtain ⟨w_20, h_19, h⟩ := ch_bind h
        try dsimp only at h
        refine ck_gov (wc := [(q_o_textures, .inl (cI, n_o_textures, .inl f_o_textures))]) (wr := [(q_o, .inr (7, [.int w_17, .ref q_o_memory, .ref q_o_program, .ref q_o_fresh, .int o_hasProgram, .int o_fault, .int o_place, .int o_told, .ref q_o_temporaries, .ref q_o_ins, .ref q_o_outs, .ref q_o_uniforms, .ref q_o_textures, .ref q_o_read, .ref q_o_result, .int o_killed, .ref q_o_left, .ref q_o_opening]))]) (w1 := [(q_o_textures, .inl (cI, n_o_textures, .inl w_20))]) (va_runV (As := [.ref q_o_textures, .int p1, .int p2, .int p3, .int p4, .int p5]) (rest := []) ⟨hx, hb, hml, hown, hts⟩ (k_Mo_set l dC dI cI cJ p1 p2 p3 p4 p5 n_o_textures f_o_textures q_o q_o_textures w_20 h_19 _) (cwV 6 hts (gw_V tw_859 tw_861 sw_408 tw_9 tw_862) rfl rfl rfl (by decide +kernel) ⟨Nat.le_of_ble_eq_true rfl, Nat.le_of_ble_eq_true rfl⟩) (ck_preV (wc := [(q_o_textures, .inl (cI, n_o_textures, .inl f_o_textures))]) hK hP hD hS hA hE 0 rfl rfl rfl [1] (by decide) rfl) rfl rfl hl.1 rfl (lv_room (Nat.le_of_ble_eq_true rfl)) d_Mo_texture_33 ⟨Nat.le_of_ble_eq_true rfl, Nat.le_of_ble_eq_true rfl⟩) hP hD hS hA [1] [0] rfl rfl (by decide) (by decide) (fun H locs hP hD hS => ?_)
        have hP : va_P (dC, dI) vwCl [(q_o, .inr (7, [.int w_17, .ref q_o_memory, .ref q_o_program, .ref q_o_fresh, .int o_hasProgram, .int o_fault, .int o_place, .int o_told, .ref q_o_temporaries, .ref q_o_ins, .ref q_o_outs, .ref q_o_uniforms, .ref q_o_textures, .ref q_o_read, .ref q_o_result, .int o_killed, .ref q_o_left, .ref q_o_opening])), (q_o_textures, .inl (cI, n_o_textures, .inl w_20))] H := hP.sub [0, 1] rfl
        have hD : va_D A [(q_o, .inr (7, [.int w_17, .ref q_o_memory, .ref q_o_program, .ref q_o_fresh, .int o_hasProgram, .int o_fault, .int o_place, .int o_told, .ref q_o_temporaries, .ref q_o_ins, .ref q_o_outs, .ref q_o_uniforms, .ref q_o_textures, .ref q_o_read, .ref q_o_result, .int o_killed, .ref q_o_left, .ref q_o_opening])), (q_o_textures, .inl (cI, n_o_textures, .inl w_20))] := hD.sub [0, 1] (by decide) rfl
        cases h
        exact ck_vret hx hb hr hlk hK hP hD hS d_Mo_texture_36
def pf_Mo_product (p1 : Int32) (p2 : Int32) : Option (Int32) :=
  some (((p1.toInt64 * p2.toInt64) >>> ((16 : Int32).toInt64 &&& 63)).toInt32)
set_option maxHeartbeats 4000000 in
set_option maxRecDepth 100000 in
theorem k_Mo_product (l : Launch) (dC : Nat → ClassId) (dI : Nat → Nat → Nat) (cI cJ : ClassId) (p1 : Int32) (p2 : Int32) (r : Int32) (h : pf_Mo_product p1 p2 = some r) : ck_i l y_Mo_product wm_Mo_product ({ frames := 0, cells := 0, slots := 0, locals := 0 } : Room) [.int p1, .int p2] (dC, dI) [(cI, .int), (cJ, .long)] [] r [] := by
  refine ck_ofi (cc := c_Mo_product) (maxL := 2) (ret := (some .int)) (by decide +kernel) rfl ?_
  intro p e s m below meth c A C0 hK hP hD hS hE
  obtain ⟨hx, hb, hr, hml, hown, hts, hlk, hA, hin⟩ := C0
  unfold pf_Mo_product at h
  have hl := lv_entry ([.int p1, .int p2]) (n := 2) (Nat.le_of_ble_eq_true rfl)
  rw [lg_entry_eq]
  generalize (lg_sl ([.int p1, .int p2]) ++ List.replicate (2 - (lg_sl ([.int p1, .int p2])).length) Slot.unset).toArray = ls at hl ⊢
  have hl : lv_has ls 2 [(0, .int p1), (1, .int p2)] := hl
  refine lv_iload_n hx hb d_Mo_product_0 rfl (lv_at hl 0 rfl) ?_
  refine lv_i2l hx hb d_Mo_product_1 rfl ?_
  refine lv_iload_n hx hb d_Mo_product_2 rfl (lv_at hl 1 rfl) ?_
  refine lv_i2l hx hb d_Mo_product_3 rfl ?_
  refine lv_lmul hx hb d_Mo_product_4 ?_
  refine lv_bipush (v := 16) hx hb d_Mo_product_5 (by decide) ?_
  refine lv_lshr hx hb d_Mo_product_7 rfl ?_
  refine lv_l2i hx hb d_Mo_product_8 rfl ?_
  cases h
  exact ck_iret hx hb hr hlk hK hP hD hS d_Mo_product_9
def pf_Mo_oneBy (p1 : Int32) : Option (Int32) :=
  if p1 = 0 then
    some (2147483647 : Int32)
  else
    if ¬ p1.toInt64 = 0 then (
    if ¬ p1.toInt64 = 0 then (
    if (lg_cmp ((4294967296 : Int64) - (4294967296 : Int64) / p1.toInt64 * p1.toInt64) (0 : Int64)) = 0 then
      if (lg_cmp ((4294967296 : Int64) / p1.toInt64) (2147483647 : Int64)) ≤ 0 then
        if 0 ≤ (lg_cmp ((4294967296 : Int64) / p1.toInt64) (-2147483648 : Int64)) then
          some (((4294967296 : Int64) / p1.toInt64).toInt32)
        else
          some (-2147483648 : Int32)
      else
        some (2147483647 : Int32)
    else
      if 0 ≤ p1 then
        if (lg_cmp ((4294967296 : Int64) / p1.toInt64) (2147483647 : Int64)) ≤ 0 then
          if 0 ≤ (lg_cmp ((4294967296 : Int64) / p1.toInt64) (-2147483648 : Int64)) then
            some (((4294967296 : Int64) / p1.toInt64).toInt32)
          else
            some (-2147483648 : Int32)
        else
          some (2147483647 : Int32)
      else
        if (lg_cmp (((4294967296 : Int64) / p1.toInt64) - (1 : Int64)) (2147483647 : Int64)) ≤ 0 then
          if 0 ≤ (lg_cmp (((4294967296 : Int64) / p1.toInt64) - (1 : Int64)) (-2147483648 : Int64)) then
            some ((((4294967296 : Int64) / p1.toInt64) - (1 : Int64)).toInt32)
          else
            some (-2147483648 : Int32)
        else
          some (2147483647 : Int32)) else none) else none
set_option maxHeartbeats 4000000 in
set_option maxRecDepth 100000 in
theorem k_Mo_oneBy (l : Launch) (dC : Nat → ClassId) (dI : Nat → Nat → Nat) (cI cJ : ClassId) (p1 : Int32) (r : Int32) (h : pf_Mo_oneBy p1 = some r) : ck_i l y_Mo_oneBy wm_Mo_oneBy ({ frames := 0, cells := 0, slots := 0, locals := 0 } : Room) [.int p1] (dC, dI) [(cI, .int), (cJ, .long)] [] r [] := by
  refine ck_ofi (cc := c_Mo_oneBy) (maxL := 3) (ret := (some .int)) (by decide +kernel) rfl ?_
  intro p e s m below meth c A C0 hK hP hD hS hE
  obtain ⟨hx, hb, hr, hml, hown, hts, hlk, hA, hin⟩ := C0
  unfold pf_Mo_oneBy at h
  have hl := lv_entry ([.int p1]) (n := 3) (Nat.le_of_ble_eq_true rfl)
  rw [lg_entry_eq]
  generalize (lg_sl ([.int p1]) ++ List.replicate (3 - (lg_sl ([.int p1])).length) Slot.unset).toArray = ls at hl ⊢
  have hl : lv_has ls 3 [(0, .int p1)] := hl
  refine lv_iload_n hx hb d_Mo_oneBy_0 rfl (lv_at hl 0 rfl) ?_
  refine lv_if_ne (tgt := 7) hx hb d_Mo_oneBy_1 (by decide) (fun c_1 => ?_) (fun c_1 => ?_)
  · rw [if_neg c_1] at h
    refine lv_ldc2 (v := 4294967296) hx hb hown (hts (.constantLong R_Mo 131 (4294967296)) (by decide +kernel)) d_Mo_oneBy_7 ?_
    refine lv_iload_n hx hb d_Mo_oneBy_10 rfl (lv_at hl 0 rfl) ?_
    refine lv_i2l hx hb d_Mo_oneBy_11 rfl ?_
    obtain ⟨c_2, h⟩ := ch_ite h
    refine lv_ldiv hx hb d_Mo_oneBy_12 c_2 ?_
    refine lv_lstore_n (lv' := [(1, .long ((4294967296 : Int64) / p1.toInt64)), (0, .int p1)]) hx hb d_Mo_oneBy_13 rfl hl (by decide) rfl (fun ls hl => ?_)
    refine lv_ldc2 (v := 4294967296) hx hb hown (hts (.constantLong R_Mo 131 (4294967296)) (by decide +kernel)) d_Mo_oneBy_14 ?_
    refine lv_iload_n hx hb d_Mo_oneBy_17 rfl (lv_at hl 1 rfl) ?_
    refine lv_i2l hx hb d_Mo_oneBy_18 rfl ?_
    obtain ⟨c_3, h⟩ := ch_ite h
    refine lv_lrem hx hb d_Mo_oneBy_19 c_3 ?_
    refine lv_lconst (v := 0) hx hb d_Mo_oneBy_20 (by decide) ?_
    refine W.lcmp hx hb d_Mo_oneBy_21 ?_
    refine lv_if_eq (tgt := 35) hx hb d_Mo_oneBy_22 (by decide) (fun c_4 => ?_) (fun c_4 => ?_)
    · rw [if_pos c_4] at h
      refine lv_lload_n hx hb d_Mo_oneBy_35 rfl (lv_at hl 0 rfl) ?_
      refine lv_lstore_n (lv' := [(1, .long ((4294967296 : Int64) / p1.toInt64)), (0, .int p1)]) hx hb d_Mo_oneBy_36 rfl hl (by decide) rfl (fun ls hl => ?_)
      refine lv_lload_n hx hb d_Mo_oneBy_37 rfl (lv_at hl 0 rfl) ?_
      refine lv_ldc2 (v := 2147483647) hx hb hown (hts (.constantLong R_Mo 133 (2147483647)) (by decide +kernel)) d_Mo_oneBy_38 ?_
      refine W.lcmp hx hb d_Mo_oneBy_41 ?_
      refine lv_if_le (tgt := 50) hx hb d_Mo_oneBy_42 (by decide) (fun c_5 => ?_) (fun c_5 => ?_)
      · rw [if_pos c_5] at h
        refine lv_lload_n hx hb d_Mo_oneBy_50 rfl (lv_at hl 0 rfl) ?_
        refine lv_ldc2 (v := -2147483648) hx hb hown (hts (.constantLong R_Mo 135 (-2147483648)) (by decide +kernel)) d_Mo_oneBy_51 ?_
        refine W.lcmp hx hb d_Mo_oneBy_54 ?_
        refine lv_if_ge (tgt := 63) hx hb d_Mo_oneBy_55 (by decide) (fun c_6 => ?_) (fun c_6 => ?_)
        · rw [if_pos c_6] at h
          refine lv_lload_n hx hb d_Mo_oneBy_63 rfl (lv_at hl 0 rfl) ?_
          refine lv_l2i hx hb d_Mo_oneBy_64 rfl ?_
          cases h
          exact ck_iret hx hb hr hlk hK hP hD hS d_Mo_oneBy_65
        · rw [if_neg c_6] at h
          refine lv_ldc (v := -2147483648) hx hb hown (hts (.constant R_Mo 137 (-2147483648)) (by decide +kernel)) d_Mo_oneBy_58 ?_
          refine lv_goto (tgt := 65) hx hb d_Mo_oneBy_60 (by decide) ?_
          cases h
          exact ck_iret hx hb hr hlk hK hP hD hS d_Mo_oneBy_65
      · rw [if_neg c_5] at h
        refine lv_ldc (v := 2147483647) hx hb hown (hts (.constant R_Mo 130 (2147483647)) (by decide +kernel)) d_Mo_oneBy_45 ?_
        refine lv_goto (tgt := 65) hx hb d_Mo_oneBy_47 (by decide) ?_
        cases h
        exact ck_iret hx hb hr hlk hK hP hD hS d_Mo_oneBy_65
    · rw [if_neg c_4] at h
      refine lv_iload_n hx hb d_Mo_oneBy_25 rfl (lv_at hl 1 rfl) ?_
      refine lv_if_ge (tgt := 35) hx hb d_Mo_oneBy_26 (by decide) (fun c_7 => ?_) (fun c_7 => ?_)
      · rw [if_pos c_7] at h
        refine lv_lload_n hx hb d_Mo_oneBy_35 rfl (lv_at hl 0 rfl) ?_
        refine lv_lstore_n (lv' := [(1, .long ((4294967296 : Int64) / p1.toInt64)), (0, .int p1)]) hx hb d_Mo_oneBy_36 rfl hl (by decide) rfl (fun ls hl => ?_)
        refine lv_lload_n hx hb d_Mo_oneBy_37 rfl (lv_at hl 0 rfl) ?_
        refine lv_ldc2 (v := 2147483647) hx hb hown (hts (.constantLong R_Mo 133 (2147483647)) (by decide +kernel)) d_Mo_oneBy_38 ?_
        refine W.lcmp hx hb d_Mo_oneBy_41 ?_
        refine lv_if_le (tgt := 50) hx hb d_Mo_oneBy_42 (by decide) (fun c_8 => ?_) (fun c_8 => ?_)
        · rw [if_pos c_8] at h
          refine lv_lload_n hx hb d_Mo_oneBy_50 rfl (lv_at hl 0 rfl) ?_
          refine lv_ldc2 (v := -2147483648) hx hb hown (hts (.constantLong R_Mo 135 (-2147483648)) (by decide +kernel)) d_Mo_oneBy_51 ?_
          refine W.lcmp hx hb d_Mo_oneBy_54 ?_
          refine lv_if_ge (tgt := 63) hx hb d_Mo_oneBy_55 (by decide) (fun c_9 => ?_) (fun c_9 => ?_)
          · rw [if_pos c_9] at h
            refine lv_lload_n hx hb d_Mo_oneBy_63 rfl (lv_at hl 0 rfl) ?_
            refine lv_l2i hx hb d_Mo_oneBy_64 rfl ?_
            cases h
            exact ck_iret hx hb hr hlk hK hP hD hS d_Mo_oneBy_65
          · rw [if_neg c_9] at h
            refine lv_ldc (v := -2147483648) hx hb hown (hts (.constant R_Mo 137 (-2147483648)) (by decide +kernel)) d_Mo_oneBy_58 ?_
            refine lv_goto (tgt := 65) hx hb d_Mo_oneBy_60 (by decide) ?_
            cases h
            exact ck_iret hx hb hr hlk hK hP hD hS d_Mo_oneBy_65
        · rw [if_neg c_8] at h
          refine lv_ldc (v := 2147483647) hx hb hown (hts (.constant R_Mo 130 (2147483647)) (by decide +kernel)) d_Mo_oneBy_45 ?_
          refine lv_goto (tgt := 65) hx hb d_Mo_oneBy_47 (by decide) ?_
          cases h
          exact ck_iret hx hb hr hlk hK hP hD hS d_Mo_oneBy_65
      · rw [if_neg c_7] at h
        refine lv_lload_n hx hb d_Mo_oneBy_29 rfl (lv_at hl 0 rfl) ?_
        refine lv_lconst (v := 1) hx hb d_Mo_oneBy_30 (by decide) ?_
        refine lv_lsub hx hb d_Mo_oneBy_31 ?_
        refine lv_goto (tgt := 36) hx hb d_Mo_oneBy_32 (by decide) ?_
        refine lv_lstore_n (lv' := [(1, .long (((4294967296 : Int64) / p1.toInt64) - (1 : Int64))), (0, .int p1)]) hx hb d_Mo_oneBy_36 rfl hl (by decide) rfl (fun ls hl => ?_)
        refine lv_lload_n hx hb d_Mo_oneBy_37 rfl (lv_at hl 0 rfl) ?_
        refine lv_ldc2 (v := 2147483647) hx hb hown (hts (.constantLong R_Mo 133 (2147483647)) (by decide +kernel)) d_Mo_oneBy_38 ?_
        refine W.lcmp hx hb d_Mo_oneBy_41 ?_
        refine lv_if_le (tgt := 50) hx hb d_Mo_oneBy_42 (by decide) (fun c_10 => ?_) (fun c_10 => ?_)
        · rw [if_pos c_10] at h
          refine lv_lload_n hx hb d_Mo_oneBy_50 rfl (lv_at hl 0 rfl) ?_
          refine lv_ldc2 (v := -2147483648) hx hb hown (hts (.constantLong R_Mo 135 (-2147483648)) (by decide +kernel)) d_Mo_oneBy_51 ?_
          refine W.lcmp hx hb d_Mo_oneBy_54 ?_
          refine lv_if_ge (tgt := 63) hx hb d_Mo_oneBy_55 (by decide) (fun c_11 => ?_) (fun c_11 => ?_)
          · rw [if_pos c_11] at h
            refine lv_lload_n hx hb d_Mo_oneBy_63 rfl (lv_at hl 0 rfl) ?_
            refine lv_l2i hx hb d_Mo_oneBy_64 rfl ?_
            cases h
            exact ck_iret hx hb hr hlk hK hP hD hS d_Mo_oneBy_65
          · rw [if_neg c_11] at h
            refine lv_ldc (v := -2147483648) hx hb hown (hts (.constant R_Mo 137 (-2147483648)) (by decide +kernel)) d_Mo_oneBy_58 ?_
            refine lv_goto (tgt := 65) hx hb d_Mo_oneBy_60 (by decide) ?_
            cases h
            exact ck_iret hx hb hr hlk hK hP hD hS d_Mo_oneBy_65
        · rw [if_neg c_10] at h
          refine lv_ldc (v := 2147483647) hx hb hown (hts (.constant R_Mo 130 (2147483647)) (by decide +kernel)) d_Mo_oneBy_45 ?_
          refine lv_goto (tgt := 65) hx hb d_Mo_oneBy_47 (by decide) ?_
          cases h
          exact ck_iret hx hb hr hlk hK hP hD hS d_Mo_oneBy_65
  · rw [if_pos c_1] at h
    refine lv_ldc (v := 2147483647) hx hb hown (hts (.constant R_Mo 130 (2147483647)) (by decide +kernel)) d_Mo_oneBy_4 ?_
    cases h
    exact ck_iret hx hb hr hlk hK hP hD hS d_Mo_oneBy_6
def pf_Mo_greatest_7 (fu : Nat) : Nat → Int64 → Int64 → Int64 → Option (Int32)
  | 0, _, _, _ => none
  | n + 1, x0, x2, x4 =>
    if (lg_cmp x4 (0 : Int64)) ≤ 0 then
      some x2.toInt32
    else
      if 0 < (lg_cmp ((x2 + x4) * (x2 + x4)) x0) then
        pf_Mo_greatest_7 fu n x0 x2 (x4 >>> ((1 : Int32).toInt64 &&& 63))
      else
        pf_Mo_greatest_7 fu n x0 (x2 + x4) (x4 >>> ((1 : Int32).toInt64 &&& 63))
def pf_Mo_greatest (fu : Nat) (p1 : Int64) : Option (Int32) :=
  pf_Mo_greatest_7 fu fu p1 (0 : Int64) (16777216 : Int64)
set_option maxHeartbeats 4000000 in
set_option maxRecDepth 100000 in
theorem k_Mo_greatest (l : Launch) (dC : Nat → ClassId) (dI : Nat → Nat → Nat) (cI cJ : ClassId) (fu : Nat) (p1 : Int64) (r : Int32) (h : pf_Mo_greatest fu p1 = some r) : ck_i l y_Mo_greatest wm_Mo_greatest ({ frames := 0, cells := 0, slots := 0, locals := 0 } : Room) [.long p1] (dC, dI) [(cI, .int), (cJ, .long)] [] r [] := by
  refine ck_ofi (cc := c_Mo_greatest) (maxL := 6) (ret := (some .int)) (by decide +kernel) rfl ?_
  intro p e s m below meth c A C0 hK hP hD hS hE
  obtain ⟨hx, hb, hr, hml, hown, hts, hlk, hA, hin⟩ := C0
  have w_7 : ∀ (n_7 : Nat) (x0 : Int64) (x2 : Int64) (x4 : Int64), pf_Mo_greatest_7 fu n_7 x0 x2 x4 = some r → ∀ (H : Heap) (locs : List Loc), va_P (dC, dI) vwCl [] H → va_D A [] → va_S A s.heap H locs → ∀ ls : Array Slot, lv_has ls 6 [(0, .long x0), (2, .long x2), (4, .long x4)] → W p l e ({ frames := 0, cells := 0, slots := 0, locals := 0 } : Room) s m ([.long p1] : List Value).toArray below meth c H locs 0 0 (ck_Qi below (dC, dI) [(cI, .int), (cJ, .long)] A ([.long p1] : List Value).toArray s r []) (F0 m 7 ls []) := by
    intro n_7
    induction n_7 with
    | zero =>
      intro x0 x2 x4 h
      cases h
    | succ n_7 ih_7 =>
      intro x0 x2 x4 h H locs hP hD hS ls hl
      rw [pf_Mo_greatest_7] at h
      refine lv_lload hx hb d_Mo_greatest_7 (lv_at hl 2 rfl) ?_
      refine lv_lconst (v := 0) hx hb d_Mo_greatest_9 (by decide) ?_
      refine W.lcmp hx hb d_Mo_greatest_10 ?_
      refine lv_if_le (tgt := 46) hx hb d_Mo_greatest_11 (by decide) (fun c_1 => ?_) (fun c_1 => ?_)
      · rw [if_pos c_1] at h
        refine lv_lload_n hx hb d_Mo_greatest_46 rfl (lv_at hl 1 rfl) ?_
        refine lv_l2i hx hb d_Mo_greatest_47 rfl ?_
        cases h
        exact ck_iret hx hb hr hlk hK hP hD hS d_Mo_greatest_48
      · rw [if_neg c_1] at h
        refine lv_lload_n hx hb d_Mo_greatest_14 rfl (lv_at hl 1 rfl) ?_
        refine lv_lload hx hb d_Mo_greatest_15 (lv_at hl 2 rfl) ?_
        refine lv_ladd hx hb d_Mo_greatest_17 ?_
        refine lv_lload_n hx hb d_Mo_greatest_18 rfl (lv_at hl 1 rfl) ?_
        refine lv_lload hx hb d_Mo_greatest_19 (lv_at hl 2 rfl) ?_
        refine lv_ladd hx hb d_Mo_greatest_21 ?_
        refine lv_lmul hx hb d_Mo_greatest_22 ?_
        refine lv_lload_n hx hb d_Mo_greatest_23 rfl (lv_at hl 0 rfl) ?_
        refine W.lcmp hx hb d_Mo_greatest_24 ?_
        refine lv_if_gt (tgt := 35) hx hb d_Mo_greatest_25 (by decide) (fun c_2 => ?_) (fun c_2 => ?_)
        · rw [if_pos c_2] at h
          refine lv_lload_n hx hb d_Mo_greatest_35 rfl (lv_at hl 1 rfl) ?_
          refine lv_lstore_n (lv' := [(2, .long x2), (0, .long x0), (4, .long x4)]) hx hb d_Mo_greatest_36 rfl hl (by decide) rfl (fun ls hl => ?_)
          refine lv_lload hx hb d_Mo_greatest_37 (lv_at hl 2 rfl) ?_
          refine lv_iconst (v := 1) hx hb d_Mo_greatest_39 (by decide) ?_
          refine lv_lshr hx hb d_Mo_greatest_40 rfl ?_
          refine lv_lstore (lv' := [(4, .long (x4 >>> ((1 : Int32).toInt64 &&& 63))), (2, .long x2), (0, .long x0)]) hx hb d_Mo_greatest_41 hl (by decide) rfl (fun ls hl => ?_)
          refine lv_goto (tgt := 7) hx hb d_Mo_greatest_43 (by decide) ?_
          exact ih_7 x0 x2 (x4 >>> ((1 : Int32).toInt64 &&& 63)) h _ _ hP hD hS _ (lv_sub hl [2, 1, 0] rfl)
        · rw [if_neg c_2] at h
          refine lv_lload_n hx hb d_Mo_greatest_28 rfl (lv_at hl 1 rfl) ?_
          refine lv_lload hx hb d_Mo_greatest_29 (lv_at hl 2 rfl) ?_
          refine lv_ladd hx hb d_Mo_greatest_31 ?_
          refine lv_goto (tgt := 36) hx hb d_Mo_greatest_32 (by decide) ?_
          refine lv_lstore_n (lv' := [(2, .long (x2 + x4)), (0, .long x0), (4, .long x4)]) hx hb d_Mo_greatest_36 rfl hl (by decide) rfl (fun ls hl => ?_)
          refine lv_lload hx hb d_Mo_greatest_37 (lv_at hl 2 rfl) ?_
          refine lv_iconst (v := 1) hx hb d_Mo_greatest_39 (by decide) ?_
          refine lv_lshr hx hb d_Mo_greatest_40 rfl ?_
          refine lv_lstore (lv' := [(4, .long (x4 >>> ((1 : Int32).toInt64 &&& 63))), (2, .long (x2 + x4)), (0, .long x0)]) hx hb d_Mo_greatest_41 hl (by decide) rfl (fun ls hl => ?_)
          refine lv_goto (tgt := 7) hx hb d_Mo_greatest_43 (by decide) ?_
          exact ih_7 x0 (x2 + x4) (x4 >>> ((1 : Int32).toInt64 &&& 63)) h _ _ hP hD hS _ (lv_sub hl [2, 1, 0] rfl)
  unfold pf_Mo_greatest at h
  have hl := lv_entry ([.long p1]) (n := 6) (Nat.le_of_ble_eq_true rfl)
  rw [lg_entry_eq]
  generalize (lg_sl ([.long p1]) ++ List.replicate (6 - (lg_sl ([.long p1])).length) Slot.unset).toArray = ls at hl ⊢
  have hl : lv_has ls 6 [(0, .long p1)] := hl
  refine lv_lconst (v := 0) hx hb d_Mo_greatest_0 (by decide) ?_
  refine lv_lstore_n (lv' := [(2, .long (0 : Int64)), (0, .long p1)]) hx hb d_Mo_greatest_1 rfl hl (by decide) rfl (fun ls hl => ?_)
  refine lv_ldc2 (v := 16777216) hx hb hown (hts (.constantLong R_Mo 138 (16777216)) (by decide +kernel)) d_Mo_greatest_2 ?_
  refine lv_lstore (lv' := [(4, .long (16777216 : Int64)), (2, .long (0 : Int64)), (0, .long p1)]) hx hb d_Mo_greatest_5 hl (by decide) rfl (fun ls hl => ?_)
  exact w_7 fu p1 (0 : Int64) (16777216 : Int64) h _ _ hP hD hS _ (lv_sub hl [2, 1, 0] rfl)
def pf_Mo_take_10 (fu : Nat) (n_o_read : Nat) (n_o_temporaries : Nat) (f_o_temporaries : Nat → Int32) (n_o_ins : Nat) (f_o_ins : Nat → Int32) (n_o_uniforms : Nat) (f_o_uniforms : Nat → Int32) : Nat → Int32 → Int32 → Int32 → Int32 → (Nat → Int32) → Option ((Nat → Int32))
  | 0, _, _, _, _, _ => none
  | n + 1, x1, x2, x3, x4, g_f_o_read =>
    if (4 : Int32) ≤ x4 then
      some g_f_o_read
    else
      if (x1 &&& (3 : Int32)) < 0 ∨ 2 < (x1 &&& (3 : Int32)) then
        if ((x1 >>> ((15 : Int32) &&& 31)) &&& (1 : Int32)) = (1 : Int32) then
          if (0 : Int32) ≤ (((4 : Int32) * x2) + x4) ∧ (((4 : Int32) * x2) + x4).toNatClampNeg < n_o_read then (
          pf_Mo_take_10 fu n_o_read n_o_temporaries f_o_temporaries n_o_ins f_o_ins n_o_uniforms f_o_uniforms n x1 x2 x3 (x4 + 1) (upd g_f_o_read (((4 : Int32) * x2) + x4).toNatClampNeg ((0 : Int32) - (0 : Int32)))) else none
        else
          if (0 : Int32) ≤ (((4 : Int32) * x2) + x4) ∧ (((4 : Int32) * x2) + x4).toNatClampNeg < n_o_read then (
          pf_Mo_take_10 fu n_o_read n_o_temporaries f_o_temporaries n_o_ins f_o_ins n_o_uniforms f_o_uniforms n x1 x2 x3 (x4 + 1) (upd g_f_o_read (((4 : Int32) * x2) + x4).toNatClampNeg (0 : Int32))) else none
      else
      if (x1 &&& (3 : Int32)) = 0 then
        if (0 : Int32) ≤ (((4 : Int32) * x3) + ((x1 >>> (((7 : Int32) + ((2 : Int32) * x4)) &&& 31)) &&& (3 : Int32))) ∧ (((4 : Int32) * x3) + ((x1 >>> (((7 : Int32) + ((2 : Int32) * x4)) &&& 31)) &&& (3 : Int32))).toNatClampNeg < n_o_temporaries then (
        if ((x1 >>> ((15 : Int32) &&& 31)) &&& (1 : Int32)) = (1 : Int32) then
          if (0 : Int32) ≤ (((4 : Int32) * x2) + x4) ∧ (((4 : Int32) * x2) + x4).toNatClampNeg < n_o_read then (
          pf_Mo_take_10 fu n_o_read n_o_temporaries f_o_temporaries n_o_ins f_o_ins n_o_uniforms f_o_uniforms n x1 x2 x3 (x4 + 1) (upd g_f_o_read (((4 : Int32) * x2) + x4).toNatClampNeg ((0 : Int32) - (f_o_temporaries (((4 : Int32) * x3) + ((x1 >>> (((7 : Int32) + ((2 : Int32) * x4)) &&& 31)) &&& (3 : Int32))).toNatClampNeg)))) else none
        else
          if (0 : Int32) ≤ (((4 : Int32) * x2) + x4) ∧ (((4 : Int32) * x2) + x4).toNatClampNeg < n_o_read then (
          pf_Mo_take_10 fu n_o_read n_o_temporaries f_o_temporaries n_o_ins f_o_ins n_o_uniforms f_o_uniforms n x1 x2 x3 (x4 + 1) (upd g_f_o_read (((4 : Int32) * x2) + x4).toNatClampNeg (f_o_temporaries (((4 : Int32) * x3) + ((x1 >>> (((7 : Int32) + ((2 : Int32) * x4)) &&& 31)) &&& (3 : Int32))).toNatClampNeg))) else none) else none
      else
      if (x1 &&& (3 : Int32)) = 1 then
        if (0 : Int32) ≤ (((4 : Int32) * x3) + ((x1 >>> (((7 : Int32) + ((2 : Int32) * x4)) &&& 31)) &&& (3 : Int32))) ∧ (((4 : Int32) * x3) + ((x1 >>> (((7 : Int32) + ((2 : Int32) * x4)) &&& 31)) &&& (3 : Int32))).toNatClampNeg < n_o_ins then (
        if ((x1 >>> ((15 : Int32) &&& 31)) &&& (1 : Int32)) = (1 : Int32) then
          if (0 : Int32) ≤ (((4 : Int32) * x2) + x4) ∧ (((4 : Int32) * x2) + x4).toNatClampNeg < n_o_read then (
          pf_Mo_take_10 fu n_o_read n_o_temporaries f_o_temporaries n_o_ins f_o_ins n_o_uniforms f_o_uniforms n x1 x2 x3 (x4 + 1) (upd g_f_o_read (((4 : Int32) * x2) + x4).toNatClampNeg ((0 : Int32) - (f_o_ins (((4 : Int32) * x3) + ((x1 >>> (((7 : Int32) + ((2 : Int32) * x4)) &&& 31)) &&& (3 : Int32))).toNatClampNeg)))) else none
        else
          if (0 : Int32) ≤ (((4 : Int32) * x2) + x4) ∧ (((4 : Int32) * x2) + x4).toNatClampNeg < n_o_read then (
          pf_Mo_take_10 fu n_o_read n_o_temporaries f_o_temporaries n_o_ins f_o_ins n_o_uniforms f_o_uniforms n x1 x2 x3 (x4 + 1) (upd g_f_o_read (((4 : Int32) * x2) + x4).toNatClampNeg (f_o_ins (((4 : Int32) * x3) + ((x1 >>> (((7 : Int32) + ((2 : Int32) * x4)) &&& 31)) &&& (3 : Int32))).toNatClampNeg))) else none) else none
      else
      if (x1 &&& (3 : Int32)) = 2 then
        if (0 : Int32) ≤ (((4 : Int32) * x3) + ((x1 >>> (((7 : Int32) + ((2 : Int32) * x4)) &&& 31)) &&& (3 : Int32))) ∧ (((4 : Int32) * x3) + ((x1 >>> (((7 : Int32) + ((2 : Int32) * x4)) &&& 31)) &&& (3 : Int32))).toNatClampNeg < n_o_uniforms then (
        if ((x1 >>> ((15 : Int32) &&& 31)) &&& (1 : Int32)) = (1 : Int32) then
          if (0 : Int32) ≤ (((4 : Int32) * x2) + x4) ∧ (((4 : Int32) * x2) + x4).toNatClampNeg < n_o_read then (
          pf_Mo_take_10 fu n_o_read n_o_temporaries f_o_temporaries n_o_ins f_o_ins n_o_uniforms f_o_uniforms n x1 x2 x3 (x4 + 1) (upd g_f_o_read (((4 : Int32) * x2) + x4).toNatClampNeg ((0 : Int32) - (f_o_uniforms (((4 : Int32) * x3) + ((x1 >>> (((7 : Int32) + ((2 : Int32) * x4)) &&& 31)) &&& (3 : Int32))).toNatClampNeg)))) else none
        else
          if (0 : Int32) ≤ (((4 : Int32) * x2) + x4) ∧ (((4 : Int32) * x2) + x4).toNatClampNeg < n_o_read then (
          pf_Mo_take_10 fu n_o_read n_o_temporaries f_o_temporaries n_o_ins f_o_ins n_o_uniforms f_o_uniforms n x1 x2 x3 (x4 + 1) (upd g_f_o_read (((4 : Int32) * x2) + x4).toNatClampNeg (f_o_uniforms (((4 : Int32) * x3) + ((x1 >>> (((7 : Int32) + ((2 : Int32) * x4)) &&& 31)) &&& (3 : Int32))).toNatClampNeg))) else none) else none
      else
        none
def pf_Mo_take (fu : Nat) (p1 : Int32) (p2 : Int32) (n_o_read : Nat) (f_o_read : Nat → Int32) (n_o_temporaries : Nat) (f_o_temporaries : Nat → Int32) (n_o_ins : Nat) (f_o_ins : Nat → Int32) (n_o_uniforms : Nat) (f_o_uniforms : Nat → Int32) : Option ((Nat → Int32)) :=
  pf_Mo_take_10 fu n_o_read n_o_temporaries f_o_temporaries n_o_ins f_o_ins n_o_uniforms f_o_uniforms fu p1 p2 ((p1 >>> ((2 : Int32) &&& 31)) &&& (31 : Int32)) (0 : Int32) f_o_read
set_option maxHeartbeats 4000000 in
set_option maxRecDepth 100000 in
theorem k_Mo_take (l : Launch) (dC : Nat → ClassId) (dI : Nat → Nat → Nat) (cI cJ : ClassId) (fu : Nat) (p1 : Int32) (p2 : Int32) (o_thrown : Int32) (o_hasProgram : Int32) (o_fault : Int32) (o_place : Int32) (o_told : Int32) (o_killed : Int32) (n_o_read : Nat) (f_o_read : Nat → Int32) (n_o_temporaries : Nat) (f_o_temporaries : Nat → Int32) (n_o_ins : Nat) (f_o_ins : Nat → Int32) (n_o_uniforms : Nat) (f_o_uniforms : Nat → Int32) (q_o : Nat) (q_o_memory : Nat) (q_o_program : Nat) (q_o_fresh : Nat) (q_o_temporaries : Nat) (q_o_ins : Nat) (q_o_outs : Nat) (q_o_uniforms : Nat) (q_o_textures : Nat) (q_o_read : Nat) (q_o_result : Nat) (q_o_left : Nat) (q_o_opening : Nat) (o_f_o_read : Nat → Int32) (h : pf_Mo_take fu p1 p2 n_o_read f_o_read n_o_temporaries f_o_temporaries n_o_ins f_o_ins n_o_uniforms f_o_uniforms = some o_f_o_read) : ck_v l y_Mo_take wm_Mo_take ({ frames := 0, cells := 0, slots := 0, locals := 0 } : Room) [.ref q_o, .int p1, .int p2] (dC, dI) [(cI, .int), (cJ, .long)] [(q_o, .inr (7, [.int o_thrown, .ref q_o_memory, .ref q_o_program, .ref q_o_fresh, .int o_hasProgram, .int o_fault, .int o_place, .int o_told, .ref q_o_temporaries, .ref q_o_ins, .ref q_o_outs, .ref q_o_uniforms, .ref q_o_textures, .ref q_o_read, .ref q_o_result, .int o_killed, .ref q_o_left, .ref q_o_opening])), (q_o_read, .inl (cI, n_o_read, .inl f_o_read)), (q_o_temporaries, .inl (cI, n_o_temporaries, .inl f_o_temporaries)), (q_o_ins, .inl (cI, n_o_ins, .inl f_o_ins)), (q_o_uniforms, .inl (cI, n_o_uniforms, .inl f_o_uniforms))] [(q_o, .inr (7, [.int o_thrown, .ref q_o_memory, .ref q_o_program, .ref q_o_fresh, .int o_hasProgram, .int o_fault, .int o_place, .int o_told, .ref q_o_temporaries, .ref q_o_ins, .ref q_o_outs, .ref q_o_uniforms, .ref q_o_textures, .ref q_o_read, .ref q_o_result, .int o_killed, .ref q_o_left, .ref q_o_opening])), (q_o_read, .inl (cI, n_o_read, .inl o_f_o_read)), (q_o_temporaries, .inl (cI, n_o_temporaries, .inl f_o_temporaries)), (q_o_ins, .inl (cI, n_o_ins, .inl f_o_ins)), (q_o_uniforms, .inl (cI, n_o_uniforms, .inl f_o_uniforms))] := by
  refine ck_ofv (cc := c_Mo_take) (maxL := 7) (ret := none) (by decide +kernel) rfl ?_
  intro p e s m below meth c A C0 hK hP hD hS hE
  obtain ⟨hx, hb, hr, hml, hown, hts, hlk, hA, hin⟩ := C0
  have w_10 : ∀ (n_10 : Nat) (x1 : Int32) (x2 : Int32) (x3 : Int32) (x4 : Int32) (g_f_o_read : Nat → Int32), pf_Mo_take_10 fu n_o_read n_o_temporaries f_o_temporaries n_o_ins f_o_ins n_o_uniforms f_o_uniforms n_10 x1 x2 x3 x4 g_f_o_read = some o_f_o_read → ∀ (H : Heap) (locs : List Loc), va_P (dC, dI) vwCl [(q_o, .inr (7, [.int o_thrown, .ref q_o_memory, .ref q_o_program, .ref q_o_fresh, .int o_hasProgram, .int o_fault, .int o_place, .int o_told, .ref q_o_temporaries, .ref q_o_ins, .ref q_o_outs, .ref q_o_uniforms, .ref q_o_textures, .ref q_o_read, .ref q_o_result, .int o_killed, .ref q_o_left, .ref q_o_opening])), (q_o_read, .inl (cI, n_o_read, .inl g_f_o_read)), (q_o_temporaries, .inl (cI, n_o_temporaries, .inl f_o_temporaries)), (q_o_ins, .inl (cI, n_o_ins, .inl f_o_ins)), (q_o_uniforms, .inl (cI, n_o_uniforms, .inl f_o_uniforms))] H → va_D A [(q_o, .inr (7, [.int o_thrown, .ref q_o_memory, .ref q_o_program, .ref q_o_fresh, .int o_hasProgram, .int o_fault, .int o_place, .int o_told, .ref q_o_temporaries, .ref q_o_ins, .ref q_o_outs, .ref q_o_uniforms, .ref q_o_textures, .ref q_o_read, .ref q_o_result, .int o_killed, .ref q_o_left, .ref q_o_opening])), (q_o_read, .inl (cI, n_o_read, .inl g_f_o_read)), (q_o_temporaries, .inl (cI, n_o_temporaries, .inl f_o_temporaries)), (q_o_ins, .inl (cI, n_o_ins, .inl f_o_ins)), (q_o_uniforms, .inl (cI, n_o_uniforms, .inl f_o_uniforms))] → va_S A s.heap H locs → ∀ ls : Array Slot, lv_has ls 7 [(0, .ref q_o), (1, .int x1), (2, .int x2), (3, .int x3), (4, .int x4)] → W p l e ({ frames := 0, cells := 0, slots := 0, locals := 0 } : Room) s m ([.ref q_o, .int p1, .int p2] : List Value).toArray below meth c H locs 0 0 (ck_Qv below (dC, dI) [(cI, .int), (cJ, .long)] A ([.ref q_o, .int p1, .int p2] : List Value).toArray s [(q_o, .inr (7, [.int o_thrown, .ref q_o_memory, .ref q_o_program, .ref q_o_fresh, .int o_hasProgram, .int o_fault, .int o_place, .int o_told, .ref q_o_temporaries, .ref q_o_ins, .ref q_o_outs, .ref q_o_uniforms, .ref q_o_textures, .ref q_o_read, .ref q_o_result, .int o_killed, .ref q_o_left, .ref q_o_opening])), (q_o_read, .inl (cI, n_o_read, .inl o_f_o_read)), (q_o_temporaries, .inl (cI, n_o_temporaries, .inl f_o_temporaries)), (q_o_ins, .inl (cI, n_o_ins, .inl f_o_ins)), (q_o_uniforms, .inl (cI, n_o_uniforms, .inl f_o_uniforms))]) (F0 m 10 ls []) := by
    intro n_10
    induction n_10 with
    | zero =>
      intro x1 x2 x3 x4 g_f_o_read h
      cases h
    | succ n_10 ih_10 =>
      intro x1 x2 x3 x4 g_f_o_read h H locs hP hD hS ls hl
      rw [pf_Mo_take_10] at h
      refine lv_iload hx hb d_Mo_take_10 (lv_at hl 4 rfl) ?_
      refine lv_iconst (v := 4) hx hb d_Mo_take_12 (by decide) ?_
      refine lv_icmp_ge (tgt := 136) hx hb d_Mo_take_13 (by decide) (fun c_1 => ?_) (fun c_1 => ?_)
      · rw [if_pos c_1] at h
        cases h
        exact ck_vret hx hb hr hlk hK hP hD hS d_Mo_take_136
      · rw [if_neg c_1] at h
        refine lv_iconst (v := 4) hx hb d_Mo_take_16 (by decide) ?_
        refine lv_iload_n hx hb d_Mo_take_17 rfl (lv_at hl 3 rfl) ?_
        refine lv_imul hx hb d_Mo_take_18 ?_
        refine lv_iload_n hx hb d_Mo_take_19 rfl (lv_at hl 1 rfl) ?_
        refine lv_bipush (v := 7) hx hb d_Mo_take_20 (by decide) ?_
        refine lv_iconst (v := 2) hx hb d_Mo_take_22 (by decide) ?_
        refine lv_iload hx hb d_Mo_take_23 (lv_at hl 4 rfl) ?_
        refine lv_imul hx hb d_Mo_take_25 ?_
        refine lv_iadd hx hb d_Mo_take_26 ?_
        refine lv_ishr hx hb d_Mo_take_27 ?_
        refine lv_iconst (v := 3) hx hb d_Mo_take_28 (by decide) ?_
        refine lv_iand hx hb d_Mo_take_29 ?_
        refine lv_iadd hx hb d_Mo_take_30 ?_
        refine lv_istore (lv' := [(5, .int (((4 : Int32) * x3) + ((x1 >>> (((7 : Int32) + ((2 : Int32) * x4)) &&& 31)) &&& (3 : Int32)))), (0, .ref q_o), (1, .int x1), (2, .int x2), (3, .int x3), (4, .int x4)]) hx hb d_Mo_take_31 hl (by decide) rfl (fun ls hl => ?_)
        refine lv_iconst (v := 0) hx hb d_Mo_take_33 (by decide) ?_
        refine lv_istore (lv' := [(6, .int (0 : Int32)), (5, .int (((4 : Int32) * x3) + ((x1 >>> (((7 : Int32) + ((2 : Int32) * x4)) &&& 31)) &&& (3 : Int32)))), (0, .ref q_o), (1, .int x1), (2, .int x2), (3, .int x3), (4, .int x4)]) hx hb d_Mo_take_34 hl (by decide) rfl (fun ls hl => ?_)
        refine lv_iload_n hx hb d_Mo_take_36 rfl (lv_at hl 3 rfl) ?_
        refine lv_iconst (v := 3) hx hb d_Mo_take_37 (by decide) ?_
        refine lv_iand hx hb d_Mo_take_38 ?_
        by_cases c_2 : (x1 &&& (3 : Int32)) < 0 ∨ 2 < (x1 &&& (3 : Int32))
        · rw [if_pos c_2] at h
          refine lv_tableOut (tgt := 100) hx hb d_Mo_take_39 (ch_out c_2 (by decide) (by decide)) (by decide) ?_
          refine lv_aload_n hx hb d_Mo_take_100 rfl (lv_at hl 2 rfl) ?_
          refine va_get (D := (dC, dI)) (ci := 7) (v := .ref q_o_read) (C := R_Mo) (T := T_Mo) (N := 18) hx hb hts (iw_Mo _) hown hK hP 0 rfl rfl 13 (by decide) (hts (.fieldLink R_Mo 38 "ShaderMachineModel" "read" "[I") (List.mem_cons_of_mem _ tw_741)) (fun _ h9 => h9) rfl d_Mo_take_101 ?_
          refine lv_iconst (v := 4) hx hb d_Mo_take_104 (by decide) ?_
          refine lv_iload_n hx hb d_Mo_take_105 rfl (lv_at hl 4 rfl) ?_
          refine lv_imul hx hb d_Mo_take_106 ?_
          refine lv_iload hx hb d_Mo_take_107 (lv_at hl 6 rfl) ?_
          refine lv_iadd hx hb d_Mo_take_109 ?_
          refine lv_iload_n hx hb d_Mo_take_110 rfl (lv_at hl 3 rfl) ?_
          refine lv_bipush (v := 15) hx hb d_Mo_take_111 (by decide) ?_
          refine lv_ishr hx hb d_Mo_take_113 ?_
          refine lv_iconst (v := 1) hx hb d_Mo_take_114 (by decide) ?_
          refine lv_iand hx hb d_Mo_take_115 ?_
          refine lv_iconst (v := 1) hx hb d_Mo_take_116 (by decide) ?_
          refine lv_icmp_ne (tgt := 127) hx hb d_Mo_take_117 (by decide) (fun c_3 => ?_) (fun c_3 => ?_)
          · rw [if_neg c_3] at h
            refine lv_iload hx hb d_Mo_take_127 (lv_at hl 0 rfl) ?_
            obtain ⟨c_4, h⟩ := ch_ite h
            refine va_iast hx hb hK hP hD hS 1 0 rfl rfl (ch_in c_4) d_Mo_take_129 (fun H locs hP hD hS => ?_)
            have hP : va_P (dC, dI) vwCl [(q_o, .inr (7, [.int o_thrown, .ref q_o_memory, .ref q_o_program, .ref q_o_fresh, .int o_hasProgram, .int o_fault, .int o_place, .int o_told, .ref q_o_temporaries, .ref q_o_ins, .ref q_o_outs, .ref q_o_uniforms, .ref q_o_textures, .ref q_o_read, .ref q_o_result, .int o_killed, .ref q_o_left, .ref q_o_opening])), (q_o_read, .inl (cI, n_o_read, .inl (upd g_f_o_read (((4 : Int32) * x2) + x4).toNatClampNeg (0 : Int32)))), (q_o_temporaries, .inl (cI, n_o_temporaries, .inl f_o_temporaries)), (q_o_ins, .inl (cI, n_o_ins, .inl f_o_ins)), (q_o_uniforms, .inl (cI, n_o_uniforms, .inl f_o_uniforms))] H := hP
            have hD : va_D A [(q_o, .inr (7, [.int o_thrown, .ref q_o_memory, .ref q_o_program, .ref q_o_fresh, .int o_hasProgram, .int o_fault, .int o_place, .int o_told, .ref q_o_temporaries, .ref q_o_ins, .ref q_o_outs, .ref q_o_uniforms, .ref q_o_textures, .ref q_o_read, .ref q_o_result, .int o_killed, .ref q_o_left, .ref q_o_opening])), (q_o_read, .inl (cI, n_o_read, .inl (upd g_f_o_read (((4 : Int32) * x2) + x4).toNatClampNeg (0 : Int32)))), (q_o_temporaries, .inl (cI, n_o_temporaries, .inl f_o_temporaries)), (q_o_ins, .inl (cI, n_o_ins, .inl f_o_ins)), (q_o_uniforms, .inl (cI, n_o_uniforms, .inl f_o_uniforms))] := hD
            refine lv_iinc (v := (x4 + 1)) (lv' := [(4, .int (x4 + 1)), (6, .int (0 : Int32)), (5, .int (((4 : Int32) * x3) + ((x1 >>> (((7 : Int32) + ((2 : Int32) * x4)) &&& 31)) &&& (3 : Int32)))), (0, .ref q_o), (1, .int x1), (2, .int x2), (3, .int x3)]) hx hb d_Mo_take_130 hl (k := 6) rfl (by rfl) (by decide) rfl (fun ls hl => ?_)
            refine lv_goto (tgt := 10) hx hb d_Mo_take_133 (by decide) ?_
            exact ih_10 x1 x2 x3 (x4 + 1) (upd g_f_o_read (((4 : Int32) * x2) + x4).toNatClampNeg (0 : Int32)) h _ _ hP hD hS _ (lv_sub hl [3, 4, 5, 6, 0] rfl)
          · rw [if_pos c_3] at h
            refine lv_iconst (v := 0) hx hb d_Mo_take_120 (by decide) ?_
            refine lv_iload hx hb d_Mo_take_121 (lv_at hl 0 rfl) ?_
            refine lv_isub hx hb d_Mo_take_123 ?_
            refine lv_goto (tgt := 129) hx hb d_Mo_take_124 (by decide) ?_
            obtain ⟨c_5, h⟩ := ch_ite h
            refine va_iast hx hb hK hP hD hS 1 0 rfl rfl (ch_in c_5) d_Mo_take_129 (fun H locs hP hD hS => ?_)
            have hP : va_P (dC, dI) vwCl [(q_o, .inr (7, [.int o_thrown, .ref q_o_memory, .ref q_o_program, .ref q_o_fresh, .int o_hasProgram, .int o_fault, .int o_place, .int o_told, .ref q_o_temporaries, .ref q_o_ins, .ref q_o_outs, .ref q_o_uniforms, .ref q_o_textures, .ref q_o_read, .ref q_o_result, .int o_killed, .ref q_o_left, .ref q_o_opening])), (q_o_read, .inl (cI, n_o_read, .inl (upd g_f_o_read (((4 : Int32) * x2) + x4).toNatClampNeg ((0 : Int32) - (0 : Int32))))), (q_o_temporaries, .inl (cI, n_o_temporaries, .inl f_o_temporaries)), (q_o_ins, .inl (cI, n_o_ins, .inl f_o_ins)), (q_o_uniforms, .inl (cI, n_o_uniforms, .inl f_o_uniforms))] H := hP
            have hD : va_D A [(q_o, .inr (7, [.int o_thrown, .ref q_o_memory, .ref q_o_program, .ref q_o_fresh, .int o_hasProgram, .int o_fault, .int o_place, .int o_told, .ref q_o_temporaries, .ref q_o_ins, .ref q_o_outs, .ref q_o_uniforms, .ref q_o_textures, .ref q_o_read, .ref q_o_result, .int o_killed, .ref q_o_left, .ref q_o_opening])), (q_o_read, .inl (cI, n_o_read, .inl (upd g_f_o_read (((4 : Int32) * x2) + x4).toNatClampNeg ((0 : Int32) - (0 : Int32))))), (q_o_temporaries, .inl (cI, n_o_temporaries, .inl f_o_temporaries)), (q_o_ins, .inl (cI, n_o_ins, .inl f_o_ins)), (q_o_uniforms, .inl (cI, n_o_uniforms, .inl f_o_uniforms))] := hD
            refine lv_iinc (v := (x4 + 1)) (lv' := [(4, .int (x4 + 1)), (6, .int (0 : Int32)), (5, .int (((4 : Int32) * x3) + ((x1 >>> (((7 : Int32) + ((2 : Int32) * x4)) &&& 31)) &&& (3 : Int32)))), (0, .ref q_o), (1, .int x1), (2, .int x2), (3, .int x3)]) hx hb d_Mo_take_130 hl (k := 6) rfl (by rfl) (by decide) rfl (fun ls hl => ?_)
            refine lv_goto (tgt := 10) hx hb d_Mo_take_133 (by decide) ?_
            exact ih_10 x1 x2 x3 (x4 + 1) (upd g_f_o_read (((4 : Int32) * x2) + x4).toNatClampNeg ((0 : Int32) - (0 : Int32))) h _ _ hP hD hS _ (lv_sub hl [3, 4, 5, 6, 0] rfl)
        rw [if_neg c_2] at h
        by_cases c_6 : (x1 &&& (3 : Int32)) = 0
        · rw [if_pos c_6] at h
          refine lv_tableIn (tgt := 64) hx hb d_Mo_take_39 (by rw [c_6]; decide) (by rw [c_6]; decide) (by rw [c_6]; rfl) (by decide) ?_
          refine lv_aload_n hx hb d_Mo_take_64 rfl (lv_at hl 2 rfl) ?_
          refine va_get (D := (dC, dI)) (ci := 7) (v := .ref q_o_temporaries) (C := R_Mo) (T := T_Mo) (N := 18) hx hb hts (iw_Mo _) hown hK hP 0 rfl rfl 8 (by decide) (hts (.fieldLink R_Mo 23 "ShaderMachineModel" "temporaries" "[I") (List.mem_cons_of_mem _ tw_736)) (fun _ h9 => h9) rfl d_Mo_take_65 ?_
          refine lv_iload hx hb d_Mo_take_68 (lv_at hl 1 rfl) ?_
          obtain ⟨c_7, h⟩ := ch_ite h
          refine va_iald hx hb hK hP 2 0 rfl rfl (ch_in c_7) d_Mo_take_70 ?_
          refine lv_istore (lv' := [(6, .int (f_o_temporaries (((4 : Int32) * x3) + ((x1 >>> (((7 : Int32) + ((2 : Int32) * x4)) &&& 31)) &&& (3 : Int32))).toNatClampNeg)), (5, .int (((4 : Int32) * x3) + ((x1 >>> (((7 : Int32) + ((2 : Int32) * x4)) &&& 31)) &&& (3 : Int32)))), (0, .ref q_o), (1, .int x1), (2, .int x2), (3, .int x3), (4, .int x4)]) hx hb d_Mo_take_71 hl (by decide) rfl (fun ls hl => ?_)
          refine lv_goto (tgt := 100) hx hb d_Mo_take_73 (by decide) ?_
          refine lv_aload_n hx hb d_Mo_take_100 rfl (lv_at hl 2 rfl) ?_
          refine va_get (D := (dC, dI)) (ci := 7) (v := .ref q_o_read) (C := R_Mo) (T := T_Mo) (N := 18) hx hb hts (iw_Mo _) hown hK hP 0 rfl rfl 13 (by decide) (hts (.fieldLink R_Mo 38 "ShaderMachineModel" "read" "[I") (List.mem_cons_of_mem _ tw_741)) (fun _ h9 => h9) rfl d_Mo_take_101 ?_
          refine lv_iconst (v := 4) hx hb d_Mo_take_104 (by decide) ?_
          refine lv_iload_n hx hb d_Mo_take_105 rfl (lv_at hl 4 rfl) ?_
          refine lv_imul hx hb d_Mo_take_106 ?_
          refine lv_iload hx hb d_Mo_take_107 (lv_at hl 6 rfl) ?_
          refine lv_iadd hx hb d_Mo_take_109 ?_
          refine lv_iload_n hx hb d_Mo_take_110 rfl (lv_at hl 3 rfl) ?_
          refine lv_bipush (v := 15) hx hb d_Mo_take_111 (by decide) ?_
          refine lv_ishr hx hb d_Mo_take_113 ?_
          refine lv_iconst (v := 1) hx hb d_Mo_take_114 (by decide) ?_
          refine lv_iand hx hb d_Mo_take_115 ?_
          refine lv_iconst (v := 1) hx hb d_Mo_take_116 (by decide) ?_
          refine lv_icmp_ne (tgt := 127) hx hb d_Mo_take_117 (by decide) (fun c_8 => ?_) (fun c_8 => ?_)
          · rw [if_neg c_8] at h
            refine lv_iload hx hb d_Mo_take_127 (lv_at hl 0 rfl) ?_
            obtain ⟨c_9, h⟩ := ch_ite h
            refine va_iast hx hb hK hP hD hS 1 0 rfl rfl (ch_in c_9) d_Mo_take_129 (fun H locs hP hD hS => ?_)
            have hP : va_P (dC, dI) vwCl [(q_o, .inr (7, [.int o_thrown, .ref q_o_memory, .ref q_o_program, .ref q_o_fresh, .int o_hasProgram, .int o_fault, .int o_place, .int o_told, .ref q_o_temporaries, .ref q_o_ins, .ref q_o_outs, .ref q_o_uniforms, .ref q_o_textures, .ref q_o_read, .ref q_o_result, .int o_killed, .ref q_o_left, .ref q_o_opening])), (q_o_read, .inl (cI, n_o_read, .inl (upd g_f_o_read (((4 : Int32) * x2) + x4).toNatClampNeg (f_o_temporaries (((4 : Int32) * x3) + ((x1 >>> (((7 : Int32) + ((2 : Int32) * x4)) &&& 31)) &&& (3 : Int32))).toNatClampNeg)))), (q_o_temporaries, .inl (cI, n_o_temporaries, .inl f_o_temporaries)), (q_o_ins, .inl (cI, n_o_ins, .inl f_o_ins)), (q_o_uniforms, .inl (cI, n_o_uniforms, .inl f_o_uniforms))] H := hP
            have hD : va_D A [(q_o, .inr (7, [.int o_thrown, .ref q_o_memory, .ref q_o_program, .ref q_o_fresh, .int o_hasProgram, .int o_fault, .int o_place, .int o_told, .ref q_o_temporaries, .ref q_o_ins, .ref q_o_outs, .ref q_o_uniforms, .ref q_o_textures, .ref q_o_read, .ref q_o_result, .int o_killed, .ref q_o_left, .ref q_o_opening])), (q_o_read, .inl (cI, n_o_read, .inl (upd g_f_o_read (((4 : Int32) * x2) + x4).toNatClampNeg (f_o_temporaries (((4 : Int32) * x3) + ((x1 >>> (((7 : Int32) + ((2 : Int32) * x4)) &&& 31)) &&& (3 : Int32))).toNatClampNeg)))), (q_o_temporaries, .inl (cI, n_o_temporaries, .inl f_o_temporaries)), (q_o_ins, .inl (cI, n_o_ins, .inl f_o_ins)), (q_o_uniforms, .inl (cI, n_o_uniforms, .inl f_o_uniforms))] := hD
            refine lv_iinc (v := (x4 + 1)) (lv' := [(4, .int (x4 + 1)), (6, .int (f_o_temporaries (((4 : Int32) * x3) + ((x1 >>> (((7 : Int32) + ((2 : Int32) * x4)) &&& 31)) &&& (3 : Int32))).toNatClampNeg)), (5, .int (((4 : Int32) * x3) + ((x1 >>> (((7 : Int32) + ((2 : Int32) * x4)) &&& 31)) &&& (3 : Int32)))), (0, .ref q_o), (1, .int x1), (2, .int x2), (3, .int x3)]) hx hb d_Mo_take_130 hl (k := 6) rfl (by rfl) (by decide) rfl (fun ls hl => ?_)
            refine lv_goto (tgt := 10) hx hb d_Mo_take_133 (by decide) ?_
            exact ih_10 x1 x2 x3 (x4 + 1) (upd g_f_o_read (((4 : Int32) * x2) + x4).toNatClampNeg (f_o_temporaries (((4 : Int32) * x3) + ((x1 >>> (((7 : Int32) + ((2 : Int32) * x4)) &&& 31)) &&& (3 : Int32))).toNatClampNeg)) h _ _ hP hD hS _ (lv_sub hl [3, 4, 5, 6, 0] rfl)
          · rw [if_pos c_8] at h
            refine lv_iconst (v := 0) hx hb d_Mo_take_120 (by decide) ?_
            refine lv_iload hx hb d_Mo_take_121 (lv_at hl 0 rfl) ?_
            refine lv_isub hx hb d_Mo_take_123 ?_
            refine lv_goto (tgt := 129) hx hb d_Mo_take_124 (by decide) ?_
            obtain ⟨c_10, h⟩ := ch_ite h
            refine va_iast hx hb hK hP hD hS 1 0 rfl rfl (ch_in c_10) d_Mo_take_129 (fun H locs hP hD hS => ?_)
            have hP : va_P (dC, dI) vwCl [(q_o, .inr (7, [.int o_thrown, .ref q_o_memory, .ref q_o_program, .ref q_o_fresh, .int o_hasProgram, .int o_fault, .int o_place, .int o_told, .ref q_o_temporaries, .ref q_o_ins, .ref q_o_outs, .ref q_o_uniforms, .ref q_o_textures, .ref q_o_read, .ref q_o_result, .int o_killed, .ref q_o_left, .ref q_o_opening])), (q_o_read, .inl (cI, n_o_read, .inl (upd g_f_o_read (((4 : Int32) * x2) + x4).toNatClampNeg ((0 : Int32) - (f_o_temporaries (((4 : Int32) * x3) + ((x1 >>> (((7 : Int32) + ((2 : Int32) * x4)) &&& 31)) &&& (3 : Int32))).toNatClampNeg))))), (q_o_temporaries, .inl (cI, n_o_temporaries, .inl f_o_temporaries)), (q_o_ins, .inl (cI, n_o_ins, .inl f_o_ins)), (q_o_uniforms, .inl (cI, n_o_uniforms, .inl f_o_uniforms))] H := hP
            have hD : va_D A [(q_o, .inr (7, [.int o_thrown, .ref q_o_memory, .ref q_o_program, .ref q_o_fresh, .int o_hasProgram, .int o_fault, .int o_place, .int o_told, .ref q_o_temporaries, .ref q_o_ins, .ref q_o_outs, .ref q_o_uniforms, .ref q_o_textures, .ref q_o_read, .ref q_o_result, .int o_killed, .ref q_o_left, .ref q_o_opening])), (q_o_read, .inl (cI, n_o_read, .inl (upd g_f_o_read (((4 : Int32) * x2) + x4).toNatClampNeg ((0 : Int32) - (f_o_temporaries (((4 : Int32) * x3) + ((x1 >>> (((7 : Int32) + ((2 : Int32) * x4)) &&& 31)) &&& (3 : Int32))).toNatClampNeg))))), (q_o_temporaries, .inl (cI, n_o_temporaries, .inl f_o_temporaries)), (q_o_ins, .inl (cI, n_o_ins, .inl f_o_ins)), (q_o_uniforms, .inl (cI, n_o_uniforms, .inl f_o_uniforms))] := hD
            refine lv_iinc (v := (x4 + 1)) (lv' := [(4, .int (x4 + 1)), (6, .int (f_o_temporaries (((4 : Int32) * x3) + ((x1 >>> (((7 : Int32) + ((2 : Int32) * x4)) &&& 31)) &&& (3 : Int32))).toNatClampNeg)), (5, .int (((4 : Int32) * x3) + ((x1 >>> (((7 : Int32) + ((2 : Int32) * x4)) &&& 31)) &&& (3 : Int32)))), (0, .ref q_o), (1, .int x1), (2, .int x2), (3, .int x3)]) hx hb d_Mo_take_130 hl (k := 6) rfl (by rfl) (by decide) rfl (fun ls hl => ?_)
            refine lv_goto (tgt := 10) hx hb d_Mo_take_133 (by decide) ?_
            exact ih_10 x1 x2 x3 (x4 + 1) (upd g_f_o_read (((4 : Int32) * x2) + x4).toNatClampNeg ((0 : Int32) - (f_o_temporaries (((4 : Int32) * x3) + ((x1 >>> (((7 : Int32) + ((2 : Int32) * x4)) &&& 31)) &&& (3 : Int32))).toNatClampNeg))) h _ _ hP hD hS _ (lv_sub hl [3, 4, 5, 6, 0] rfl)
        rw [if_neg c_6] at h
        by_cases c_11 : (x1 &&& (3 : Int32)) = 1
        · rw [if_pos c_11] at h
          refine lv_tableIn (tgt := 76) hx hb d_Mo_take_39 (by rw [c_11]; decide) (by rw [c_11]; decide) (by rw [c_11]; rfl) (by decide) ?_
          refine lv_aload_n hx hb d_Mo_take_76 rfl (lv_at hl 2 rfl) ?_
          refine va_get (D := (dC, dI)) (ci := 7) (v := .ref q_o_ins) (C := R_Mo) (T := T_Mo) (N := 18) hx hb hts (iw_Mo _) hown hK hP 0 rfl rfl 9 (by decide) (hts (.fieldLink R_Mo 26 "ShaderMachineModel" "ins" "[I") (List.mem_cons_of_mem _ tw_737)) (fun _ h9 => h9) rfl d_Mo_take_77 ?_
          refine lv_iload hx hb d_Mo_take_80 (lv_at hl 1 rfl) ?_
          obtain ⟨c_12, h⟩ := ch_ite h
          refine va_iald hx hb hK hP 3 0 rfl rfl (ch_in c_12) d_Mo_take_82 ?_
          refine lv_istore (lv' := [(6, .int (f_o_ins (((4 : Int32) * x3) + ((x1 >>> (((7 : Int32) + ((2 : Int32) * x4)) &&& 31)) &&& (3 : Int32))).toNatClampNeg)), (5, .int (((4 : Int32) * x3) + ((x1 >>> (((7 : Int32) + ((2 : Int32) * x4)) &&& 31)) &&& (3 : Int32)))), (0, .ref q_o), (1, .int x1), (2, .int x2), (3, .int x3), (4, .int x4)]) hx hb d_Mo_take_83 hl (by decide) rfl (fun ls hl => ?_)
          refine lv_goto (tgt := 100) hx hb d_Mo_take_85 (by decide) ?_
          refine lv_aload_n hx hb d_Mo_take_100 rfl (lv_at hl 2 rfl) ?_
          refine va_get (D := (dC, dI)) (ci := 7) (v := .ref q_o_read) (C := R_Mo) (T := T_Mo) (N := 18) hx hb hts (iw_Mo _) hown hK hP 0 rfl rfl 13 (by decide) (hts (.fieldLink R_Mo 38 "ShaderMachineModel" "read" "[I") (List.mem_cons_of_mem _ tw_741)) (fun _ h9 => h9) rfl d_Mo_take_101 ?_
          refine lv_iconst (v := 4) hx hb d_Mo_take_104 (by decide) ?_
          refine lv_iload_n hx hb d_Mo_take_105 rfl (lv_at hl 4 rfl) ?_
          refine lv_imul hx hb d_Mo_take_106 ?_
          refine lv_iload hx hb d_Mo_take_107 (lv_at hl 6 rfl) ?_
          refine lv_iadd hx hb d_Mo_take_109 ?_
          refine lv_iload_n hx hb d_Mo_take_110 rfl (lv_at hl 3 rfl) ?_
          refine lv_bipush (v := 15) hx hb d_Mo_take_111 (by decide) ?_
          refine lv_ishr hx hb d_Mo_take_113 ?_
          refine lv_iconst (v := 1) hx hb d_Mo_take_114 (by decide) ?_
          refine lv_iand hx hb d_Mo_take_115 ?_
          refine lv_iconst (v := 1) hx hb d_Mo_take_116 (by decide) ?_
          refine lv_icmp_ne (tgt := 127) hx hb d_Mo_take_117 (by decide) (fun c_13 => ?_) (fun c_13 => ?_)
          · rw [if_neg c_13] at h
            refine lv_iload hx hb d_Mo_take_127 (lv_at hl 0 rfl) ?_
            obtain ⟨c_14, h⟩ := ch_ite h
            refine va_iast hx hb hK hP hD hS 1 0 rfl rfl (ch_in c_14) d_Mo_take_129 (fun H locs hP hD hS => ?_)
            have hP : va_P (dC, dI) vwCl [(q_o, .inr (7, [.int o_thrown, .ref q_o_memory, .ref q_o_program, .ref q_o_fresh, .int o_hasProgram, .int o_fault, .int o_place, .int o_told, .ref q_o_temporaries, .ref q_o_ins, .ref q_o_outs, .ref q_o_uniforms, .ref q_o_textures, .ref q_o_read, .ref q_o_result, .int o_killed, .ref q_o_left, .ref q_o_opening])), (q_o_read, .inl (cI, n_o_read, .inl (upd g_f_o_read (((4 : Int32) * x2) + x4).toNatClampNeg (f_o_ins (((4 : Int32) * x3) + ((x1 >>> (((7 : Int32) + ((2 : Int32) * x4)) &&& 31)) &&& (3 : Int32))).toNatClampNeg)))), (q_o_temporaries, .inl (cI, n_o_temporaries, .inl f_o_temporaries)), (q_o_ins, .inl (cI, n_o_ins, .inl f_o_ins)), (q_o_uniforms, .inl (cI, n_o_uniforms, .inl f_o_uniforms))] H := hP
            have hD : va_D A [(q_o, .inr (7, [.int o_thrown, .ref q_o_memory, .ref q_o_program, .ref q_o_fresh, .int o_hasProgram, .int o_fault, .int o_place, .int o_told, .ref q_o_temporaries, .ref q_o_ins, .ref q_o_outs, .ref q_o_uniforms, .ref q_o_textures, .ref q_o_read, .ref q_o_result, .int o_killed, .ref q_o_left, .ref q_o_opening])), (q_o_read, .inl (cI, n_o_read, .inl (upd g_f_o_read (((4 : Int32) * x2) + x4).toNatClampNeg (f_o_ins (((4 : Int32) * x3) + ((x1 >>> (((7 : Int32) + ((2 : Int32) * x4)) &&& 31)) &&& (3 : Int32))).toNatClampNeg)))), (q_o_temporaries, .inl (cI, n_o_temporaries, .inl f_o_temporaries)), (q_o_ins, .inl (cI, n_o_ins, .inl f_o_ins)), (q_o_uniforms, .inl (cI, n_o_uniforms, .inl f_o_uniforms))] := hD
            refine lv_iinc (v := (x4 + 1)) (lv' := [(4, .int (x4 + 1)), (6, .int (f_o_ins (((4 : Int32) * x3) + ((x1 >>> (((7 : Int32) + ((2 : Int32) * x4)) &&& 31)) &&& (3 : Int32))).toNatClampNeg)), (5, .int (((4 : Int32) * x3) + ((x1 >>> (((7 : Int32) + ((2 : Int32) * x4)) &&& 31)) &&& (3 : Int32)))), (0, .ref q_o), (1, .int x1), (2, .int x2), (3, .int x3)]) hx hb d_Mo_take_130 hl (k := 6) rfl (by rfl) (by decide) rfl (fun ls hl => ?_)
            refine lv_goto (tgt := 10) hx hb d_Mo_take_133 (by decide) ?_
            exact ih_10 x1 x2 x3 (x4 + 1) (upd g_f_o_read (((4 : Int32) * x2) + x4).toNatClampNeg (f_o_ins (((4 : Int32) * x3) + ((x1 >>> (((7 : Int32) + ((2 : Int32) * x4)) &&& 31)) &&& (3 : Int32))).toNatClampNeg)) h _ _ hP hD hS _ (lv_sub hl [3, 4, 5, 6, 0] rfl)
          · rw [if_pos c_13] at h
            refine lv_iconst (v := 0) hx hb d_Mo_take_120 (by decide) ?_
            refine lv_iload hx hb d_Mo_take_121 (lv_at hl 0 rfl) ?_
            refine lv_isub hx hb d_Mo_take_123 ?_
            refine lv_goto (tgt := 129) hx hb d_Mo_take_124 (by decide) ?_
            obtain ⟨c_15, h⟩ := ch_ite h
            refine va_iast hx hb hK hP hD hS 1 0 rfl rfl (ch_in c_15) d_Mo_take_129 (fun H locs hP hD hS => ?_)
            have hP : va_P (dC, dI) vwCl [(q_o, .inr (7, [.int o_thrown, .ref q_o_memory, .ref q_o_program, .ref q_o_fresh, .int o_hasProgram, .int o_fault, .int o_place, .int o_told, .ref q_o_temporaries, .ref q_o_ins, .ref q_o_outs, .ref q_o_uniforms, .ref q_o_textures, .ref q_o_read, .ref q_o_result, .int o_killed, .ref q_o_left, .ref q_o_opening])), (q_o_read, .inl (cI, n_o_read, .inl (upd g_f_o_read (((4 : Int32) * x2) + x4).toNatClampNeg ((0 : Int32) - (f_o_ins (((4 : Int32) * x3) + ((x1 >>> (((7 : Int32) + ((2 : Int32) * x4)) &&& 31)) &&& (3 : Int32))).toNatClampNeg))))), (q_o_temporaries, .inl (cI, n_o_temporaries, .inl f_o_temporaries)), (q_o_ins, .inl (cI, n_o_ins, .inl f_o_ins)), (q_o_uniforms, .inl (cI, n_o_uniforms, .inl f_o_uniforms))] H := hP
            have hD : va_D A [(q_o, .inr (7, [.int o_thrown, .ref q_o_memory, .ref q_o_program, .ref q_o_fresh, .int o_hasProgram, .int o_fault, .int o_place, .int o_told, .ref q_o_temporaries, .ref q_o_ins, .ref q_o_outs, .ref q_o_uniforms, .ref q_o_textures, .ref q_o_read, .ref q_o_result, .int o_killed, .ref q_o_left, .ref q_o_opening])), (q_o_read, .inl (cI, n_o_read, .inl (upd g_f_o_read (((4 : Int32) * x2) + x4).toNatClampNeg ((0 : Int32) - (f_o_ins (((4 : Int32) * x3) + ((x1 >>> (((7 : Int32) + ((2 : Int32) * x4)) &&& 31)) &&& (3 : Int32))).toNatClampNeg))))), (q_o_temporaries, .inl (cI, n_o_temporaries, .inl f_o_temporaries)), (q_o_ins, .inl (cI, n_o_ins, .inl f_o_ins)), (q_o_uniforms, .inl (cI, n_o_uniforms, .inl f_o_uniforms))] := hD
            refine lv_iinc (v := (x4 + 1)) (lv' := [(4, .int (x4 + 1)), (6, .int (f_o_ins (((4 : Int32) * x3) + ((x1 >>> (((7 : Int32) + ((2 : Int32) * x4)) &&& 31)) &&& (3 : Int32))).toNatClampNeg)), (5, .int (((4 : Int32) * x3) + ((x1 >>> (((7 : Int32) + ((2 : Int32) * x4)) &&& 31)) &&& (3 : Int32)))), (0, .ref q_o), (1, .int x1), (2, .int x2), (3, .int x3)]) hx hb d_Mo_take_130 hl (k := 6) rfl (by rfl) (by decide) rfl (fun ls hl => ?_)
            refine lv_goto (tgt := 10) hx hb d_Mo_take_133 (by decide) ?_
            exact ih_10 x1 x2 x3 (x4 + 1) (upd g_f_o_read (((4 : Int32) * x2) + x4).toNatClampNeg ((0 : Int32) - (f_o_ins (((4 : Int32) * x3) + ((x1 >>> (((7 : Int32) + ((2 : Int32) * x4)) &&& 31)) &&& (3 : Int32))).toNatClampNeg))) h _ _ hP hD hS _ (lv_sub hl [3, 4, 5, 6, 0] rfl)
        rw [if_neg c_11] at h
        by_cases c_16 : (x1 &&& (3 : Int32)) = 2
        · rw [if_pos c_16] at h
          refine lv_tableIn (tgt := 88) hx hb d_Mo_take_39 (by rw [c_16]; decide) (by rw [c_16]; decide) (by rw [c_16]; rfl) (by decide) ?_
          refine lv_aload_n hx hb d_Mo_take_88 rfl (lv_at hl 2 rfl) ?_
          refine va_get (D := (dC, dI)) (ci := 7) (v := .ref q_o_uniforms) (C := R_Mo) (T := T_Mo) (N := 18) hx hb hts (iw_Mo _) hown hK hP 0 rfl rfl 11 (by decide) (hts (.fieldLink R_Mo 32 "ShaderMachineModel" "uniforms" "[I") (List.mem_cons_of_mem _ tw_739)) (fun _ h9 => h9) rfl d_Mo_take_89 ?_
          refine lv_iload hx hb d_Mo_take_92 (lv_at hl 1 rfl) ?_
          obtain ⟨c_17, h⟩ := ch_ite h
          refine va_iald hx hb hK hP 4 0 rfl rfl (ch_in c_17) d_Mo_take_94 ?_
          refine lv_istore (lv' := [(6, .int (f_o_uniforms (((4 : Int32) * x3) + ((x1 >>> (((7 : Int32) + ((2 : Int32) * x4)) &&& 31)) &&& (3 : Int32))).toNatClampNeg)), (5, .int (((4 : Int32) * x3) + ((x1 >>> (((7 : Int32) + ((2 : Int32) * x4)) &&& 31)) &&& (3 : Int32)))), (0, .ref q_o), (1, .int x1), (2, .int x2), (3, .int x3), (4, .int x4)]) hx hb d_Mo_take_95 hl (by decide) rfl (fun ls hl => ?_)
          refine lv_goto (tgt := 100) hx hb d_Mo_take_97 (by decide) ?_
          refine lv_aload_n hx hb d_Mo_take_100 rfl (lv_at hl 2 rfl) ?_
          refine va_get (D := (dC, dI)) (ci := 7) (v := .ref q_o_read) (C := R_Mo) (T := T_Mo) (N := 18) hx hb hts (iw_Mo _) hown hK hP 0 rfl rfl 13 (by decide) (hts (.fieldLink R_Mo 38 "ShaderMachineModel" "read" "[I") (List.mem_cons_of_mem _ tw_741)) (fun _ h9 => h9) rfl d_Mo_take_101 ?_
          refine lv_iconst (v := 4) hx hb d_Mo_take_104 (by decide) ?_
          refine lv_iload_n hx hb d_Mo_take_105 rfl (lv_at hl 4 rfl) ?_
          refine lv_imul hx hb d_Mo_take_106 ?_
          refine lv_iload hx hb d_Mo_take_107 (lv_at hl 6 rfl) ?_
          refine lv_iadd hx hb d_Mo_take_109 ?_
          refine lv_iload_n hx hb d_Mo_take_110 rfl (lv_at hl 3 rfl) ?_
          refine lv_bipush (v := 15) hx hb d_Mo_take_111 (by decide) ?_
          refine lv_ishr hx hb d_Mo_take_113 ?_
          refine lv_iconst (v := 1) hx hb d_Mo_take_114 (by decide) ?_
          refine lv_iand hx hb d_Mo_take_115 ?_
          refine lv_iconst (v := 1) hx hb d_Mo_take_116 (by decide) ?_
          refine lv_icmp_ne (tgt := 127) hx hb d_Mo_take_117 (by decide) (fun c_18 => ?_) (fun c_18 => ?_)
          · rw [if_neg c_18] at h
            refine lv_iload hx hb d_Mo_take_127 (lv_at hl 0 rfl) ?_
            obtain ⟨c_19, h⟩ := ch_ite h
            refine va_iast hx hb hK hP hD hS 1 0 rfl rfl (ch_in c_19) d_Mo_take_129 (fun H locs hP hD hS => ?_)
            have hP : va_P (dC, dI) vwCl [(q_o, .inr (7, [.int o_thrown, .ref q_o_memory, .ref q_o_program, .ref q_o_fresh, .int o_hasProgram, .int o_fault, .int o_place, .int o_told, .ref q_o_temporaries, .ref q_o_ins, .ref q_o_outs, .ref q_o_uniforms, .ref q_o_textures, .ref q_o_read, .ref q_o_result, .int o_killed, .ref q_o_left, .ref q_o_opening])), (q_o_read, .inl (cI, n_o_read, .inl (upd g_f_o_read (((4 : Int32) * x2) + x4).toNatClampNeg (f_o_uniforms (((4 : Int32) * x3) + ((x1 >>> (((7 : Int32) + ((2 : Int32) * x4)) &&& 31)) &&& (3 : Int32))).toNatClampNeg)))), (q_o_temporaries, .inl (cI, n_o_temporaries, .inl f_o_temporaries)), (q_o_ins, .inl (cI, n_o_ins, .inl f_o_ins)), (q_o_uniforms, .inl (cI, n_o_uniforms, .inl f_o_uniforms))] H := hP
            have hD : va_D A [(q_o, .inr (7, [.int o_thrown, .ref q_o_memory, .ref q_o_program, .ref q_o_fresh, .int o_hasProgram, .int o_fault, .int o_place, .int o_told, .ref q_o_temporaries, .ref q_o_ins, .ref q_o_outs, .ref q_o_uniforms, .ref q_o_textures, .ref q_o_read, .ref q_o_result, .int o_killed, .ref q_o_left, .ref q_o_opening])), (q_o_read, .inl (cI, n_o_read, .inl (upd g_f_o_read (((4 : Int32) * x2) + x4).toNatClampNeg (f_o_uniforms (((4 : Int32) * x3) + ((x1 >>> (((7 : Int32) + ((2 : Int32) * x4)) &&& 31)) &&& (3 : Int32))).toNatClampNeg)))), (q_o_temporaries, .inl (cI, n_o_temporaries, .inl f_o_temporaries)), (q_o_ins, .inl (cI, n_o_ins, .inl f_o_ins)), (q_o_uniforms, .inl (cI, n_o_uniforms, .inl f_o_uniforms))] := hD
            refine lv_iinc (v := (x4 + 1)) (lv' := [(4, .int (x4 + 1)), (6, .int (f_o_uniforms (((4 : Int32) * x3) + ((x1 >>> (((7 : Int32) + ((2 : Int32) * x4)) &&& 31)) &&& (3 : Int32))).toNatClampNeg)), (5, .int (((4 : Int32) * x3) + ((x1 >>> (((7 : Int32) + ((2 : Int32) * x4)) &&& 31)) &&& (3 : Int32)))), (0, .ref q_o), (1, .int x1), (2, .int x2), (3, .int x3)]) hx hb d_Mo_take_130 hl (k := 6) rfl (by rfl) (by decide) rfl (fun ls hl => ?_)
            refine lv_goto (tgt := 10) hx hb d_Mo_take_133 (by decide) ?_
            exact ih_10 x1 x2 x3 (x4 + 1) (upd g_f_o_read (((4 : Int32) * x2) + x4).toNatClampNeg (f_o_uniforms (((4 : Int32) * x3) + ((x1 >>> (((7 : Int32) + ((2 : Int32) * x4)) &&& 31)) &&& (3 : Int32))).toNatClampNeg)) h _ _ hP hD hS _ (lv_sub hl [3, 4, 5, 6, 0] rfl)
          · rw [if_pos c_18] at h
            refine lv_iconst (v := 0) hx hb d_Mo_take_120 (by decide) ?_
            refine lv_iload hx hb d_Mo_take_121 (lv_at hl 0 rfl) ?_
            refine lv_isub hx hb d_Mo_take_123 ?_
            refine lv_goto (tgt := 129) hx hb d_Mo_take_124 (by decide) ?_
            obtain ⟨c_20, h⟩ := ch_ite h
            refine va_iast hx hb hK hP hD hS 1 0 rfl rfl (ch_in c_20) d_Mo_take_129 (fun H locs hP hD hS => ?_)
            have hP : va_P (dC, dI) vwCl [(q_o, .inr (7, [.int o_thrown, .ref q_o_memory, .ref q_o_program, .ref q_o_fresh, .int o_hasProgram, .int o_fault, .int o_place, .int o_told, .ref q_o_temporaries, .ref q_o_ins, .ref q_o_outs, .ref q_o_uniforms, .ref q_o_textures, .ref q_o_read, .ref q_o_result, .int o_killed, .ref q_o_left, .ref q_o_opening])), (q_o_read, .inl (cI, n_o_read, .inl (upd g_f_o_read (((4 : Int32) * x2) + x4).toNatClampNeg ((0 : Int32) - (f_o_uniforms (((4 : Int32) * x3) + ((x1 >>> (((7 : Int32) + ((2 : Int32) * x4)) &&& 31)) &&& (3 : Int32))).toNatClampNeg))))), (q_o_temporaries, .inl (cI, n_o_temporaries, .inl f_o_temporaries)), (q_o_ins, .inl (cI, n_o_ins, .inl f_o_ins)), (q_o_uniforms, .inl (cI, n_o_uniforms, .inl f_o_uniforms))] H := hP
            have hD : va_D A [(q_o, .inr (7, [.int o_thrown, .ref q_o_memory, .ref q_o_program, .ref q_o_fresh, .int o_hasProgram, .int o_fault, .int o_place, .int o_told, .ref q_o_temporaries, .ref q_o_ins, .ref q_o_outs, .ref q_o_uniforms, .ref q_o_textures, .ref q_o_read, .ref q_o_result, .int o_killed, .ref q_o_left, .ref q_o_opening])), (q_o_read, .inl (cI, n_o_read, .inl (upd g_f_o_read (((4 : Int32) * x2) + x4).toNatClampNeg ((0 : Int32) - (f_o_uniforms (((4 : Int32) * x3) + ((x1 >>> (((7 : Int32) + ((2 : Int32) * x4)) &&& 31)) &&& (3 : Int32))).toNatClampNeg))))), (q_o_temporaries, .inl (cI, n_o_temporaries, .inl f_o_temporaries)), (q_o_ins, .inl (cI, n_o_ins, .inl f_o_ins)), (q_o_uniforms, .inl (cI, n_o_uniforms, .inl f_o_uniforms))] := hD
            refine lv_iinc (v := (x4 + 1)) (lv' := [(4, .int (x4 + 1)), (6, .int (f_o_uniforms (((4 : Int32) * x3) + ((x1 >>> (((7 : Int32) + ((2 : Int32) * x4)) &&& 31)) &&& (3 : Int32))).toNatClampNeg)), (5, .int (((4 : Int32) * x3) + ((x1 >>> (((7 : Int32) + ((2 : Int32) * x4)) &&& 31)) &&& (3 : Int32)))), (0, .ref q_o), (1, .int x1), (2, .int x2), (3, .int x3)]) hx hb d_Mo_take_130 hl (k := 6) rfl (by rfl) (by decide) rfl (fun ls hl => ?_)
            refine lv_goto (tgt := 10) hx hb d_Mo_take_133 (by decide) ?_
            exact ih_10 x1 x2 x3 (x4 + 1) (upd g_f_o_read (((4 : Int32) * x2) + x4).toNatClampNeg ((0 : Int32) - (f_o_uniforms (((4 : Int32) * x3) + ((x1 >>> (((7 : Int32) + ((2 : Int32) * x4)) &&& 31)) &&& (3 : Int32))).toNatClampNeg))) h _ _ hP hD hS _ (lv_sub hl [3, 4, 5, 6, 0] rfl)
        rw [if_neg c_16] at h
        cases h
  unfold pf_Mo_take at h
  have hl := lv_entry ([.ref q_o, .int p1, .int p2]) (n := 7) (Nat.le_of_ble_eq_true rfl)
  rw [lg_entry_eq]
  generalize (lg_sl ([.ref q_o, .int p1, .int p2]) ++ List.replicate (7 - (lg_sl ([.ref q_o, .int p1, .int p2])).length) Slot.unset).toArray = ls at hl ⊢
  have hl : lv_has ls 7 [(0, .ref q_o), (1, .int p1), (2, .int p2)] := hl
  refine lv_iload_n hx hb d_Mo_take_0 rfl (lv_at hl 1 rfl) ?_
  refine lv_iconst (v := 2) hx hb d_Mo_take_1 (by decide) ?_
  refine lv_ishr hx hb d_Mo_take_2 ?_
  refine lv_bipush (v := 31) hx hb d_Mo_take_3 (by decide) ?_
  refine lv_iand hx hb d_Mo_take_5 ?_
  refine lv_istore_n (lv' := [(3, .int ((p1 >>> ((2 : Int32) &&& 31)) &&& (31 : Int32))), (0, .ref q_o), (1, .int p1), (2, .int p2)]) hx hb d_Mo_take_6 rfl hl (by decide) rfl (fun ls hl => ?_)
  refine lv_iconst (v := 0) hx hb d_Mo_take_7 (by decide) ?_
  refine lv_istore (lv' := [(4, .int (0 : Int32)), (3, .int ((p1 >>> ((2 : Int32) &&& 31)) &&& (31 : Int32))), (0, .ref q_o), (1, .int p1), (2, .int p2)]) hx hb d_Mo_take_8 hl (by decide) rfl (fun ls hl => ?_)
  exact w_10 fu p1 p2 ((p1 >>> ((2 : Int32) &&& 31)) &&& (31 : Int32)) (0 : Int32) f_o_read h _ _ hP hD hS _ (lv_sub hl [2, 3, 4, 1, 0] rfl)
def pf_Mo_word (p1 : Int32) (n_o_memory : Nat) (f_o_memory : Nat → Int32) : Option (Int32) :=
  if p1 < 0 then
    some (0 : Int32)
  else
    if (1024 : Int32) ≤ p1 then
      some (0 : Int32)
    else
      if (0 : Int32) ≤ p1 ∧ p1.toNatClampNeg < n_o_memory then (
      some (f_o_memory p1.toNatClampNeg)) else none
set_option maxHeartbeats 4000000 in
set_option maxRecDepth 100000 in
theorem k_Mo_word (l : Launch) (dC : Nat → ClassId) (dI : Nat → Nat → Nat) (cI cJ : ClassId) (p1 : Int32) (o_thrown : Int32) (o_hasProgram : Int32) (o_fault : Int32) (o_place : Int32) (o_told : Int32) (o_killed : Int32) (n_o_memory : Nat) (f_o_memory : Nat → Int32) (q_o : Nat) (q_o_memory : Nat) (q_o_program : Nat) (q_o_fresh : Nat) (q_o_temporaries : Nat) (q_o_ins : Nat) (q_o_outs : Nat) (q_o_uniforms : Nat) (q_o_textures : Nat) (q_o_read : Nat) (q_o_result : Nat) (q_o_left : Nat) (q_o_opening : Nat) (r : Int32) (h : pf_Mo_word p1 n_o_memory f_o_memory = some r) : ck_i l y_Mo_word wm_Mo_word ({ frames := 0, cells := 0, slots := 0, locals := 0 } : Room) [.ref q_o, .int p1] (dC, dI) [(cI, .int), (cJ, .long)] [(q_o, .inr (7, [.int o_thrown, .ref q_o_memory, .ref q_o_program, .ref q_o_fresh, .int o_hasProgram, .int o_fault, .int o_place, .int o_told, .ref q_o_temporaries, .ref q_o_ins, .ref q_o_outs, .ref q_o_uniforms, .ref q_o_textures, .ref q_o_read, .ref q_o_result, .int o_killed, .ref q_o_left, .ref q_o_opening])), (q_o_memory, .inl (cI, n_o_memory, .inl f_o_memory))] r [(q_o, .inr (7, [.int o_thrown, .ref q_o_memory, .ref q_o_program, .ref q_o_fresh, .int o_hasProgram, .int o_fault, .int o_place, .int o_told, .ref q_o_temporaries, .ref q_o_ins, .ref q_o_outs, .ref q_o_uniforms, .ref q_o_textures, .ref q_o_read, .ref q_o_result, .int o_killed, .ref q_o_left, .ref q_o_opening])), (q_o_memory, .inl (cI, n_o_memory, .inl f_o_memory))] := by
  refine ck_ofi (cc := c_Mo_word) (maxL := 2) (ret := (some .int)) (by decide +kernel) rfl ?_
  intro p e s m below meth c A C0 hK hP hD hS hE
  obtain ⟨hx, hb, hr, hml, hown, hts, hlk, hA, hin⟩ := C0
  unfold pf_Mo_word at h
  have hl := lv_entry ([.ref q_o, .int p1]) (n := 2) (Nat.le_of_ble_eq_true rfl)
  rw [lg_entry_eq]
  generalize (lg_sl ([.ref q_o, .int p1]) ++ List.replicate (2 - (lg_sl ([.ref q_o, .int p1])).length) Slot.unset).toArray = ls at hl ⊢
  have hl : lv_has ls 2 [(0, .ref q_o), (1, .int p1)] := hl
  refine lv_iload_n hx hb d_Mo_word_0 rfl (lv_at hl 1 rfl) ?_
  refine lv_if_lt (tgt := 20) hx hb d_Mo_word_1 (by decide) (fun c_1 => ?_) (fun c_1 => ?_)
  · rw [if_pos c_1] at h
    refine lv_iconst (v := 0) hx hb d_Mo_word_20 (by decide) ?_
    cases h
    exact ck_iret hx hb hr hlk hK hP hD hS d_Mo_word_21
  · rw [if_neg c_1] at h
    refine lv_iload_n hx hb d_Mo_word_4 rfl (lv_at hl 1 rfl) ?_
    refine lv_sipush (v := 1024) hx hb d_Mo_word_5 (by decide) ?_
    refine lv_icmp_ge (tgt := 20) hx hb d_Mo_word_8 (by decide) (fun c_2 => ?_) (fun c_2 => ?_)
    · rw [if_pos c_2] at h
      refine lv_iconst (v := 0) hx hb d_Mo_word_20 (by decide) ?_
      cases h
      exact ck_iret hx hb hr hlk hK hP hD hS d_Mo_word_21
    · rw [if_neg c_2] at h
      refine lv_aload_n hx hb d_Mo_word_11 rfl (lv_at hl 0 rfl) ?_
      refine va_get (D := (dC, dI)) (ci := 7) (v := .ref q_o_memory) (C := R_Mo) (T := T_Mo) (N := 18) hx hb hts (iw_Mo _) hown hK hP 0 rfl rfl 1 (by decide) (hts (.fieldLink R_Mo 7 "ShaderMachineModel" "memory" "[I") (List.mem_cons_of_mem _ tw_729)) (fun _ h9 => h9) rfl d_Mo_word_12 ?_
      refine lv_iload_n hx hb d_Mo_word_15 rfl (lv_at hl 1 rfl) ?_
      obtain ⟨c_3, h⟩ := ch_ite h
      refine va_iald hx hb hK hP 1 0 rfl rfl (ch_in c_3) d_Mo_word_16 ?_
      refine lv_goto (tgt := 21) hx hb d_Mo_word_17 (by decide) ?_
      cases h
      exact ck_iret hx hb hr hlk hK hP hD hS d_Mo_word_21
