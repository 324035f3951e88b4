def pf_Mo_killed (o_killed : Int32) : Option (Int32 × Int32) :=
  if o_killed = 0 ∨ o_killed = 1 then (
  some (o_killed, (0 : Int32))) else none
set_option maxHeartbeats 4000000 in
set_option maxRecDepth 100000 in
theorem k_Mo_killed (l : Launch) (dC : Nat → ClassId) (dI : Nat → Nat → Nat) (cI cJ : ClassId) (o_thrown : Int32) (o_hasProgram : Int32) (o_fault : Int32) (o_place : Int32) (o_told : Int32) (o_killed : Int32) (q_o : Nat) (q_o_memory : Nat) (q_o_program : Nat) (q_o_fresh : Nat) (q_o_temporaries : Nat) (q_o_ins : Nat) (q_o_outs : Nat) (q_o_uniforms : Nat) (q_o_textures : Nat) (q_o_read : Nat) (q_o_result : Nat) (q_o_left : Nat) (q_o_opening : Nat) (r : Int32) (o_o_thrown : Int32) (h : pf_Mo_killed o_killed = some (r, o_o_thrown)) : ck_i l y_Mo_killed wm_Mo_killed ({ frames := 0, cells := 0, slots := 0, locals := 0 } : Room) [.ref q_o] (dC, dI) [(cI, .int), (cJ, .long)] [(q_o, .inr (7, [.int o_thrown, .ref q_o_memory, .ref q_o_program, .ref q_o_fresh, .int o_hasProgram, .int o_fault, .int o_place, .int o_told, .ref q_o_temporaries, .ref q_o_ins, .ref q_o_outs, .ref q_o_uniforms, .ref q_o_textures, .ref q_o_read, .ref q_o_result, .int o_killed, .ref q_o_left, .ref q_o_opening]))] r [(q_o, .inr (7, [.int o_o_thrown, .ref q_o_memory, .ref q_o_program, .ref q_o_fresh, .int o_hasProgram, .int o_fault, .int o_place, .int o_told, .ref q_o_temporaries, .ref q_o_ins, .ref q_o_outs, .ref q_o_uniforms, .ref q_o_textures, .ref q_o_read, .ref q_o_result, .int o_killed, .ref q_o_left, .ref q_o_opening]))] := by
  refine ck_ofi (cc := c_Mo_killed) (maxL := 1) (ret := (some .boolean)) (by decide +kernel) rfl ?_
  intro p e s m below meth c A C0 hK hP hD hS hE
  obtain ⟨hx, hb, hr, hml, hown, hts, hlk, hA, hin⟩ := C0
  unfold pf_Mo_killed at h
  have hl := lv_entry ([.ref q_o]) (n := 1) (Nat.le_of_ble_eq_true rfl)
  rw [lg_entry_eq]
  generalize (lg_sl ([.ref q_o]) ++ List.replicate (1 - (lg_sl ([.ref q_o])).length) Slot.unset).toArray = ls at hl ⊢
  have hl : lv_has ls 1 [(0, .ref q_o)] := hl
  refine lv_aload_n hx hb d_Mo_killed_0 rfl (lv_at hl 0 rfl) ?_
  refine lv_iconst (v := 0) hx hb d_Mo_killed_1 (by decide) ?_
  refine va_put (D := (dC, dI)) (ci := 7) (v := .int (0 : Int32)) (ty := .int) (C := R_Mo) (T := T_Mo) (N := 18) hx hb hts (iw_Mo _) ty_Mo tk_Mo nd_Mo hown hK hP hD hS 0 rfl rfl 0 (by decide) (hts (.fieldLink R_Mo 50 "ShaderMachineModel" "thrown" "I") (List.mem_cons_of_mem _ tw_728)) (fun _ h9 => h9) rfl (by decide +kernel) rfl rfl (Nat.le_of_ble_eq_true rfl) d_Mo_killed_2 (fun H locs hP hD hS => ?_)
  have hP : va_P (dC, dI) vwCl [(q_o, .inr (7, [.int (0 : Int32), .ref q_o_memory, .ref q_o_program, .ref q_o_fresh, .int o_hasProgram, .int o_fault, .int o_place, .int o_told, .ref q_o_temporaries, .ref q_o_ins, .ref q_o_outs, .ref q_o_uniforms, .ref q_o_textures, .ref q_o_read, .ref q_o_result, .int o_killed, .ref q_o_left, .ref q_o_opening]))] H := hP
  have hD : va_D A [(q_o, .inr (7, [.int (0 : Int32), .ref q_o_memory, .ref q_o_program, .ref q_o_fresh, .int o_hasProgram, .int o_fault, .int o_place, .int o_told, .ref q_o_temporaries, .ref q_o_ins, .ref q_o_outs, .ref q_o_uniforms, .ref q_o_textures, .ref q_o_read, .ref q_o_result, .int o_killed, .ref q_o_left, .ref q_o_opening]))] := hD
  refine lv_aload_n hx hb d_Mo_killed_5 rfl (lv_at hl 0 rfl) ?_
  refine va_get (D := (dC, dI)) (ci := 7) (v := .int o_killed) (C := R_Mo) (T := T_Mo) (N := 18) hx hb hts (iw_Mo _) hown hK hP 0 rfl rfl 15 (by decide) (hts (.fieldLink R_Mo 166 "ShaderMachineModel" "killed" "Z") (List.mem_cons_of_mem _ tw_743)) (fun _ h9 => h9) rfl d_Mo_killed_6 ?_
  obtain ⟨c_1, h⟩ := ch_ite h
  cases h
  exact ck_zret hx hb hr (ch_bool c_1) hlk hK hP hD hS d_Mo_killed_9
def pf_Mo_out (p1 : Int32) (p2 : Int32) (n_o_outs : Nat) (f_o_outs : Nat → Int32) : Option (Int32 × Int32) :=
  if p1 < 0 then
    Option.bind (pf_Mo_refuse (1 : Int32)) (fun (r_3, w_4) => 
    if r_3 = 0 then
      if (0 : Int32) ≤ (((4 : Int32) * p1) + p2) ∧ (((4 : Int32) * p1) + p2).toNatClampNeg < n_o_outs then (
      some ((f_o_outs (((4 : Int32) * p1) + p2).toNatClampNeg), w_4)) else none
    else
      some ((0 : Int32), w_4))
  else
    if (7 : Int32) < p1 then
      Option.bind (pf_Mo_refuse (1 : Int32)) (fun (r_9, w_10) => 
      if r_9 = 0 then
        if (0 : Int32) ≤ (((4 : Int32) * p1) + p2) ∧ (((4 : Int32) * p1) + p2).toNatClampNeg < n_o_outs then (
        some ((f_o_outs (((4 : Int32) * p1) + p2).toNatClampNeg), w_10)) else none
      else
        some ((0 : Int32), w_10))
    else
      if p2 < 0 then
        Option.bind (pf_Mo_refuse (1 : Int32)) (fun (r_15, w_16) => 
        if r_15 = 0 then
          if (0 : Int32) ≤ (((4 : Int32) * p1) + p2) ∧ (((4 : Int32) * p1) + p2).toNatClampNeg < n_o_outs then (
          some ((f_o_outs (((4 : Int32) * p1) + p2).toNatClampNeg), w_16)) else none
        else
          some ((0 : Int32), w_16))
      else
        if p2 ≤ (3 : Int32) then
          Option.bind (pf_Mo_refuse (0 : Int32)) (fun (r_21, w_22) => 
          if r_21 = 0 then
            if (0 : Int32) ≤ (((4 : Int32) * p1) + p2) ∧ (((4 : Int32) * p1) + p2).toNatClampNeg < n_o_outs then (
            some ((f_o_outs (((4 : Int32) * p1) + p2).toNatClampNeg), w_22)) else none
          else
            some ((0 : Int32), w_22))
        else
          Option.bind (pf_Mo_refuse (1 : Int32)) (fun (r_26, w_27) => 
          if r_26 = 0 then
            if (0 : Int32) ≤ (((4 : Int32) * p1) + p2) ∧ (((4 : Int32) * p1) + p2).toNatClampNeg < n_o_outs then (
            some ((f_o_outs (((4 : Int32) * p1) + p2).toNatClampNeg), w_27)) else none
          else
            some ((0 : Int32), w_27))
set_option maxHeartbeats 4000000 in
set_option maxRecDepth 100000 in
theorem k_Mo_out (l : Launch) (dC : Nat → ClassId) (dI : Nat → Nat → Nat) (cI cJ : ClassId) (p1 : Int32) (p2 : Int32) (o_thrown : Int32) (o_hasProgram : Int32) (o_fault : Int32) (o_place : Int32) (o_told : Int32) (o_killed : Int32) (n_o_outs : Nat) (f_o_outs : Nat → Int32) (q_o : Nat) (q_o_memory : Nat) (q_o_program : Nat) (q_o_fresh : Nat) (q_o_temporaries : Nat) (q_o_ins : Nat) (q_o_outs : Nat) (q_o_uniforms : Nat) (q_o_textures : Nat) (q_o_read : Nat) (q_o_result : Nat) (q_o_left : Nat) (q_o_opening : Nat) (r : Int32) (o_o_thrown : Int32) (h : pf_Mo_out p1 p2 n_o_outs f_o_outs = some (r, o_o_thrown)) : ck_i l y_Mo_out wm_Mo_out ({ frames := 1, cells := 0, slots := 0, locals := 21 } : Room) [.ref q_o, .int p1, .int p2] (dC, dI) [(cI, .int), (cJ, .long)] [(q_o, .inr (7, [.int o_thrown, .ref q_o_memory, .ref q_o_program, .ref q_o_fresh, .int o_hasProgram, .int o_fault, .int o_place, .int o_told, .ref q_o_temporaries, .ref q_o_ins, .ref q_o_outs, .ref q_o_uniforms, .ref q_o_textures, .ref q_o_read, .ref q_o_result, .int o_killed, .ref q_o_left, .ref q_o_opening])), (q_o_outs, .inl (cI, n_o_outs, .inl f_o_outs))] r [(q_o, .inr (7, [.int o_o_thrown, .ref q_o_memory, .ref q_o_program, .ref q_o_fresh, .int o_hasProgram, .int o_fault, .int o_place, .int o_told, .ref q_o_temporaries, .ref q_o_ins, .ref q_o_outs, .ref q_o_uniforms, .ref q_o_textures, .ref q_o_read, .ref q_o_result, .int o_killed, .ref q_o_left, .ref q_o_opening])), (q_o_outs, .inl (cI, n_o_outs, .inl f_o_outs))] := by
  refine ck_ofi (cc := c_Mo_out) (maxL := 3) (ret := (some .int)) (by decide +kernel) rfl ?_
  intro p e s m below meth c A C0 hK hP hD hS hE
  obtain ⟨hx, hb, hr, hml, hown, hts, hlk, hA, hin⟩ := C0
  unfold pf_Mo_out at h
  have hl := lv_entry ([.ref q_o, .int p1, .int p2]) (n := 3) (Nat.le_of_ble_eq_true rfl)
  rw [lg_entry_eq]
  generalize (lg_sl ([.ref q_o, .int p1, .int p2]) ++ List.replicate (3 - (lg_sl ([.ref q_o, .int p1, .int p2])).length) Slot.unset).toArray = ls at hl ⊢
  have hl : lv_has ls 3 [(0, .ref q_o), (1, .int p1), (2, .int p2)] := hl
  refine lv_aload_n hx hb d_Mo_out_0 rfl (lv_at hl 0 rfl) ?_
  refine lv_iload_n hx hb d_Mo_out_1 rfl (lv_at hl 1 rfl) ?_
  refine lv_if_lt (tgt := 20) hx hb d_Mo_out_2 (by decide) (fun c_1 => ?_) (fun c_1 => ?_)
  · rw [if_pos c_1] at h
    refine lv_iconst (v := 1) hx hb d_Mo_out_20 (by decide) ?_
    refine lv_goto (tgt := 25) hx hb d_Mo_out_21 (by decide) ?_
    obtain ⟨⟨r_3, w_4⟩, h_2, h⟩ := ch_bind h
    try dsimp only at h
    refine ck_goi (wc := [(q_o, .inr (7, [.int o_thrown, .ref q_o_memory, .ref q_o_program, .ref q_o_fresh, .int o_hasProgram, .int o_fault, .int o_place, .int o_told, .ref q_o_temporaries, .ref q_o_ins, .ref q_o_outs, .ref q_o_uniforms, .ref q_o_textures, .ref q_o_read, .ref q_o_result, .int o_killed, .ref q_o_left, .ref q_o_opening]))]) (wr := [(q_o_outs, .inl (cI, n_o_outs, .inl f_o_outs))]) (w1 := [(q_o, .inr (7, [.int w_4, .ref q_o_memory, .ref q_o_program, .ref q_o_fresh, .int o_hasProgram, .int o_fault, .int o_place, .int o_told, .ref q_o_temporaries, .ref q_o_ins, .ref q_o_outs, .ref q_o_uniforms, .ref q_o_textures, .ref q_o_read, .ref q_o_result, .int o_killed, .ref q_o_left, .ref q_o_opening]))]) (va_runV (As := [.int (1 : Int32)]) (rest := []) ⟨hx, hb, hml, hown, hts⟩ (k_Mo_refuse l dC dI cI cJ (1 : Int32) o_thrown o_hasProgram o_fault o_place o_told o_killed q_o q_o_memory q_o_program q_o_fresh q_o_temporaries q_o_ins q_o_outs q_o_uniforms q_o_textures q_o_read q_o_result q_o_left q_o_opening r_3 w_4 h_2 _) (cwV 1 hts (gw_V tw_791 tw_793 sw_394 tw_9 tw_794) rfl rfl rfl (by decide +kernel) ⟨Nat.le_of_ble_eq_true rfl, Nat.le_of_ble_eq_true rfl⟩) (ck_preV (wc := [(q_o, .inr (7, [.int o_thrown, .ref q_o_memory, .ref q_o_program, .ref q_o_fresh, .int o_hasProgram, .int o_fault, .int o_place, .int o_told, .ref q_o_temporaries, .ref q_o_ins, .ref q_o_outs, .ref q_o_uniforms, .ref q_o_textures, .ref q_o_read, .ref q_o_result, .int o_killed, .ref q_o_left, .ref q_o_opening]))]) hK hP hD hS hA hE 0 rfl rfl rfl [0] (by decide) rfl) rfl rfl hl.1 rfl (lv_room (Nat.le_of_ble_eq_true rfl)) d_Mo_out_25 ⟨Nat.le_of_ble_eq_true rfl, Nat.le_of_ble_eq_true rfl⟩) hP hD hS hA [0] [1] rfl rfl (by decide) (by decide) (fun H locs hP hD hS => ?_)
    have hP : va_P (dC, dI) vwCl [(q_o, .inr (7, [.int w_4, .ref q_o_memory, .ref q_o_program, .ref q_o_fresh, .int o_hasProgram, .int o_fault, .int o_place, .int o_told, .ref q_o_temporaries, .ref q_o_ins, .ref q_o_outs, .ref q_o_uniforms, .ref q_o_textures, .ref q_o_read, .ref q_o_result, .int o_killed, .ref q_o_left, .ref q_o_opening])), (q_o_outs, .inl (cI, n_o_outs, .inl f_o_outs))] H := hP.sub [1, 0] rfl
    have hD : va_D A [(q_o, .inr (7, [.int w_4, .ref q_o_memory, .ref q_o_program, .ref q_o_fresh, .int o_hasProgram, .int o_fault, .int o_place, .int o_told, .ref q_o_temporaries, .ref q_o_ins, .ref q_o_outs, .ref q_o_uniforms, .ref q_o_textures, .ref q_o_read, .ref q_o_result, .int o_killed, .ref q_o_left, .ref q_o_opening])), (q_o_outs, .inl (cI, n_o_outs, .inl f_o_outs))] := hD.sub [1, 0] (by decide) rfl
    refine lv_if_eq (tgt := 33) hx hb d_Mo_out_28 (by decide) (fun c_5 => ?_) (fun c_5 => ?_)
    · rw [if_pos c_5] at h
      refine lv_aload_n hx hb d_Mo_out_33 rfl (lv_at hl 0 rfl) ?_
      refine va_get (D := (dC, dI)) (ci := 7) (v := .ref q_o_outs) (C := R_Mo) (T := T_Mo) (N := 18) hx hb hts (iw_Mo _) hown hK hP 0 rfl rfl 10 (by decide) (hts (.fieldLink R_Mo 29 "ShaderMachineModel" "outs" "[I") (List.mem_cons_of_mem _ tw_738)) (fun _ h9 => h9) rfl d_Mo_out_34 ?_
      refine lv_iconst (v := 4) hx hb d_Mo_out_37 (by decide) ?_
      refine lv_iload_n hx hb d_Mo_out_38 rfl (lv_at hl 1 rfl) ?_
      refine lv_imul hx hb d_Mo_out_39 ?_
      refine lv_iload_n hx hb d_Mo_out_40 rfl (lv_at hl 2 rfl) ?_
      refine lv_iadd hx hb d_Mo_out_41 ?_
      obtain ⟨c_6, h⟩ := ch_ite h
      refine va_iald hx hb hK hP 1 0 rfl rfl (ch_in c_6) d_Mo_out_42 ?_
      cases h
      exact ck_iret hx hb hr hlk hK hP hD hS d_Mo_out_43
    · rw [if_neg c_5] at h
      refine lv_iconst (v := 0) hx hb d_Mo_out_31 (by decide) ?_
      cases h
      exact ck_iret hx hb hr hlk hK hP hD hS d_Mo_out_32
  · rw [if_neg c_1] at h
    refine lv_iload_n hx hb d_Mo_out_5 rfl (lv_at hl 1 rfl) ?_
    refine lv_bipush (v := 7) hx hb d_Mo_out_6 (by decide) ?_
    refine lv_icmp_gt (tgt := 20) hx hb d_Mo_out_8 (by decide) (fun c_7 => ?_) (fun c_7 => ?_)
    · rw [if_pos c_7] at h
      refine lv_iconst (v := 1) hx hb d_Mo_out_20 (by decide) ?_
      refine lv_goto (tgt := 25) hx hb d_Mo_out_21 (by decide) ?_
      obtain ⟨⟨r_9, w_10⟩, h_8, h⟩ := ch_bind h
      try dsimp only at h
      refine ck_goi (wc := [(q_o, .inr (7, [.int o_thrown, .ref q_o_memory, .ref q_o_program, .ref q_o_fresh, .int o_hasProgram, .int o_fault, .int o_place, .int o_told, .ref q_o_temporaries, .ref q_o_ins, .ref q_o_outs, .ref q_o_uniforms, .ref q_o_textures, .ref q_o_read, .ref q_o_result, .int o_killed, .ref q_o_left, .ref q_o_opening]))]) (wr := [(q_o_outs, .inl (cI, n_o_outs, .inl f_o_outs))]) (w1 := [(q_o, .inr (7, [.int w_10, .ref q_o_memory, .ref q_o_program, .ref q_o_fresh, .int o_hasProgram, .int o_fault, .int o_place, .int o_told, .ref q_o_temporaries, .ref q_o_ins, .ref q_o_outs, .ref q_o_uniforms, .ref q_o_textures, .ref q_o_read, .ref q_o_result, .int o_killed, .ref q_o_left, .ref q_o_opening]))]) (va_runV (As := [.int (1 : Int32)]) (rest := []) ⟨hx, hb, hml, hown, hts⟩ (k_Mo_refuse l dC dI cI cJ (1 : Int32) o_thrown o_hasProgram o_fault o_place o_told o_killed q_o q_o_memory q_o_program q_o_fresh q_o_temporaries q_o_ins q_o_outs q_o_uniforms q_o_textures q_o_read q_o_result q_o_left q_o_opening r_9 w_10 h_8 _) (cwV 1 hts (gw_V tw_791 tw_793 sw_394 tw_9 tw_794) rfl rfl rfl (by decide +kernel) ⟨Nat.le_of_ble_eq_true rfl, Nat.le_of_ble_eq_true rfl⟩) (ck_preV (wc := [(q_o, .inr (7, [.int o_thrown, .ref q_o_memory, .ref q_o_program, .ref q_o_fresh, .int o_hasProgram, .int o_fault, .int o_place, .int o_told, .ref q_o_temporaries, .ref q_o_ins, .ref q_o_outs, .ref q_o_uniforms, .ref q_o_textures, .ref q_o_read, .ref q_o_result, .int o_killed, .ref q_o_left, .ref q_o_opening]))]) hK hP hD hS hA hE 0 rfl rfl rfl [0] (by decide) rfl) rfl rfl hl.1 rfl (lv_room (Nat.le_of_ble_eq_true rfl)) d_Mo_out_25 ⟨Nat.le_of_ble_eq_true rfl, Nat.le_of_ble_eq_true rfl⟩) hP hD hS hA [0] [1] rfl rfl (by decide) (by decide) (fun H locs hP hD hS => ?_)
      have hP : va_P (dC, dI) vwCl [(q_o, .inr (7, [.int w_10, .ref q_o_memory, .ref q_o_program, .ref q_o_fresh, .int o_hasProgram, .int o_fault, .int o_place, .int o_told, .ref q_o_temporaries, .ref q_o_ins, .ref q_o_outs, .ref q_o_uniforms, .ref q_o_textures, .ref q_o_read, .ref q_o_result, .int o_killed, .ref q_o_left, .ref q_o_opening])), (q_o_outs, .inl (cI, n_o_outs, .inl f_o_outs))] H := hP.sub [1, 0] rfl
      have hD : va_D A [(q_o, .inr (7, [.int w_10, .ref q_o_memory, .ref q_o_program, .ref q_o_fresh, .int o_hasProgram, .int o_fault, .int o_place, .int o_told, .ref q_o_temporaries, .ref q_o_ins, .ref q_o_outs, .ref q_o_uniforms, .ref q_o_textures, .ref q_o_read, .ref q_o_result, .int o_killed, .ref q_o_left, .ref q_o_opening])), (q_o_outs, .inl (cI, n_o_outs, .inl f_o_outs))] := hD.sub [1, 0] (by decide) rfl
      refine lv_if_eq (tgt := 33) hx hb d_Mo_out_28 (by decide) (fun c_11 => ?_) (fun c_11 => ?_)
      · rw [if_pos c_11] at h
        refine lv_aload_n hx hb d_Mo_out_33 rfl (lv_at hl 0 rfl) ?_
        refine va_get (D := (dC, dI)) (ci := 7) (v := .ref q_o_outs) (C := R_Mo) (T := T_Mo) (N := 18) hx hb hts (iw_Mo _) hown hK hP 0 rfl rfl 10 (by decide) (hts (.fieldLink R_Mo 29 "ShaderMachineModel" "outs" "[I") (List.mem_cons_of_mem _ tw_738)) (fun _ h9 => h9) rfl d_Mo_out_34 ?_
        refine lv_iconst (v := 4) hx hb d_Mo_out_37 (by decide) ?_
        refine lv_iload_n hx hb d_Mo_out_38 rfl (lv_at hl 1 rfl) ?_
        refine lv_imul hx hb d_Mo_out_39 ?_
        refine lv_iload_n hx hb d_Mo_out_40 rfl (lv_at hl 2 rfl) ?_
        refine lv_iadd hx hb d_Mo_out_41 ?_
        obtain ⟨c_12, h⟩ := ch_ite h
        refine va_iald hx hb hK hP 1 0 rfl rfl (ch_in c_12) d_Mo_out_42 ?_
        cases h
        exact ck_iret hx hb hr hlk hK hP hD hS d_Mo_out_43
      · rw [if_neg c_11] at h
        refine lv_iconst (v := 0) hx hb d_Mo_out_31 (by decide) ?_
        cases h
        exact ck_iret hx hb hr hlk hK hP hD hS d_Mo_out_32
    · rw [if_neg c_7] at h
      refine lv_iload_n hx hb d_Mo_out_11 rfl (lv_at hl 2 rfl) ?_
      refine lv_if_lt (tgt := 20) hx hb d_Mo_out_12 (by decide) (fun c_13 => ?_) (fun c_13 => ?_)
      · rw [if_pos c_13] at h
        refine lv_iconst (v := 1) hx hb d_Mo_out_20 (by decide) ?_
        refine lv_goto (tgt := 25) hx hb d_Mo_out_21 (by decide) ?_
        obtain ⟨⟨r_15, w_16⟩, h_14, h⟩ := ch_bind h
        try dsimp only at h
        refine ck_goi (wc := [(q_o, .inr (7, [.int o_thrown, .ref q_o_memory, .ref q_o_program, .ref q_o_fresh, .int o_hasProgram, .int o_fault, .int o_place, .int o_told, .ref q_o_temporaries, .ref q_o_ins, .ref q_o_outs, .ref q_o_uniforms, .ref q_o_textures, .ref q_o_read, .ref q_o_result, .int o_killed, .ref q_o_left, .ref q_o_opening]))]) (wr := [(q_o_outs, .inl (cI, n_o_outs, .inl f_o_outs))]) (w1 := [(q_o, .inr (7, [.int w_16, .ref q_o_memory, .ref q_o_program, .ref q_o_fresh, .int o_hasProgram, .int o_fault, .int o_place, .int o_told, .ref q_o_temporaries, .ref q_o_ins, .ref q_o_outs, .ref q_o_uniforms, .ref q_o_textures, .ref q_o_read, .ref q_o_result, .int o_killed, .ref q_o_left, .ref q_o_opening]))]) (va_runV (As := [.int (1 : Int32)]) (rest := []) ⟨hx, hb, hml, hown, hts⟩ (k_Mo_refuse l dC dI cI cJ (1 : Int32) o_thrown o_hasProgram o_fault o_place o_told o_killed q_o q_o_memory q_o_program q_o_fresh q_o_temporaries q_o_ins q_o_outs q_o_uniforms q_o_textures q_o_read q_o_result q_o_left q_o_opening r_15 w_16 h_14 _) (cwV 1 hts (gw_V tw_791 tw_793 sw_394 tw_9 tw_794) rfl rfl rfl (by decide +kernel) ⟨Nat.le_of_ble_eq_true rfl, Nat.le_of_ble_eq_true rfl⟩) (ck_preV (wc := [(q_o, .inr (7, [.int o_thrown, .ref q_o_memory, .ref q_o_program, .ref q_o_fresh, .int o_hasProgram, .int o_fault, .int o_place, .int o_told, .ref q_o_temporaries, .ref q_o_ins, .ref q_o_outs, .ref q_o_uniforms, .ref q_o_textures, .ref q_o_read, .ref q_o_result, .int o_killed, .ref q_o_left, .ref q_o_opening]))]) hK hP hD hS hA hE 0 rfl rfl rfl [0] (by decide) rfl) rfl rfl hl.1 rfl (lv_room (Nat.le_of_ble_eq_true rfl)) d_Mo_out_25 ⟨Nat.le_of_ble_eq_true rfl, Nat.le_of_ble_eq_true rfl⟩) hP hD hS hA [0] [1] rfl rfl (by decide) (by decide) (fun H locs hP hD hS => ?_)
        have hP : va_P (dC, dI) vwCl [(q_o, .inr (7, [.int w_16, .ref q_o_memory, .ref q_o_program, .ref q_o_fresh, .int o_hasProgram, .int o_fault, .int o_place, .int o_told, .ref q_o_temporaries, .ref q_o_ins, .ref q_o_outs, .ref q_o_uniforms, .ref q_o_textures, .ref q_o_read, .ref q_o_result, .int o_killed, .ref q_o_left, .ref q_o_opening])), (q_o_outs, .inl (cI, n_o_outs, .inl f_o_outs))] H := hP.sub [1, 0] rfl
        have hD : va_D A [(q_o, .inr (7, [.int w_16, .ref q_o_memory, .ref q_o_program, .ref q_o_fresh, .int o_hasProgram, .int o_fault, .int o_place, .int o_told, .ref q_o_temporaries, .ref q_o_ins, .ref q_o_outs, .ref q_o_uniforms, .ref q_o_textures, .ref q_o_read, .ref q_o_result, .int o_killed, .ref q_o_left, .ref q_o_opening])), (q_o_outs, .inl (cI, n_o_outs, .inl f_o_outs))] := hD.sub [1, 0] (by decide) rfl
        refine lv_if_eq (tgt := 33) hx hb d_Mo_out_28 (by decide) (fun c_17 => ?_) (fun c_17 => ?_)
        · rw [if_pos c_17] at h
          refine lv_aload_n hx hb d_Mo_out_33 rfl (lv_at hl 0 rfl) ?_
          refine va_get (D := (dC, dI)) (ci := 7) (v := .ref q_o_outs) (C := R_Mo) (T := T_Mo) (N := 18) hx hb hts (iw_Mo _) hown hK hP 0 rfl rfl 10 (by decide) (hts (.fieldLink R_Mo 29 "ShaderMachineModel" "outs" "[I") (List.mem_cons_of_mem _ tw_738)) (fun _ h9 => h9) rfl d_Mo_out_34 ?_
          refine lv_iconst (v := 4) hx hb d_Mo_out_37 (by decide) ?_
          refine lv_iload_n hx hb d_Mo_out_38 rfl (lv_at hl 1 rfl) ?_
          refine lv_imul hx hb d_Mo_out_39 ?_
          refine lv_iload_n hx hb d_Mo_out_40 rfl (lv_at hl 2 rfl) ?_
          refine lv_iadd hx hb d_Mo_out_41 ?_
          obtain ⟨c_18, h⟩ := ch_ite h
          refine va_iald hx hb hK hP 1 0 rfl rfl (ch_in c_18) d_Mo_out_42 ?_
          cases h
          exact ck_iret hx hb hr hlk hK hP hD hS d_Mo_out_43
        · rw [if_neg c_17] at h
          refine lv_iconst (v := 0) hx hb d_Mo_out_31 (by decide) ?_
          cases h
          exact ck_iret hx hb hr hlk hK hP hD hS d_Mo_out_32
      · rw [if_neg c_13] at h
        refine lv_iload_n hx hb d_Mo_out_15 rfl (lv_at hl 2 rfl) ?_
        refine lv_iconst (v := 3) hx hb d_Mo_out_16 (by decide) ?_
        refine lv_icmp_le (tgt := 24) hx hb d_Mo_out_17 (by decide) (fun c_19 => ?_) (fun c_19 => ?_)
        · rw [if_pos c_19] at h
          refine lv_iconst (v := 0) hx hb d_Mo_out_24 (by decide) ?_
          obtain ⟨⟨r_21, w_22⟩, h_20, h⟩ := ch_bind h
          try dsimp only at h
          refine ck_goi (wc := [(q_o, .inr (7, [.int o_thrown, .ref q_o_memory, .ref q_o_program, .ref q_o_fresh, .int o_hasProgram, .int o_fault, .int o_place, .int o_told, .ref q_o_temporaries, .ref q_o_ins, .ref q_o_outs, .ref q_o_uniforms, .ref q_o_textures, .ref q_o_read, .ref q_o_result, .int o_killed, .ref q_o_left, .ref q_o_opening]))]) (wr := [(q_o_outs, .inl (cI, n_o_outs, .inl f_o_outs))]) (w1 := [(q_o, .inr (7, [.int w_22, .ref q_o_memory, .ref q_o_program, .ref q_o_fresh, .int o_hasProgram, .int o_fault, .int o_place, .int o_told, .ref q_o_temporaries, .ref q_o_ins, .ref q_o_outs, .ref q_o_uniforms, .ref q_o_textures, .ref q_o_read, .ref q_o_result, .int o_killed, .ref q_o_left, .ref q_o_opening]))]) (va_runV (As := [.int (0 : Int32)]) (rest := []) ⟨hx, hb, hml, hown, hts⟩ (k_Mo_refuse l dC dI cI cJ (0 : Int32) o_thrown o_hasProgram o_fault o_place o_told o_killed q_o q_o_memory q_o_program q_o_fresh q_o_temporaries q_o_ins q_o_outs q_o_uniforms q_o_textures q_o_read q_o_result q_o_left q_o_opening r_21 w_22 h_20 _) (cwV 1 hts (gw_V tw_791 tw_793 sw_394 tw_9 tw_794) rfl rfl rfl (by decide +kernel) ⟨Nat.le_of_ble_eq_true rfl, Nat.le_of_ble_eq_true rfl⟩) (ck_preV (wc := [(q_o, .inr (7, [.int o_thrown, .ref q_o_memory, .ref q_o_program, .ref q_o_fresh, .int o_hasProgram, .int o_fault, .int o_place, .int o_told, .ref q_o_temporaries, .ref q_o_ins, .ref q_o_outs, .ref q_o_uniforms, .ref q_o_textures, .ref q_o_read, .ref q_o_result, .int o_killed, .ref q_o_left, .ref q_o_opening]))]) hK hP hD hS hA hE 0 rfl rfl rfl [0] (by decide) rfl) rfl rfl hl.1 rfl (lv_room (Nat.le_of_ble_eq_true rfl)) d_Mo_out_25 ⟨Nat.le_of_ble_eq_true rfl, Nat.le_of_ble_eq_true rfl⟩) hP hD hS hA [0] [1] rfl rfl (by decide) (by decide) (fun H locs hP hD hS => ?_)
          have hP : va_P (dC, dI) vwCl [(q_o, .inr (7, [.int w_22, .ref q_o_memory, .ref q_o_program, .ref q_o_fresh, .int o_hasProgram, .int o_fault, .int o_place, .int o_told, .ref q_o_temporaries, .ref q_o_ins, .ref q_o_outs, .ref q_o_uniforms, .ref q_o_textures, .ref q_o_read, .ref q_o_result, .int o_killed, .ref q_o_left, .ref q_o_opening])), (q_o_outs, .inl (cI, n_o_outs, .inl f_o_outs))] H := hP.sub [1, 0] rfl
          have hD : va_D A [(q_o, .inr (7, [.int w_22, .ref q_o_memory, .ref q_o_program, .ref q_o_fresh, .int o_hasProgram, .int o_fault, .int o_place, .int o_told, .ref q_o_temporaries, .ref q_o_ins, .ref q_o_outs, .ref q_o_uniforms, .ref q_o_textures, .ref q_o_read, .ref q_o_result, .int o_killed, .ref q_o_left, .ref q_o_opening])), (q_o_outs, .inl (cI, n_o_outs, .inl f_o_outs))] := hD.sub [1, 0] (by decide) rfl
          refine lv_if_eq (tgt := 33) hx hb d_Mo_out_28 (by decide) (fun c_23 => ?_) (fun c_23 => ?_)
          · rw [if_pos c_23] at h
            refine lv_aload_n hx hb d_Mo_out_33 rfl (lv_at hl 0 rfl) ?_
            refine va_get (D := (dC, dI)) (ci := 7) (v := .ref q_o_outs) (C := R_Mo) (T := T_Mo) (N := 18) hx hb hts (iw_Mo _) hown hK hP 0 rfl rfl 10 (by decide) (hts (.fieldLink R_Mo 29 "ShaderMachineModel" "outs" "[I") (List.mem_cons_of_mem _ tw_738)) (fun _ h9 => h9) rfl d_Mo_out_34 ?_
            refine lv_iconst (v := 4) hx hb d_Mo_out_37 (by decide) ?_
            refine lv_iload_n hx hb d_Mo_out_38 rfl (lv_at hl 1 rfl) ?_
            refine lv_imul hx hb d_Mo_out_39 ?_
            refine lv_iload_n hx hb d_Mo_out_40 rfl (lv_at hl 2 rfl) ?_
            refine lv_iadd hx hb d_Mo_out_41 ?_
            obtain ⟨c_24, h⟩ := ch_ite h
            refine va_iald hx hb hK hP 1 0 rfl rfl (ch_in c_24) d_Mo_out_42 ?_
            cases h
            exact ck_iret hx hb hr hlk hK hP hD hS d_Mo_out_43
          · rw [if_neg c_23] at h
            refine lv_iconst (v := 0) hx hb d_Mo_out_31 (by decide) ?_
            cases h
            exact ck_iret hx hb hr hlk hK hP hD hS d_Mo_out_32
        · rw [if_neg c_19] at h
          refine lv_iconst (v := 1) hx hb d_Mo_out_20 (by decide) ?_
          refine lv_goto (tgt := 25) hx hb d_Mo_out_21 (by decide) ?_
          obtain ⟨⟨r_26, w_27⟩, h_25, h⟩ := ch_bind h
          try dsimp only at h
          refine ck_goi (wc := [(q_o, .inr (7, [.int o_thrown, .ref q_o_memory, .ref q_o_program, .ref q_o_fresh, .int o_hasProgram, .int o_fault, .int o_place, .int o_told, .ref q_o_temporaries, .ref q_o_ins, .ref q_o_outs, .ref q_o_uniforms, .ref q_o_textures, .ref q_o_read, .ref q_o_result, .int o_killed, .ref q_o_left, .ref q_o_opening]))]) (wr := [(q_o_outs, .inl (cI, n_o_outs, .inl f_o_outs))]) (w1 := [(q_o, .inr (7, [.int w_27, .ref q_o_memory, .ref q_o_program, .ref q_o_fresh, .int o_hasProgram, .int o_fault, .int o_place, .int o_told, .ref q_o_temporaries, .ref q_o_ins, .ref q_o_outs, .ref q_o_uniforms, .ref q_o_textures, .ref q_o_read, .ref q_o_result, .int o_killed, .ref q_o_left, .ref q_o_opening]))]) (va_runV (As := [.int (1 : Int32)]) (rest := []) ⟨hx, hb, hml, hown, hts⟩ (k_Mo_refuse l dC dI cI cJ (1 : Int32) o_thrown o_hasProgram o_fault o_place o_told o_killed q_o q_o_memory q_o_program q_o_fresh q_o_temporaries q_o_ins q_o_outs q_o_uniforms q_o_textures q_o_read q_o_result q_o_left q_o_opening r_26 w_27 h_25 _) (cwV 1 hts (gw_V tw_791 tw_793 sw_394 tw_9 tw_794) rfl rfl rfl (by decide +kernel) ⟨Nat.le_of_ble_eq_true rfl, Nat.le_of_ble_eq_true rfl⟩) (ck_preV (wc := [(q_o, .inr (7, [.int o_thrown, .ref q_o_memory, .ref q_o_program, .ref q_o_fresh, .int o_hasProgram, .int o_fault, .int o_place, .int o_told, .ref q_o_temporaries, .ref q_o_ins, .ref q_o_outs, .ref q_o_uniforms, .ref q_o_textures, .ref q_o_read, .ref q_o_result, .int o_killed, .ref q_o_left, .ref q_o_opening]))]) hK hP hD hS hA hE 0 rfl rfl rfl [0] (by decide) rfl) rfl rfl hl.1 rfl (lv_room (Nat.le_of_ble_eq_true rfl)) d_Mo_out_25 ⟨Nat.le_of_ble_eq_true rfl, Nat.le_of_ble_eq_true rfl⟩) hP hD hS hA [0] [1] rfl rfl (by decide) (by decide) (fun H locs hP hD hS => ?_)
          have hP : va_P (dC, dI) vwCl [(q_o, .inr (7, [.int w_27, .ref q_o_memory, .ref q_o_program, .ref q_o_fresh, .int o_hasProgram, .int o_fault, .int o_place, .int o_told, .ref q_o_temporaries, .ref q_o_ins, .ref q_o_outs, .ref q_o_uniforms, .ref q_o_textures, .ref q_o_read, .ref q_o_result, .int o_killed, .ref q_o_left, .ref q_o_opening])), (q_o_outs, .inl (cI, n_o_outs, .inl f_o_outs))] H := hP.sub [1, 0] rfl
          have hD : va_D A [(q_o, .inr (7, [.int w_27, .ref q_o_memory, .ref q_o_program, .ref q_o_fresh, .int o_hasProgram, .int o_fault, .int o_place, .int o_told, .ref q_o_temporaries, .ref q_o_ins, .ref q_o_outs, .ref q_o_uniforms, .ref q_o_textures, .ref q_o_read, .ref q_o_result, .int o_killed, .ref q_o_left, .ref q_o_opening])), (q_o_outs, .inl (cI, n_o_outs, .inl f_o_outs))] := hD.sub [1, 0] (by decide) rfl
          refine lv_if_eq (tgt := 33) hx hb d_Mo_out_28 (by decide) (fun c_28 => ?_) (fun c_28 => ?_)
          · rw [if_pos c_28] at h
            refine lv_aload_n hx hb d_Mo_out_33 rfl (lv_at hl 0 rfl) ?_
            refine va_get (D := (dC, dI)) (ci := 7) (v := .ref q_o_outs) (C := R_Mo) (T := T_Mo) (N := 18) hx hb hts (iw_Mo _) hown hK hP 0 rfl rfl 10 (by decide) (hts (.fieldLink R_Mo 29 "ShaderMachineModel" "outs" "[I") (List.mem_cons_of_mem _ tw_738)) (fun _ h9 => h9) rfl d_Mo_out_34 ?_
            refine lv_iconst (v := 4) hx hb d_Mo_out_37 (by decide) ?_
            refine lv_iload_n hx hb d_Mo_out_38 rfl (lv_at hl 1 rfl) ?_
            refine lv_imul hx hb d_Mo_out_39 ?_
            refine lv_iload_n hx hb d_Mo_out_40 rfl (lv_at hl 2 rfl) ?_
            refine lv_iadd hx hb d_Mo_out_41 ?_
            obtain ⟨c_29, h⟩ := ch_ite h
            refine va_iald hx hb hK hP 1 0 rfl rfl (ch_in c_29) d_Mo_out_42 ?_
            cases h
            exact ck_iret hx hb hr hlk hK hP hD hS d_Mo_out_43
          · rw [if_neg c_28] at h
            refine lv_iconst (v := 0) hx hb d_Mo_out_31 (by decide) ?_
            cases h
            exact ck_iret hx hb hr hlk hK hP hD hS d_Mo_out_32
def pf_Mo_temporary (p1 : Int32) (p2 : Int32) (n_o_temporaries : Nat) (f_o_temporaries : Nat → Int32) : Option (Int32 × Int32) :=
  if p1 < 0 then
    Option.bind (pf_Mo_refuse (1 : Int32)) (fun (r_3, w_4) => 
    if r_3 = 0 then
      if (0 : Int32) ≤ (((4 : Int32) * p1) + p2) ∧ (((4 : Int32) * p1) + p2).toNatClampNeg < n_o_temporaries then (
      some ((f_o_temporaries (((4 : Int32) * p1) + p2).toNatClampNeg), w_4)) else none
    else
      some ((0 : Int32), w_4))
  else
    if (15 : Int32) < p1 then
      Option.bind (pf_Mo_refuse (1 : Int32)) (fun (r_9, w_10) => 
      if r_9 = 0 then
        if (0 : Int32) ≤ (((4 : Int32) * p1) + p2) ∧ (((4 : Int32) * p1) + p2).toNatClampNeg < n_o_temporaries then (
        some ((f_o_temporaries (((4 : Int32) * p1) + p2).toNatClampNeg), w_10)) else none
      else
        some ((0 : Int32), w_10))
    else
      if p2 < 0 then
        Option.bind (pf_Mo_refuse (1 : Int32)) (fun (r_15, w_16) => 
        if r_15 = 0 then
          if (0 : Int32) ≤ (((4 : Int32) * p1) + p2) ∧ (((4 : Int32) * p1) + p2).toNatClampNeg < n_o_temporaries then (
          some ((f_o_temporaries (((4 : Int32) * p1) + p2).toNatClampNeg), w_16)) else none
        else
          some ((0 : Int32), w_16))
      else
        if p2 ≤ (3 : Int32) then
          Option.bind (pf_Mo_refuse (0 : Int32)) (fun (r_21, w_22) => 
          if r_21 = 0 then
            if (0 : Int32) ≤ (((4 : Int32) * p1) + p2) ∧ (((4 : Int32) * p1) + p2).toNatClampNeg < n_o_temporaries then (
            some ((f_o_temporaries (((4 : Int32) * p1) + p2).toNatClampNeg), w_22)) else none
          else
            some ((0 : Int32), w_22))
        else
          Option.bind (pf_Mo_refuse (1 : Int32)) (fun (r_26, w_27) => 
          if r_26 = 0 then
            if (0 : Int32) ≤ (((4 : Int32) * p1) + p2) ∧ (((4 : Int32) * p1) + p2).toNatClampNeg < n_o_temporaries then (
            some ((f_o_temporaries (((4 : Int32) * p1) + p2).toNatClampNeg), w_27)) else none
          else
            some ((0 : Int32), w_27))
set_option maxHeartbeats 4000000 in
set_option maxRecDepth 100000 in
theorem k_Mo_temporary (l : Launch) (dC : Nat → ClassId) (dI : Nat → Nat → Nat) (cI cJ : ClassId) (p1 : Int32) (p2 : Int32) (o_thrown : Int32) (o_hasProgram : Int32) (o_fault : Int32) (o_place : Int32) (o_told : Int32) (o_killed : Int32) (n_o_temporaries : Nat) (f_o_temporaries : Nat → Int32) (q_o : Nat) (q_o_memory : Nat) (q_o_program : Nat) (q_o_fresh : Nat) (q_o_temporaries : Nat) (q_o_ins : Nat) (q_o_outs : Nat) (q_o_uniforms : Nat) (q_o_textures : Nat) (q_o_read : Nat) (q_o_result : Nat) (q_o_left : Nat) (q_o_opening : Nat) (r : Int32) (o_o_thrown : Int32) (h : pf_Mo_temporary p1 p2 n_o_temporaries f_o_temporaries = some (r, o_o_thrown)) : ck_i l y_Mo_temporary wm_Mo_temporary ({ frames := 1, cells := 0, slots := 0, locals := 21 } : Room) [.ref q_o, .int p1, .int p2] (dC, dI) [(cI, .int), (cJ, .long)] [(q_o, .inr (7, [.int o_thrown, .ref q_o_memory, .ref q_o_program, .ref q_o_fresh, .int o_hasProgram, .int o_fault, .int o_place, .int o_told, .ref q_o_temporaries, .ref q_o_ins, .ref q_o_outs, .ref q_o_uniforms, .ref q_o_textures, .ref q_o_read, .ref q_o_result, .int o_killed, .ref q_o_left, .ref q_o_opening])), (q_o_temporaries, .inl (cI, n_o_temporaries, .inl f_o_temporaries))] r [(q_o, .inr (7, [.int o_o_thrown, .ref q_o_memory, .ref q_o_program, .ref q_o_fresh, .int o_hasProgram, .int o_fault, .int o_place, .int o_told, .ref q_o_temporaries, .ref q_o_ins, .ref q_o_outs, .ref q_o_uniforms, .ref q_o_textures, .ref q_o_read, .ref q_o_result, .int o_killed, .ref q_o_left, .ref q_o_opening])), (q_o_temporaries, .inl (cI, n_o_temporaries, .inl f_o_temporaries))] := by
  refine ck_ofi (cc := c_Mo_temporary) (maxL := 3) (ret := (some .int)) (by decide +kernel) rfl ?_
  intro p e s m below meth c A C0 hK hP hD hS hE
  obtain ⟨hx, hb, hr, hml, hown, hts, hlk, hA, hin⟩ := C0
  unfold pf_Mo_temporary at h
  have hl := lv_entry ([.ref q_o, .int p1, .int p2]) (n := 3) (Nat.le_of_ble_eq_true rfl)
  rw [lg_entry_eq]
  generalize (lg_sl ([.ref q_o, .int p1, .int p2]) ++ List.replicate (3 - (lg_sl ([.ref q_o, .int p1, .int p2])).length) Slot.unset).toArray = ls at hl ⊢
  have hl : lv_has ls 3 [(0, .ref q_o), (1, .int p1), (2, .int p2)] := hl
  refine lv_aload_n hx hb d_Mo_temporary_0 rfl (lv_at hl 0 rfl) ?_
  refine lv_iload_n hx hb d_Mo_temporary_1 rfl (lv_at hl 1 rfl) ?_
  refine lv_if_lt (tgt := 20) hx hb d_Mo_temporary_2 (by decide) (fun c_1 => ?_) (fun c_1 => ?_)
  · rw [if_pos c_1] at h
    refine lv_iconst (v := 1) hx hb d_Mo_temporary_20 (by decide) ?_
    refine lv_goto (tgt := 25) hx hb d_Mo_temporary_21 (by decide) ?_
    obtain ⟨⟨r_3, w_4⟩, h_2, h⟩ := ch_bind h
    try dsimp only at h
    refine ck_goi (wc := [(q_o, .inr (7, [.int o_thrown, .ref q_o_memory, .ref q_o_program, .ref q_o_fresh, .int o_hasProgram, .int o_fault, .int o_place, .int o_told, .ref q_o_temporaries, .ref q_o_ins, .ref q_o_outs, .ref q_o_uniforms, .ref q_o_textures, .ref q_o_read, .ref q_o_result, .int o_killed, .ref q_o_left, .ref q_o_opening]))]) (wr := [(q_o_temporaries, .inl (cI, n_o_temporaries, .inl f_o_temporaries))]) (w1 := [(q_o, .inr (7, [.int w_4, .ref q_o_memory, .ref q_o_program, .ref q_o_fresh, .int o_hasProgram, .int o_fault, .int o_place, .int o_told, .ref q_o_temporaries, .ref q_o_ins, .ref q_o_outs, .ref q_o_uniforms, .ref q_o_textures, .ref q_o_read, .ref q_o_result, .int o_killed, .ref q_o_left, .ref q_o_opening]))]) (va_runV (As := [.int (1 : Int32)]) (rest := []) ⟨hx, hb, hml, hown, hts⟩ (k_Mo_refuse l dC dI cI cJ (1 : Int32) o_thrown o_hasProgram o_fault o_place o_told o_killed q_o q_o_memory q_o_program q_o_fresh q_o_temporaries q_o_ins q_o_outs q_o_uniforms q_o_textures q_o_read q_o_result q_o_left q_o_opening r_3 w_4 h_2 _) (cwV 1 hts (gw_V tw_791 tw_793 sw_394 tw_9 tw_794) rfl rfl rfl (by decide +kernel) ⟨Nat.le_of_ble_eq_true rfl, Nat.le_of_ble_eq_true rfl⟩) (ck_preV (wc := [(q_o, .inr (7, [.int o_thrown, .ref q_o_memory, .ref q_o_program, .ref q_o_fresh, .int o_hasProgram, .int o_fault, .int o_place, .int o_told, .ref q_o_temporaries, .ref q_o_ins, .ref q_o_outs, .ref q_o_uniforms, .ref q_o_textures, .ref q_o_read, .ref q_o_result, .int o_killed, .ref q_o_left, .ref q_o_opening]))]) hK hP hD hS hA hE 0 rfl rfl rfl [0] (by decide) rfl) rfl rfl hl.1 rfl (lv_room (Nat.le_of_ble_eq_true rfl)) d_Mo_temporary_25 ⟨Nat.le_of_ble_eq_true rfl, Nat.le_of_ble_eq_true rfl⟩) hP hD hS hA [0] [1] rfl rfl (by decide) (by decide) (fun H locs hP hD hS => ?_)
    have hP : va_P (dC, dI) vwCl [(q_o, .inr (7, [.int w_4, .ref q_o_memory, .ref q_o_program, .ref q_o_fresh, .int o_hasProgram, .int o_fault, .int o_place, .int o_told, .ref q_o_temporaries, .ref q_o_ins, .ref q_o_outs, .ref q_o_uniforms, .ref q_o_textures, .ref q_o_read, .ref q_o_result, .int o_killed, .ref q_o_left, .ref q_o_opening])), (q_o_temporaries, .inl (cI, n_o_temporaries, .inl f_o_temporaries))] H := hP.sub [1, 0] rfl
    have hD : va_D A [(q_o, .inr (7, [.int w_4, .ref q_o_memory, .ref q_o_program, .ref q_o_fresh, .int o_hasProgram, .int o_fault, .int o_place, .int o_told, .ref q_o_temporaries, .ref q_o_ins, .ref q_o_outs, .ref q_o_uniforms, .ref q_o_textures, .ref q_o_read, .ref q_o_result, .int o_killed, .ref q_o_left, .ref q_o_opening])), (q_o_temporaries, .inl (cI, n_o_temporaries, .inl f_o_temporaries))] := hD.sub [1, 0] (by decide) rfl
    refine lv_if_eq (tgt := 33) hx hb d_Mo_temporary_28 (by decide) (fun c_5 => ?_) (fun c_5 => ?_)
    · rw [if_pos c_5] at h
      refine lv_aload_n hx hb d_Mo_temporary_33 rfl (lv_at hl 0 rfl) ?_
      refine va_get (D := (dC, dI)) (ci := 7) (v := .ref q_o_temporaries) (C := R_Mo) (T := T_Mo) (N := 18) hx hb hts (iw_Mo _) hown hK hP 0 rfl rfl 8 (by decide) (hts (.fieldLink R_Mo 23 "ShaderMachineModel" "temporaries" "[I") (List.mem_cons_of_mem _ tw_736)) (fun _ h9 => h9) rfl d_Mo_temporary_34 ?_
      refine lv_iconst (v := 4) hx hb d_Mo_temporary_37 (by decide) ?_
      refine lv_iload_n hx hb d_Mo_temporary_38 rfl (lv_at hl 1 rfl) ?_
      refine lv_imul hx hb d_Mo_temporary_39 ?_
      refine lv_iload_n hx hb d_Mo_temporary_40 rfl (lv_at hl 2 rfl) ?_
      refine lv_iadd hx hb d_Mo_temporary_41 ?_
      obtain ⟨c_6, h⟩ := ch_ite h
      refine va_iald hx hb hK hP 1 0 rfl rfl (ch_in c_6) d_Mo_temporary_42 ?_
      cases h
      exact ck_iret hx hb hr hlk hK hP hD hS d_Mo_temporary_43
    · rw [if_neg c_5] at h
      refine lv_iconst (v := 0) hx hb d_Mo_temporary_31 (by decide) ?_
      cases h
      exact ck_iret hx hb hr hlk hK hP hD hS d_Mo_temporary_32
  · rw [if_neg c_1] at h
    refine lv_iload_n hx hb d_Mo_temporary_5 rfl (lv_at hl 1 rfl) ?_
    refine lv_bipush (v := 15) hx hb d_Mo_temporary_6 (by decide) ?_
    refine lv_icmp_gt (tgt := 20) hx hb d_Mo_temporary_8 (by decide) (fun c_7 => ?_) (fun c_7 => ?_)
    · rw [if_pos c_7] at h
      refine lv_iconst (v := 1) hx hb d_Mo_temporary_20 (by decide) ?_
      refine lv_goto (tgt := 25) hx hb d_Mo_temporary_21 (by decide) ?_
      obtain ⟨⟨r_9, w_10⟩, h_8, h⟩ := ch_bind h
      try dsimp only at h
      refine ck_goi (wc := [(q_o, .inr (7, [.int o_thrown, .ref q_o_memory, .ref q_o_program, .ref q_o_fresh, .int o_hasProgram, .int o_fault, .int o_place, .int o_told, .ref q_o_temporaries, .ref q_o_ins, .ref q_o_outs, .ref q_o_uniforms, .ref q_o_textures, .ref q_o_read, .ref q_o_result, .int o_killed, .ref q_o_left, .ref q_o_opening]))]) (wr := [(q_o_temporaries, .inl (cI, n_o_temporaries, .inl f_o_temporaries))]) (w1 := [(q_o, .inr (7, [.int w_10, .ref q_o_memory, .ref q_o_program, .ref q_o_fresh, .int o_hasProgram, .int o_fault, .int o_place, .int o_told, .ref q_o_temporaries, .ref q_o_ins, .ref q_o_outs, .ref q_o_uniforms, .ref q_o_textures, .ref q_o_read, .ref q_o_result, .int o_killed, .ref q_o_left, .ref q_o_opening]))]) (va_runV (As := [.int (1 : Int32)]) (rest := []) ⟨hx, hb, hml, hown, hts⟩ (k_Mo_refuse l dC dI cI cJ (1 : Int32) o_thrown o_hasProgram o_fault o_place o_told o_killed q_o q_o_memory q_o_program q_o_fresh q_o_temporaries q_o_ins q_o_outs q_o_uniforms q_o_textures q_o_read q_o_result q_o_left q_o_opening r_9 w_10 h_8 _) (cwV 1 hts (gw_V tw_791 tw_793 sw_394 tw_9 tw_794) rfl rfl rfl (by decide +kernel) ⟨Nat.le_of_ble_eq_true rfl, Nat.le_of_ble_eq_true rfl⟩) (ck_preV (wc := [(q_o, .inr (7, [.int o_thrown, .ref q_o_memory, .ref q_o_program, .ref q_o_fresh, .int o_hasProgram, .int o_fault, .int o_place, .int o_told, .ref q_o_temporaries, .ref q_o_ins, .ref q_o_outs, .ref q_o_uniforms, .ref q_o_textures, .ref q_o_read, .ref q_o_result, .int o_killed, .ref q_o_left, .ref q_o_opening]))]) hK hP hD hS hA hE 0 rfl rfl rfl [0] (by decide) rfl) rfl rfl hl.1 rfl (lv_room (Nat.le_of_ble_eq_true rfl)) d_Mo_temporary_25 ⟨Nat.le_of_ble_eq_true rfl, Nat.le_of_ble_eq_true rfl⟩) hP hD hS hA [0] [1] rfl rfl (by decide) (by decide) (fun H locs hP hD hS => ?_)
      have hP : va_P (dC, dI) vwCl [(q_o, .inr (7, [.int w_10, .ref q_o_memory, .ref q_o_program, .ref q_o_fresh, .int o_hasProgram, .int o_fault, .int o_place, .int o_told, .ref q_o_temporaries, .ref q_o_ins, .ref q_o_outs, .ref q_o_uniforms, .ref q_o_textures, .ref q_o_read, .ref q_o_result, .int o_killed, .ref q_o_left, .ref q_o_opening])), (q_o_temporaries, .inl (cI, n_o_temporaries, .inl f_o_temporaries))] H := hP.sub [1, 0] rfl
      have hD : va_D A [(q_o, .inr (7, [.int w_10, .ref q_o_memory, .ref q_o_program, .ref q_o_fresh, .int o_hasProgram, .int o_fault, .int o_place, .int o_told, .ref q_o_temporaries, .ref q_o_ins, .ref q_o_outs, .ref q_o_uniforms, .ref q_o_textures, .ref q_o_read, .ref q_o_result, .int o_killed, .ref q_o_left, .ref q_o_opening])), (q_o_temporaries, .inl (cI, n_o_temporaries, .inl f_o_temporaries))] := hD.sub [1, 0] (by decide) rfl
      refine lv_if_eq (tgt := 33) hx hb d_Mo_temporary_28 (by decide) (fun c_11 => ?_) (fun c_11 => ?_)
      · rw [if_pos c_11] at h
        refine lv_aload_n hx hb d_Mo_temporary_33 rfl (lv_at hl 0 rfl) ?_
        refine va_get (D := (dC, dI)) (ci := 7) (v := .ref q_o_temporaries) (C := R_Mo) (T := T_Mo) (N := 18) hx hb hts (iw_Mo _) hown hK hP 0 rfl rfl 8 (by decide) (hts (.fieldLink R_Mo 23 "ShaderMachineModel" "temporaries" "[I") (List.mem_cons_of_mem _ tw_736)) (fun _ h9 => h9) rfl d_Mo_temporary_34 ?_
        refine lv_iconst (v := 4) hx hb d_Mo_temporary_37 (by decide) ?_
        refine lv_iload_n hx hb d_Mo_temporary_38 rfl (lv_at hl 1 rfl) ?_
        refine lv_imul hx hb d_Mo_temporary_39 ?_
        refine lv_iload_n hx hb d_Mo_temporary_40 rfl (lv_at hl 2 rfl) ?_
        refine lv_iadd hx hb d_Mo_temporary_41 ?_
        obtain ⟨c_12, h⟩ := ch_ite h
        refine va_iald hx hb hK hP 1 0 rfl rfl (ch_in c_12) d_Mo_temporary_42 ?_
        cases h
        exact ck_iret hx hb hr hlk hK hP hD hS d_Mo_temporary_43
      · rw [if_neg c_11] at h
        refine lv_iconst (v := 0) hx hb d_Mo_temporary_31 (by decide) ?_
        cases h
        exact ck_iret hx hb hr hlk hK hP hD hS d_Mo_temporary_32
    · rw [if_neg c_7] at h
      refine lv_iload_n hx hb d_Mo_temporary_11 rfl (lv_at hl 2 rfl) ?_
      refine lv_if_lt (tgt := 20) hx hb d_Mo_temporary_12 (by decide) (fun c_13 => ?_) (fun c_13 => ?_)
      · rw [if_pos c_13] at h
        refine lv_iconst (v := 1) hx hb d_Mo_temporary_20 (by decide) ?_
        refine lv_goto (tgt := 25) hx hb d_Mo_temporary_21 (by decide) ?_
        obtain ⟨⟨r_15, w_16⟩, h_14, h⟩ := ch_bind h
        try dsimp only at h
        refine ck_goi (wc := [(q_o, .inr (7, [.int o_thrown, .ref q_o_memory, .ref q_o_program, .ref q_o_fresh, .int o_hasProgram, .int o_fault, .int o_place, .int o_told, .ref q_o_temporaries, .ref q_o_ins, .ref q_o_outs, .ref q_o_uniforms, .ref q_o_textures, .ref q_o_read, .ref q_o_result, .int o_killed, .ref q_o_left, .ref q_o_opening]))]) (wr := [(q_o_temporaries, .inl (cI, n_o_temporaries, .inl f_o_temporaries))]) (w1 := [(q_o, .inr (7, [.int w_16, .ref q_o_memory, .ref q_o_program, .ref q_o_fresh, .int o_hasProgram, .int o_fault, .int o_place, .int o_told, .ref q_o_temporaries, .ref q_o_ins, .ref q_o_outs, .ref q_o_uniforms, .ref q_o_textures, .ref q_o_read, .ref q_o_result, .int o_killed, .ref q_o_left, .ref q_o_opening]))]) (va_runV (As := [.int (1 : Int32)]) (rest := []) ⟨hx, hb, hml, hown, hts⟩ (k_Mo_refuse l dC dI cI cJ (1 : Int32) o_thrown o_hasProgram o_fault o_place o_told o_killed q_o q_o_memory q_o_program q_o_fresh q_o_temporaries q_o_ins q_o_outs q_o_uniforms q_o_textures q_o_read q_o_result q_o_left q_o_opening r_15 w_16 h_14 _) (cwV 1 hts (gw_V tw_791 tw_793 sw_394 tw_9 tw_794) rfl rfl rfl (by decide +kernel) ⟨Nat.le_of_ble_eq_true rfl, Nat.le_of_ble_eq_true rfl⟩) (ck_preV (wc := [(q_o, .inr (7, [.int o_thrown, .ref q_o_memory, .ref q_o_program, .ref q_o_fresh, .int o_hasProgram, .int o_fault, .int o_place, .int o_told, .ref q_o_temporaries, .ref q_o_ins, .ref q_o_outs, .ref q_o_uniforms, .ref q_o_textures, .ref q_o_read, .ref q_o_result, .int o_killed, .ref q_o_left, .ref q_o_opening]))]) hK hP hD hS hA hE 0 rfl rfl rfl [0] (by decide) rfl) rfl rfl hl.1 rfl (lv_room (Nat.le_of_ble_eq_true rfl)) d_Mo_temporary_25 ⟨Nat.le_of_ble_eq_true rfl, Nat.le_of_ble_eq_true rfl⟩) hP hD hS hA [0] [1] rfl rfl (by decide) (by decide) (fun H locs hP hD hS => ?_)
        have hP : va_P (dC, dI) vwCl [(q_o, .inr (7, [.int w_16, .ref q_o_memory, .ref q_o_program, .ref q_o_fresh, .int o_hasProgram, .int o_fault, .int o_place, .int o_told, .ref q_o_temporaries, .ref q_o_ins, .ref q_o_outs, .ref q_o_uniforms, .ref q_o_textures, .ref q_o_read, .ref q_o_result, .int o_killed, .ref q_o_left, .ref q_o_opening])), (q_o_temporaries, .inl (cI, n_o_temporaries, .inl f_o_temporaries))] H := hP.sub [1, 0] rfl
        have hD : va_D A [(q_o, .inr (7, [.int w_16, .ref q_o_memory, .ref q_o_program, .ref q_o_fresh, .int o_hasProgram, .int o_fault, .int o_place, .int o_told, .ref q_o_temporaries, .ref q_o_ins, .ref q_o_outs, .ref q_o_uniforms, .ref q_o_textures, .ref q_o_read, .ref q_o_result, .int o_killed, .ref q_o_left, .ref q_o_opening])), (q_o_temporaries, .inl (cI, n_o_temporaries, .inl f_o_temporaries))] := hD.sub [1, 0] (by decide) rfl
        refine lv_if_eq (tgt := 33) hx hb d_Mo_temporary_28 (by decide) (fun c_17 => ?_) (fun c_17 => ?_)
        · rw [if_pos c_17] at h
          refine lv_aload_n hx hb d_Mo_temporary_33 rfl (lv_at hl 0 rfl) ?_
          refine va_get (D := (dC, dI)) (ci := 7) (v := .ref q_o_temporaries) (C := R_Mo) (T := T_Mo) (N := 18) hx hb hts (iw_Mo _) hown hK hP 0 rfl rfl 8 (by decide) (hts (.fieldLink R_Mo 23 "ShaderMachineModel" "temporaries" "[I") (List.mem_cons_of_mem _ tw_736)) (fun _ h9 => h9) rfl d_Mo_temporary_34 ?_
          refine lv_iconst (v := 4) hx hb d_Mo_temporary_37 (by decide) ?_
          refine lv_iload_n hx hb d_Mo_temporary_38 rfl (lv_at hl 1 rfl) ?_
          refine lv_imul hx hb d_Mo_temporary_39 ?_
          refine lv_iload_n hx hb d_Mo_temporary_40 rfl (lv_at hl 2 rfl) ?_
          refine lv_iadd hx hb d_Mo_temporary_41 ?_
          obtain ⟨c_18, h⟩ := ch_ite h
          refine va_iald hx hb hK hP 1 0 rfl rfl (ch_in c_18) d_Mo_temporary_42 ?_
          cases h
          exact ck_iret hx hb hr hlk hK hP hD hS d_Mo_temporary_43
        · rw [if_neg c_17] at h
          refine lv_iconst (v := 0) hx hb d_Mo_temporary_31 (by decide) ?_
          cases h
          exact ck_iret hx hb hr hlk hK hP hD hS d_Mo_temporary_32
      · rw [if_neg c_13] at h
        refine lv_iload_n hx hb d_Mo_temporary_15 rfl (lv_at hl 2 rfl) ?_
        refine lv_iconst (v := 3) hx hb d_Mo_temporary_16 (by decide) ?_
        refine lv_icmp_le (tgt := 24) hx hb d_Mo_temporary_17 (by decide) (fun c_19 => ?_) (fun c_19 => ?_)
        · rw [if_pos c_19] at h
          refine lv_iconst (v := 0) hx hb d_Mo_temporary_24 (by decide) ?_
          obtain ⟨⟨r_21, w_22⟩, h_20, h⟩ := ch_bind h
          try dsimp only at h
          refine ck_goi (wc := [(q_o, .inr (7, [.int o_thrown, .ref q_o_memory, .ref q_o_program, .ref q_o_fresh, .int o_hasProgram, .int o_fault, .int o_place, .int o_told, .ref q_o_temporaries, .ref q_o_ins, .ref q_o_outs, .ref q_o_uniforms, .ref q_o_textures, .ref q_o_read, .ref q_o_result, .int o_killed, .ref q_o_left, .ref q_o_opening]))]) (wr := [(q_o_temporaries, .inl (cI, n_o_temporaries, .inl f_o_temporaries))]) (w1 := [(q_o, .inr (7, [.int w_22, .ref q_o_memory, .ref q_o_program, .ref q_o_fresh, .int o_hasProgram, .int o_fault, .int o_place, .int o_told, .ref q_o_temporaries, .ref q_o_ins, .ref q_o_outs, .ref q_o_uniforms, .ref q_o_textures, .ref q_o_read, .ref q_o_result, .int o_killed, .ref q_o_left, .ref q_o_opening]))]) (va_runV (As := [.int (0 : Int32)]) (rest := []) ⟨hx, hb, hml, hown, hts⟩ (k_Mo_refuse l dC dI cI cJ (0 : Int32) o_thrown o_hasProgram o_fault o_place o_told o_killed q_o q_o_memory q_o_program q_o_fresh q_o_temporaries q_o_ins q_o_outs q_o_uniforms q_o_textures q_o_read q_o_result q_o_left q_o_opening r_21 w_22 h_20 _) (cwV 1 hts (gw_V tw_791 tw_793 sw_394 tw_9 tw_794) rfl rfl rfl (by decide +kernel) ⟨Nat.le_of_ble_eq_true rfl, Nat.le_of_ble_eq_true rfl⟩) (ck_preV (wc := [(q_o, .inr (7, [.int o_thrown, .ref q_o_memory, .ref q_o_program, .ref q_o_fresh, .int o_hasProgram, .int o_fault, .int o_place, .int o_told, .ref q_o_temporaries, .ref q_o_ins, .ref q_o_outs, .ref q_o_uniforms, .ref q_o_textures, .ref q_o_read, .ref q_o_result, .int o_killed, .ref q_o_left, .ref q_o_opening]))]) hK hP hD hS hA hE 0 rfl rfl rfl [0] (by decide) rfl) rfl rfl hl.1 rfl (lv_room (Nat.le_of_ble_eq_true rfl)) d_Mo_temporary_25 ⟨Nat.le_of_ble_eq_true rfl, Nat.le_of_ble_eq_true rfl⟩) hP hD hS hA [0] [1] rfl rfl (by decide) (by decide) (fun H locs hP hD hS => ?_)
          have hP : va_P (dC, dI) vwCl [(q_o, .inr (7, [.int w_22, .ref q_o_memory, .ref q_o_program, .ref q_o_fresh, .int o_hasProgram, .int o_fault, .int o_place, .int o_told, .ref q_o_temporaries, .ref q_o_ins, .ref q_o_outs, .ref q_o_uniforms, .ref q_o_textures, .ref q_o_read, .ref q_o_result, .int o_killed, .ref q_o_left, .ref q_o_opening])), (q_o_temporaries, .inl (cI, n_o_temporaries, .inl f_o_temporaries))] H := hP.sub [1, 0] rfl
          have hD : va_D A [(q_o, .inr (7, [.int w_22, .ref q_o_memory, .ref q_o_program, .ref q_o_fresh, .int o_hasProgram, .int o_fault, .int o_place, .int o_told, .ref q_o_temporaries, .ref q_o_ins, .ref q_o_outs, .ref q_o_uniforms, .ref q_o_textures, .ref q_o_read, .ref q_o_result, .int o_killed, .ref q_o_left, .ref q_o_opening])), (q_o_temporaries, .inl (cI, n_o_temporaries, .inl f_o_temporaries))] := hD.sub [1, 0] (by decide) rfl
          refine lv_if_eq (tgt := 33) hx hb d_Mo_temporary_28 (by decide) (fun c_23 => ?_) (fun c_23 => ?_)
          · rw [if_pos c_23] at h
            refine lv_aload_n hx hb d_Mo_temporary_33 rfl (lv_at hl 0 rfl) ?_
            refine va_get (D := (dC, dI)) (ci := 7) (v := .ref q_o_temporaries) (C := R_Mo) (T := T_Mo) (N := 18) hx hb hts (iw_Mo _) hown hK hP 0 rfl rfl 8 (by decide) (hts (.fieldLink R_Mo 23 "ShaderMachineModel" "temporaries" "[I") (List.mem_cons_of_mem _ tw_736)) (fun _ h9 => h9) rfl d_Mo_temporary_34 ?_
            refine lv_iconst (v := 4) hx hb d_Mo_temporary_37 (by decide) ?_
            refine lv_iload_n hx hb d_Mo_temporary_38 rfl (lv_at hl 1 rfl) ?_
            refine lv_imul hx hb d_Mo_temporary_39 ?_
            refine lv_iload_n hx hb d_Mo_temporary_40 rfl (lv_at hl 2 rfl) ?_
            refine lv_iadd hx hb d_Mo_temporary_41 ?_
            obtain ⟨c_24, h⟩ := ch_ite h
            refine va_iald hx hb hK hP 1 0 rfl rfl (ch_in c_24) d_Mo_temporary_42 ?_
            cases h
            exact ck_iret hx hb hr hlk hK hP hD hS d_Mo_temporary_43
          · rw [if_neg c_23] at h
            refine lv_iconst (v := 0) hx hb d_Mo_temporary_31 (by decide) ?_
            cases h
            exact ck_iret hx hb hr hlk hK hP hD hS d_Mo_temporary_32
        · rw [if_neg c_19] at h
          refine lv_iconst (v := 1) hx hb d_Mo_temporary_20 (by decide) ?_
          refine lv_goto (tgt := 25) hx hb d_Mo_temporary_21 (by decide) ?_
          obtain ⟨⟨r_26, w_27⟩, h_25, h⟩ := ch_bind h
          try dsimp only at h
          refine ck_goi (wc := [(q_o, .inr (7, [.int o_thrown, .ref q_o_memory, .ref q_o_program, .ref q_o_fresh, .int o_hasProgram, .int o_fault, .int o_place, .int o_told, .ref q_o_temporaries, .ref q_o_ins, .ref q_o_outs, .ref q_o_uniforms, .ref q_o_textures, .ref q_o_read, .ref q_o_result, .int o_killed, .ref q_o_left, .ref q_o_opening]))]) (wr := [(q_o_temporaries, .inl (cI, n_o_temporaries, .inl f_o_temporaries))]) (w1 := [(q_o, .inr (7, [.int w_27, .ref q_o_memory, .ref q_o_program, .ref q_o_fresh, .int o_hasProgram, .int o_fault, .int o_place, .int o_told, .ref q_o_temporaries, .ref q_o_ins, .ref q_o_outs, .ref q_o_uniforms, .ref q_o_textures, .ref q_o_read, .ref q_o_result, .int o_killed, .ref q_o_left, .ref q_o_opening]))]) (va_runV (As := [.int (1 : Int32)]) (rest := []) ⟨hx, hb, hml, hown, hts⟩ (k_Mo_refuse l dC dI cI cJ (1 : Int32) o_thrown o_hasProgram o_fault o_place o_told o_killed q_o q_o_memory q_o_program q_o_fresh q_o_temporaries q_o_ins q_o_outs q_o_uniforms q_o_textures q_o_read q_o_result q_o_left q_o_opening r_26 w_27 h_25 _) (cwV 1 hts (gw_V tw_791 tw_793 sw_394 tw_9 tw_794) rfl rfl rfl (by decide +kernel) ⟨Nat.le_of_ble_eq_true rfl, Nat.le_of_ble_eq_true rfl⟩) (ck_preV (wc := [(q_o, .inr (7, [.int o_thrown, .ref q_o_memory, .ref q_o_program, .ref q_o_fresh, .int o_hasProgram, .int o_fault, .int o_place, .int o_told, .ref q_o_temporaries, .ref q_o_ins, .ref q_o_outs, .ref q_o_uniforms, .ref q_o_textures, .ref q_o_read, .ref q_o_result, .int o_killed, .ref q_o_left, .ref q_o_opening]))]) hK hP hD hS hA hE 0 rfl rfl rfl [0] (by decide) rfl) rfl rfl hl.1 rfl (lv_room (Nat.le_of_ble_eq_true rfl)) d_Mo_temporary_25 ⟨Nat.le_of_ble_eq_true rfl, Nat.le_of_ble_eq_true rfl⟩) hP hD hS hA [0] [1] rfl rfl (by decide) (by decide) (fun H locs hP hD hS => ?_)
          have hP : va_P (dC, dI) vwCl [(q_o, .inr (7, [.int w_27, .ref q_o_memory, .ref q_o_program, .ref q_o_fresh, .int o_hasProgram, .int o_fault, .int o_place, .int o_told, .ref q_o_temporaries, .ref q_o_ins, .ref q_o_outs, .ref q_o_uniforms, .ref q_o_textures, .ref q_o_read, .ref q_o_result, .int o_killed, .ref q_o_left, .ref q_o_opening])), (q_o_temporaries, .inl (cI, n_o_temporaries, .inl f_o_temporaries))] H := hP.sub [1, 0] rfl
          have hD : va_D A [(q_o, .inr (7, [.int w_27, .ref q_o_memory, .ref q_o_program, .ref q_o_fresh, .int o_hasProgram, .int o_fault, .int o_place, .int o_told, .ref q_o_temporaries, .ref q_o_ins, .ref q_o_outs, .ref q_o_uniforms, .ref q_o_textures, .ref q_o_read, .ref q_o_result, .int o_killed, .ref q_o_left, .ref q_o_opening])), (q_o_temporaries, .inl (cI, n_o_temporaries, .inl f_o_temporaries))] := hD.sub [1, 0] (by decide) rfl
          refine lv_if_eq (tgt := 33) hx hb d_Mo_temporary_28 (by decide) (fun c_28 => ?_) (fun c_28 => ?_)
          · rw [if_pos c_28] at h
            refine lv_aload_n hx hb d_Mo_temporary_33 rfl (lv_at hl 0 rfl) ?_
            refine va_get (D := (dC, dI)) (ci := 7) (v := .ref q_o_temporaries) (C := R_Mo) (T := T_Mo) (N := 18) hx hb hts (iw_Mo _) hown hK hP 0 rfl rfl 8 (by decide) (hts (.fieldLink R_Mo 23 "ShaderMachineModel" "temporaries" "[I") (List.mem_cons_of_mem _ tw_736)) (fun _ h9 => h9) rfl d_Mo_temporary_34 ?_
            refine lv_iconst (v := 4) hx hb d_Mo_temporary_37 (by decide) ?_
            refine lv_iload_n hx hb d_Mo_temporary_38 rfl (lv_at hl 1 rfl) ?_
            refine lv_imul hx hb d_Mo_temporary_39 ?_
            refine lv_iload_n hx hb d_Mo_temporary_40 rfl (lv_at hl 2 rfl) ?_
            refine lv_iadd hx hb d_Mo_temporary_41 ?_
            obtain ⟨c_29, h⟩ := ch_ite h
            refine va_iald hx hb hK hP 1 0 rfl rfl (ch_in c_29) d_Mo_temporary_42 ?_
            cases h
            exact ck_iret hx hb hr hlk hK hP hD hS d_Mo_temporary_43
          · rw [if_neg c_28] at h
            refine lv_iconst (v := 0) hx hb d_Mo_temporary_31 (by decide) ?_
            cases h
            exact ck_iret hx hb hr hlk hK hP hD hS d_Mo_temporary_32
def pf_SM_fault (p1 : Int32) (o_check_fault : Int32) (o_check_place : Int32) : Option (Int32) :=
  if p1 = 0 then
    Option.bind (pf_Ch_found o_check_fault) (fun r_6 => 
    some r_6)
  else
    if p1 = (1 : Int32) then
      Option.bind (pf_Ch_place o_check_place) (fun r_4 => 
      some r_4)
    else
      some (-1 : Int32)
set_option maxHeartbeats 4000000 in
set_option maxRecDepth 100000 in
theorem k_SM_fault (l : Launch) (dC : Nat → ClassId) (dI : Nat → Nat → Nat) (cI cJ : ClassId) (p1 : Int32) (o_check_fault : Int32) (o_check_place : Int32) (o_check_steps : Int64) (q_o : Nat) (q_o_store : Nat) (q_o_check : Nat) (q_o_runner : Nat) (q_o_current : Nat) (q_o_spare : Nat) (q_o_check_loopOf : Nat) (q_o_check_loops : Nat) (r : Int32) (h : pf_SM_fault p1 o_check_fault o_check_place = some r) : ck_i l y_SM_fault wm_SM_fault ({ frames := 1, cells := 0, slots := 0, locals := 20 } : Room) [.ref q_o, .int p1] (dC, dI) [(cI, .int), (cJ, .long)] [(q_o, .inr (6, [.ref q_o_store, .ref q_o_check, .ref q_o_runner, .ref q_o_current, .ref q_o_spare])), (q_o_check, .inr (4, [.ref q_o_check_loopOf, .ref q_o_check_loops, .int o_check_fault, .int o_check_place, .long o_check_steps]))] r [(q_o, .inr (6, [.ref q_o_store, .ref q_o_check, .ref q_o_runner, .ref q_o_current, .ref q_o_spare])), (q_o_check, .inr (4, [.ref q_o_check_loopOf, .ref q_o_check_loops, .int o_check_fault, .int o_check_place, .long o_check_steps]))] := by
  refine ck_ofi (cc := c_SM_fault) (maxL := 2) (ret := (some .int)) (by decide +kernel) rfl ?_
  intro p e s m below meth c A C0 hK hP hD hS hE
  obtain ⟨hx, hb, hr, hml, hown, hts, hlk, hA, hin⟩ := C0
  unfold pf_SM_fault at h
  have hl := lv_entry ([.ref q_o, .int p1]) (n := 2) (Nat.le_of_ble_eq_true rfl)
  rw [lg_entry_eq]
  generalize (lg_sl ([.ref q_o, .int p1]) ++ List.replicate (2 - (lg_sl ([.ref q_o, .int p1])).length) Slot.unset).toArray = ls at hl ⊢
  have hl : lv_has ls 2 [(0, .ref q_o), (1, .int p1)] := hl
  refine lv_iload_n hx hb d_SM_fault_0 rfl (lv_at hl 1 rfl) ?_
  refine lv_if_ne (tgt := 12) hx hb d_SM_fault_1 (by decide) (fun c_1 => ?_) (fun c_1 => ?_)
  · rw [if_neg c_1] at h
    refine lv_iload_n hx hb d_SM_fault_12 rfl (lv_at hl 1 rfl) ?_
    refine lv_iconst (v := 1) hx hb d_SM_fault_13 (by decide) ?_
    refine lv_icmp_ne (tgt := 27) hx hb d_SM_fault_14 (by decide) (fun c_2 => ?_) (fun c_2 => ?_)
    · rw [if_neg c_2] at h
      refine lv_iconst (v := -1) hx hb d_SM_fault_27 (by decide) ?_
      cases h
      exact ck_iret hx hb hr hlk hK hP hD hS d_SM_fault_28
    · rw [if_pos c_2] at h
      refine lv_aload_n hx hb d_SM_fault_17 rfl (lv_at hl 0 rfl) ?_
      refine va_get (D := (dC, dI)) (ci := 6) (v := .ref q_o_check) (C := R_SM) (T := T_SM) (N := 5) hx hb hts (iw_SM _) hown hK hP 0 rfl rfl 1 (by decide) (hts (.fieldLink R_SM 19 "ShaderMachine" "check" "LShaderMachine$Check;") (List.mem_cons_of_mem _ tw_169)) (fun _ h9 => h9) rfl d_SM_fault_18 ?_
      obtain ⟨r_4, h_3, h⟩ := ch_bind h
      try dsimp only at h
      refine ck_goi (wc := [(q_o_check, .inr (4, [.ref q_o_check_loopOf, .ref q_o_check_loops, .int o_check_fault, .int o_check_place, .long o_check_steps]))]) (wr := [(q_o, .inr (6, [.ref q_o_store, .ref q_o_check, .ref q_o_runner, .ref q_o_current, .ref q_o_spare]))]) (w1 := [(q_o_check, .inr (4, [.ref q_o_check_loopOf, .ref q_o_check_loops, .int o_check_fault, .int o_check_place, .long o_check_steps]))]) (va_runV (As := []) (rest := []) ⟨hx, hb, hml, hown, hts⟩ (k_Ch_place l dC dI cI cJ o_check_fault o_check_place o_check_steps q_o_check q_o_check_loopOf q_o_check_loops r_4 h_3 _) (cwV 0 hts (gw_V tw_192 tw_193 tw_194 tw_5 tw_195) rfl rfl rfl (by decide +kernel) ⟨Nat.le_of_ble_eq_true rfl, Nat.le_of_ble_eq_true rfl⟩) (ck_preV (wc := [(q_o_check, .inr (4, [.ref q_o_check_loopOf, .ref q_o_check_loops, .int o_check_fault, .int o_check_place, .long o_check_steps]))]) hK hP hD hS hA hE 1 rfl rfl rfl [1] (by decide) rfl) rfl rfl hl.1 rfl (lv_room (Nat.le_of_ble_eq_true rfl)) d_SM_fault_21 ⟨Nat.le_of_ble_eq_true rfl, Nat.le_of_ble_eq_true rfl⟩) hP hD hS hA [1] [0] rfl rfl (by decide) (by decide) (fun H locs hP hD hS => ?_)
      have hP : va_P (dC, dI) vwCl [(q_o, .inr (6, [.ref q_o_store, .ref q_o_check, .ref q_o_runner, .ref q_o_current, .ref q_o_spare])), (q_o_check, .inr (4, [.ref q_o_check_loopOf, .ref q_o_check_loops, .int o_check_fault, .int o_check_place, .long o_check_steps]))] H := hP.sub [0, 1] rfl
      have hD : va_D A [(q_o, .inr (6, [.ref q_o_store, .ref q_o_check, .ref q_o_runner, .ref q_o_current, .ref q_o_spare])), (q_o_check, .inr (4, [.ref q_o_check_loopOf, .ref q_o_check_loops, .int o_check_fault, .int o_check_place, .long o_check_steps]))] := hD.sub [0, 1] (by decide) rfl
      refine lv_goto (tgt := 28) hx hb d_SM_fault_24 (by decide) ?_
      cases h
      exact ck_iret hx hb hr hlk hK hP hD hS d_SM_fault_28
  · rw [if_pos c_1] at h
    refine lv_aload_n hx hb d_SM_fault_4 rfl (lv_at hl 0 rfl) ?_
    refine va_get (D := (dC, dI)) (ci := 6) (v := .ref q_o_check) (C := R_SM) (T := T_SM) (N := 5) hx hb hts (iw_SM _) hown hK hP 0 rfl rfl 1 (by decide) (hts (.fieldLink R_SM 19 "ShaderMachine" "check" "LShaderMachine$Check;") (List.mem_cons_of_mem _ tw_169)) (fun _ h9 => h9) rfl d_SM_fault_5 ?_
    obtain ⟨r_6, h_5, h⟩ := ch_bind h
    try dsimp only at h
    refine ck_goi (wc := [(q_o_check, .inr (4, [.ref q_o_check_loopOf, .ref q_o_check_loops, .int o_check_fault, .int o_check_place, .long o_check_steps]))]) (wr := [(q_o, .inr (6, [.ref q_o_store, .ref q_o_check, .ref q_o_runner, .ref q_o_current, .ref q_o_spare]))]) (w1 := [(q_o_check, .inr (4, [.ref q_o_check_loopOf, .ref q_o_check_loops, .int o_check_fault, .int o_check_place, .long o_check_steps]))]) (va_runV (As := []) (rest := []) ⟨hx, hb, hml, hown, hts⟩ (k_Ch_found l dC dI cI cJ o_check_fault o_check_place o_check_steps q_o_check q_o_check_loopOf q_o_check_loops r_6 h_5 _) (cwV 0 hts (gw_V tw_188 tw_189 tw_190 tw_5 tw_191) rfl rfl rfl (by decide +kernel) ⟨Nat.le_of_ble_eq_true rfl, Nat.le_of_ble_eq_true rfl⟩) (ck_preV (wc := [(q_o_check, .inr (4, [.ref q_o_check_loopOf, .ref q_o_check_loops, .int o_check_fault, .int o_check_place, .long o_check_steps]))]) hK hP hD hS hA hE 1 rfl rfl rfl [1] (by decide) rfl) rfl rfl hl.1 rfl (lv_room (Nat.le_of_ble_eq_true rfl)) d_SM_fault_8 ⟨Nat.le_of_ble_eq_true rfl, Nat.le_of_ble_eq_true rfl⟩) hP hD hS hA [1] [0] rfl rfl (by decide) (by decide) (fun H locs hP hD hS => ?_)
    have hP : va_P (dC, dI) vwCl [(q_o, .inr (6, [.ref q_o_store, .ref q_o_check, .ref q_o_runner, .ref q_o_current, .ref q_o_spare])), (q_o_check, .inr (4, [.ref q_o_check_loopOf, .ref q_o_check_loops, .int o_check_fault, .int o_check_place, .long o_check_steps]))] H := hP.sub [0, 1] rfl
    have hD : va_D A [(q_o, .inr (6, [.ref q_o_store, .ref q_o_check, .ref q_o_runner, .ref q_o_current, .ref q_o_spare])), (q_o_check, .inr (4, [.ref q_o_check_loopOf, .ref q_o_check_loops, .int o_check_fault, .int o_check_place, .long o_check_steps]))] := hD.sub [0, 1] (by decide) rfl
    cases h
    exact ck_iret hx hb hr hlk hK hP hD hS d_SM_fault_11
def pf_SM_killed (o_runner_isKilled : Int32) : Option (Int32) :=
  Option.bind (pf_Ru_wasKilled o_runner_isKilled) (fun r_2 => 
  if r_2 = 0 ∨ r_2 = 1 then (
  some r_2) else none)
set_option maxHeartbeats 4000000 in
set_option maxRecDepth 100000 in
theorem k_SM_killed (l : Launch) (dC : Nat → ClassId) (dI : Nat → Nat → Nat) (cI cJ : ClassId) (o_runner_place : Int32) (o_runner_isKilled : Int32) (q_o : Nat) (q_o_store : Nat) (q_o_check : Nat) (q_o_runner : Nat) (q_o_current : Nat) (q_o_spare : Nat) (q_o_runner_a : Nat) (q_o_runner_b : Nat) (q_o_runner_c : Nat) (q_o_runner_result : Nat) (q_o_runner_loops : Nat) (r : Int32) (h : pf_SM_killed o_runner_isKilled = some r) : ck_i l y_SM_killed wm_SM_killed ({ frames := 1, cells := 0, slots := 0, locals := 20 } : Room) [.ref q_o] (dC, dI) [(cI, .int), (cJ, .long)] [(q_o, .inr (6, [.ref q_o_store, .ref q_o_check, .ref q_o_runner, .ref q_o_current, .ref q_o_spare])), (q_o_runner, .inr (5, [.ref q_o_store, .ref q_o_runner_a, .ref q_o_runner_b, .ref q_o_runner_c, .ref q_o_runner_result, .ref q_o_runner_loops, .int o_runner_place, .int o_runner_isKilled]))] r [(q_o, .inr (6, [.ref q_o_store, .ref q_o_check, .ref q_o_runner, .ref q_o_current, .ref q_o_spare])), (q_o_runner, .inr (5, [.ref q_o_store, .ref q_o_runner_a, .ref q_o_runner_b, .ref q_o_runner_c, .ref q_o_runner_result, .ref q_o_runner_loops, .int o_runner_place, .int o_runner_isKilled]))] := by
  refine ck_ofi (cc := c_SM_killed) (maxL := 1) (ret := (some .boolean)) (by decide +kernel) rfl ?_
  intro p e s m below meth c A C0 hK hP hD hS hE
  obtain ⟨hx, hb, hr, hml, hown, hts, hlk, hA, hin⟩ := C0
  unfold pf_SM_killed at h
  have hl := lv_entry ([.ref q_o]) (n := 1) (Nat.le_of_ble_eq_true rfl)
  rw [lg_entry_eq]
  generalize (lg_sl ([.ref q_o]) ++ List.replicate (1 - (lg_sl ([.ref q_o])).length) Slot.unset).toArray = ls at hl ⊢
  have hl : lv_has ls 1 [(0, .ref q_o)] := hl
  refine lv_aload_n hx hb d_SM_killed_0 rfl (lv_at hl 0 rfl) ?_
  refine va_get (D := (dC, dI)) (ci := 6) (v := .ref q_o_runner) (C := R_SM) (T := T_SM) (N := 5) hx hb hts (iw_SM _) hown hK hP 0 rfl rfl 2 (by decide) (hts (.fieldLink R_SM 28 "ShaderMachine" "runner" "LShaderMachine$Runner;") (List.mem_cons_of_mem _ tw_170)) (fun _ h9 => h9) rfl d_SM_killed_1 ?_
  obtain ⟨r_2, h_1, h⟩ := ch_bind h
  try dsimp only at h
  refine ck_goi (wc := [(q_o_runner, .inr (5, [.ref q_o_store, .ref q_o_runner_a, .ref q_o_runner_b, .ref q_o_runner_c, .ref q_o_runner_result, .ref q_o_runner_loops, .int o_runner_place, .int o_runner_isKilled]))]) (wr := [(q_o, .inr (6, [.ref q_o_store, .ref q_o_check, .ref q_o_runner, .ref q_o_current, .ref q_o_spare]))]) (w1 := [(q_o_runner, .inr (5, [.ref q_o_store, .ref q_o_runner_a, .ref q_o_runner_b, .ref q_o_runner_c, .ref q_o_runner_result, .ref q_o_runner_loops, .int o_runner_place, .int o_runner_isKilled]))]) (va_runV (As := []) (rest := []) ⟨hx, hb, hml, hown, hts⟩ (k_Ru_wasKilled l dC dI cI cJ o_runner_place o_runner_isKilled q_o_runner q_o_store q_o_runner_a q_o_runner_b q_o_runner_c q_o_runner_result q_o_runner_loops r_2 h_1 _) (cwV 0 hts (gw_V tw_200 tw_201 tw_202 tw_7 tw_203) rfl rfl rfl (by decide +kernel) ⟨Nat.le_of_ble_eq_true rfl, Nat.le_of_ble_eq_true rfl⟩) (ck_preV (wc := [(q_o_runner, .inr (5, [.ref q_o_store, .ref q_o_runner_a, .ref q_o_runner_b, .ref q_o_runner_c, .ref q_o_runner_result, .ref q_o_runner_loops, .int o_runner_place, .int o_runner_isKilled]))]) hK hP hD hS hA hE 1 rfl rfl rfl [1] (by decide) rfl) rfl rfl hl.1 rfl (lv_room (Nat.le_of_ble_eq_true rfl)) d_SM_killed_4 ⟨Nat.le_of_ble_eq_true rfl, Nat.le_of_ble_eq_true rfl⟩) hP hD hS hA [1] [0] rfl rfl (by decide) (by decide) (fun H locs hP hD hS => ?_)
  have hP : va_P (dC, dI) vwCl [(q_o, .inr (6, [.ref q_o_store, .ref q_o_check, .ref q_o_runner, .ref q_o_current, .ref q_o_spare])), (q_o_runner, .inr (5, [.ref q_o_store, .ref q_o_runner_a, .ref q_o_runner_b, .ref q_o_runner_c, .ref q_o_runner_result, .ref q_o_runner_loops, .int o_runner_place, .int o_runner_isKilled]))] H := hP.sub [0, 1] rfl
  have hD : va_D A [(q_o, .inr (6, [.ref q_o_store, .ref q_o_check, .ref q_o_runner, .ref q_o_current, .ref q_o_spare])), (q_o_runner, .inr (5, [.ref q_o_store, .ref q_o_runner_a, .ref q_o_runner_b, .ref q_o_runner_c, .ref q_o_runner_result, .ref q_o_runner_loops, .int o_runner_place, .int o_runner_isKilled]))] := hD.sub [0, 1] (by decide) rfl
  obtain ⟨c_3, h⟩ := ch_ite h
  cases h
  exact ck_zret hx hb hr (ch_bool c_3) hlk hK hP hD hS d_SM_killed_7
def pf_SM_poke (p1 : Int32) (p2 : Int32) (n_o_store_memory : Nat) (f_o_store_memory : Nat → Int32) : Option (Nat × (Nat → Int32)) :=
  Option.bind (pf_St_hasWord p1) (fun r_2 => 
  if r_2 = 0 then
    some (1, f_o_store_memory)
  else
    Option.bind (pf_St_setWord p1 p2 n_o_store_memory f_o_store_memory) (fun w_5 => 
    some (0, w_5)))
set_option maxHeartbeats 4000000 in
set_option maxRecDepth 100000 in
theorem k_SM_poke (l : Launch) (hst : l.stackTraces = false) (dC : Nat → ClassId) (dI : Nat → Nat → Nat) (cI cJ : ClassId) (p1 : Int32) (p2 : Int32) (n_o_store_memory : Nat) (f_o_store_memory : Nat → Int32) (q_o : Nat) (q_o_store : Nat) (q_o_check : Nat) (q_o_runner : Nat) (q_o_current : Nat) (q_o_spare : Nat) (q_o_store_memory : Nat) (q_o_store_temporaries : Nat) (q_o_store_ins : Nat) (q_o_store_outs : Nat) (q_o_store_uniforms : Nat) (q_o_store_textures : Nat) (q_o_store_nothing : Nat) (k : Nat) (o_f_o_store_memory : Nat → Int32) (h : pf_SM_poke p1 p2 n_o_store_memory f_o_store_memory = some (k, o_f_o_store_memory)) : cx_v l y_SM_poke wm_SM_poke ({ frames := 6, cells := 1, slots := 6, locals := 82 } : Room) [.ref q_o, .int p1, .int p2] (dC, dI) [(cI, .int), (cJ, .long)] [(q_o, .inr (6, [.ref q_o_store, .ref q_o_check, .ref q_o_runner, .ref q_o_current, .ref q_o_spare])), (q_o_store, .inr (1, [.ref q_o_store_memory, .ref q_o_store_temporaries, .ref q_o_store_ins, .ref q_o_store_outs, .ref q_o_store_uniforms, .ref q_o_store_textures, .ref q_o_store_nothing])), (q_o_store_memory, .inl (cI, n_o_store_memory, .inl f_o_store_memory))] k [(q_o, .inr (6, [.ref q_o_store, .ref q_o_check, .ref q_o_runner, .ref q_o_current, .ref q_o_spare])), (q_o_store, .inr (1, [.ref q_o_store_memory, .ref q_o_store_temporaries, .ref q_o_store_ins, .ref q_o_store_outs, .ref q_o_store_uniforms, .ref q_o_store_textures, .ref q_o_store_nothing])), (q_o_store_memory, .inl (cI, n_o_store_memory, .inl o_f_o_store_memory))] := by
  refine cx_ofv (cc := c_SM_poke) (maxL := 3) (ret := none) (by decide +kernel) rfl ?_
  intro p e s m below meth c A C0 hK hP hD hS hE hX hxt
  obtain ⟨hx, hb, hr, hml, hown, hts, hlk, hA, hin⟩ := C0
  unfold pf_SM_poke at h
  have hl := lv_entry ([.ref q_o, .int p1, .int p2]) (n := 3) (Nat.le_of_ble_eq_true rfl)
  rw [lg_entry_eq]
  generalize (lg_sl ([.ref q_o, .int p1, .int p2]) ++ List.replicate (3 - (lg_sl ([.ref q_o, .int p1, .int p2])).length) Slot.unset).toArray = ls at hl ⊢
  have hl : lv_has ls 3 [(0, .ref q_o), (1, .int p1), (2, .int p2)] := hl
  refine lv_aload_n hx hb d_SM_poke_0 rfl (lv_at hl 0 rfl) ?_
  refine va_get (D := (dC, dI)) (ci := 6) (v := .ref q_o_store) (C := R_SM) (T := T_SM) (N := 5) hx hb hts (iw_SM _) hown hK hP 0 rfl rfl 0 (by decide) (hts (.fieldLink R_SM 10 "ShaderMachine" "store" "LShaderMachine$Store;") (List.mem_cons_of_mem _ tw_168)) (fun _ h9 => h9) rfl d_SM_poke_1 ?_
  refine lv_iload_n hx hb d_SM_poke_4 rfl (lv_at hl 1 rfl) ?_
  obtain ⟨r_2, h_1, h⟩ := ch_bind h
  try dsimp only at h
  refine ck_goi (wc := []) (wr := [(q_o, .inr (6, [.ref q_o_store, .ref q_o_check, .ref q_o_runner, .ref q_o_current, .ref q_o_spare])), (q_o_store, .inr (1, [.ref q_o_store_memory, .ref q_o_store_temporaries, .ref q_o_store_ins, .ref q_o_store_outs, .ref q_o_store_uniforms, .ref q_o_store_textures, .ref q_o_store_nothing])), (q_o_store_memory, .inl (cI, n_o_store_memory, .inl f_o_store_memory))]) (w1 := []) (va_runV (As := [.int p1]) (rest := []) ⟨hx, hb, hml, hown, hts⟩ (k_St_hasWord l dC dI cI cJ p1 q_o_store r_2 h_1 _) (cwV 1 hts (gw_V tw_212 tw_213 tw_214 tw_2 tw_215) rfl rfl rfl (by decide +kernel) ⟨Nat.le_of_ble_eq_true rfl, Nat.le_of_ble_eq_true rfl⟩) (ck_preV (wc := []) hK hP hD hS hA hE 1 rfl rfl rfl [] (by decide) rfl) rfl rfl hl.1 rfl (lv_room (Nat.le_of_ble_eq_true rfl)) d_SM_poke_5 ⟨Nat.le_of_ble_eq_true rfl, Nat.le_of_ble_eq_true rfl⟩) hP hD hS hA [] [0, 1, 2] rfl rfl (by decide) (by decide) (fun H locs hP hD hS => ?_)
  have hP : va_P (dC, dI) vwCl [(q_o, .inr (6, [.ref q_o_store, .ref q_o_check, .ref q_o_runner, .ref q_o_current, .ref q_o_spare])), (q_o_store, .inr (1, [.ref q_o_store_memory, .ref q_o_store_temporaries, .ref q_o_store_ins, .ref q_o_store_outs, .ref q_o_store_uniforms, .ref q_o_store_textures, .ref q_o_store_nothing])), (q_o_store_memory, .inl (cI, n_o_store_memory, .inl f_o_store_memory))] H := hP.sub [0, 1, 2] rfl
  have hD : va_D A [(q_o, .inr (6, [.ref q_o_store, .ref q_o_check, .ref q_o_runner, .ref q_o_current, .ref q_o_spare])), (q_o_store, .inr (1, [.ref q_o_store_memory, .ref q_o_store_temporaries, .ref q_o_store_ins, .ref q_o_store_outs, .ref q_o_store_uniforms, .ref q_o_store_textures, .ref q_o_store_nothing])), (q_o_store_memory, .inl (cI, n_o_store_memory, .inl f_o_store_memory))] := hD.sub [0, 1, 2] (by decide) rfl
  refine lv_if_ne (tgt := 21) hx hb d_SM_poke_8 (by decide) (fun c_3 => ?_) (fun c_3 => ?_)
  · rw [if_neg c_3] at h
    refine lv_aload_n hx hb d_SM_poke_21 rfl (lv_at hl 0 rfl) ?_
    refine va_get (D := (dC, dI)) (ci := 6) (v := .ref q_o_store) (C := R_SM) (T := T_SM) (N := 5) hx hb hts (iw_SM _) hown hK hP 0 rfl rfl 0 (by decide) (hts (.fieldLink R_SM 10 "ShaderMachine" "store" "LShaderMachine$Store;") (List.mem_cons_of_mem _ tw_168)) (fun _ h9 => h9) rfl d_SM_poke_22 ?_
    refine lv_iload_n hx hb d_SM_poke_25 rfl (lv_at hl 1 rfl) ?_
    refine lv_iload_n hx hb d_SM_poke_26 rfl (lv_at hl 2 rfl) ?_
    obtain ⟨w_5, h_4, h⟩ := ch_bind h
    try dsimp only at h
    refine ck_gov (wc := [(q_o_store, .inr (1, [.ref q_o_store_memory, .ref q_o_store_temporaries, .ref q_o_store_ins, .ref q_o_store_outs, .ref q_o_store_uniforms, .ref q_o_store_textures, .ref q_o_store_nothing])), (q_o_store_memory, .inl (cI, n_o_store_memory, .inl f_o_store_memory))]) (wr := [(q_o, .inr (6, [.ref q_o_store, .ref q_o_check, .ref q_o_runner, .ref q_o_current, .ref q_o_spare]))]) (w1 := [(q_o_store, .inr (1, [.ref q_o_store_memory, .ref q_o_store_temporaries, .ref q_o_store_ins, .ref q_o_store_outs, .ref q_o_store_uniforms, .ref q_o_store_textures, .ref q_o_store_nothing])), (q_o_store_memory, .inl (cI, n_o_store_memory, .inl w_5))]) (va_runV (As := [.int p1, .int p2]) (rest := []) ⟨hx, hb, hml, hown, hts⟩ (k_St_setWord l dC dI cI cJ p1 p2 n_o_store_memory f_o_store_memory q_o_store q_o_store_memory q_o_store_temporaries q_o_store_ins q_o_store_outs q_o_store_uniforms q_o_store_textures q_o_store_nothing w_5 h_4 _) (cwV 2 hts (gw_V tw_284 tw_285 tw_286 tw_2 tw_287) rfl rfl rfl (by decide +kernel) ⟨Nat.le_of_ble_eq_true rfl, Nat.le_of_ble_eq_true rfl⟩) (ck_preV (wc := [(q_o_store, .inr (1, [.ref q_o_store_memory, .ref q_o_store_temporaries, .ref q_o_store_ins, .ref q_o_store_outs, .ref q_o_store_uniforms, .ref q_o_store_textures, .ref q_o_store_nothing])), (q_o_store_memory, .inl (cI, n_o_store_memory, .inl f_o_store_memory))]) hK hP hD hS hA hE 1 rfl rfl rfl [1, 2] (by decide) rfl) rfl rfl hl.1 rfl (lv_room (Nat.le_of_ble_eq_true rfl)) d_SM_poke_27 ⟨Nat.le_of_ble_eq_true rfl, Nat.le_of_ble_eq_true rfl⟩) hP hD hS hA [1, 2] [0] rfl rfl (by decide) (by decide) (fun H locs hP hD hS => ?_)
    have hP : va_P (dC, dI) vwCl [(q_o, .inr (6, [.ref q_o_store, .ref q_o_check, .ref q_o_runner, .ref q_o_current, .ref q_o_spare])), (q_o_store, .inr (1, [.ref q_o_store_memory, .ref q_o_store_temporaries, .ref q_o_store_ins, .ref q_o_store_outs, .ref q_o_store_uniforms, .ref q_o_store_textures, .ref q_o_store_nothing])), (q_o_store_memory, .inl (cI, n_o_store_memory, .inl w_5))] H := hP.sub [0, 1, 2] rfl
    have hD : va_D A [(q_o, .inr (6, [.ref q_o_store, .ref q_o_check, .ref q_o_runner, .ref q_o_current, .ref q_o_spare])), (q_o_store, .inr (1, [.ref q_o_store_memory, .ref q_o_store_temporaries, .ref q_o_store_ins, .ref q_o_store_outs, .ref q_o_store_uniforms, .ref q_o_store_textures, .ref q_o_store_nothing])), (q_o_store_memory, .inl (cI, n_o_store_memory, .inl w_5))] := hD.sub [0, 1, 2] (by decide) rfl
    cases h
    exact cx_vret hx hb hr hlk rfl (by decide) (by decide) hK hP hD hS d_SM_poke_30
  · rw [if_pos c_3] at h
    cases h
    exact cx_throw (X := xi_) (k := 1) hx hb hst hown hts (fun w h9 => List.mem_cons_of_mem _ h9) hX (by decide) (Or.inl ⟨rfl, rfl⟩) (by decide +kernel) tw_216 tw_13 (List.mem_of_getElem? (l := stl) (i := 0) rfl) xg_50 xb_50 xo_50 (hml.trans hl.1.symm) hK hP hD hS hlk hxt d_SM_poke_11 d_SM_poke_14 d_SM_poke_15 d_SM_poke_17 d_SM_poke_20 (by decide) (Nat.le_of_ble_eq_true rfl) (by decide) (by decide)
