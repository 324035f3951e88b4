def pf_Mo_part (fu : Nat) (p1 : Int32) (p2 : Int32) (o_told : Int32) (n_o_read : Nat) (f_o_read : Nat → Int32) (n_o_textures : Nat) (f_o_textures : Nat → Int32) (n_o_uniforms : Nat) (f_o_uniforms : Nat → Int32) (n_o_memory : Nat) (f_o_memory : Nat → Int32) : Option (Int32) :=
  if (0 : Int32) ≤ p2 ∧ p2.toNatClampNeg < n_o_read then (
  if (0 : Int32) ≤ ((4 : Int32) + p2) ∧ ((4 : Int32) + p2).toNatClampNeg < n_o_read then (
  if (0 : Int32) ≤ ((8 : Int32) + p2) ∧ ((8 : Int32) + p2).toNatClampNeg < n_o_read then (
  if (0 : Int32) ≤ (0 : Int32) ∧ (0 : Int32).toNatClampNeg < n_o_read then (
  if p1 < 1 ∨ 21 < p1 then
    Option.bind (pf_Mo_more p1 p2 o_told n_o_read f_o_read n_o_textures f_o_textures n_o_uniforms f_o_uniforms n_o_memory f_o_memory) (fun r_7 => 
    some r_7)
  else
  if p1 = 1 then
    some (f_o_read p2.toNatClampNeg)
  else
  if p1 = 2 then
    some ((f_o_read p2.toNatClampNeg) + (f_o_read ((4 : Int32) + p2).toNatClampNeg))
  else
  if p1 = 3 then
    some ((f_o_read p2.toNatClampNeg) - (f_o_read ((4 : Int32) + p2).toNatClampNeg))
  else
  if p1 = 4 then
    Option.bind (pf_Mo_product (f_o_read p2.toNatClampNeg) (f_o_read ((4 : Int32) + p2).toNatClampNeg)) (fun r_13 => 
    some r_13)
  else
  if p1 = 5 then
    Option.bind (pf_Mo_product (f_o_read p2.toNatClampNeg) (f_o_read ((4 : Int32) + p2).toNatClampNeg)) (fun r_16 => 
    some (r_16 + (f_o_read ((8 : Int32) + p2).toNatClampNeg)))
  else
  if p1 = 6 then
    if (0 : Int32) ≤ (4 : Int32) ∧ (4 : Int32).toNatClampNeg < n_o_read then (
    Option.bind (pf_Mo_product (f_o_read (0 : Int32).toNatClampNeg) (f_o_read (4 : Int32).toNatClampNeg)) (fun r_20 => 
    if (0 : Int32) ≤ (1 : Int32) ∧ (1 : Int32).toNatClampNeg < n_o_read then (
    if (0 : Int32) ≤ (5 : Int32) ∧ (5 : Int32).toNatClampNeg < n_o_read then (
    Option.bind (pf_Mo_product (f_o_read (1 : Int32).toNatClampNeg) (f_o_read (5 : Int32).toNatClampNeg)) (fun r_24 => 
    if (0 : Int32) ≤ (2 : Int32) ∧ (2 : Int32).toNatClampNeg < n_o_read then (
    if (0 : Int32) ≤ (6 : Int32) ∧ (6 : Int32).toNatClampNeg < n_o_read then (
    Option.bind (pf_Mo_product (f_o_read (2 : Int32).toNatClampNeg) (f_o_read (6 : Int32).toNatClampNeg)) (fun r_28 => 
    some ((r_20 + r_24) + r_28))) else none) else none)) else none) else none)) else none
  else
  if p1 = 7 then
    if (0 : Int32) ≤ (4 : Int32) ∧ (4 : Int32).toNatClampNeg < n_o_read then (
    Option.bind (pf_Mo_product (f_o_read (0 : Int32).toNatClampNeg) (f_o_read (4 : Int32).toNatClampNeg)) (fun r_32 => 
    if (0 : Int32) ≤ (1 : Int32) ∧ (1 : Int32).toNatClampNeg < n_o_read then (
    if (0 : Int32) ≤ (5 : Int32) ∧ (5 : Int32).toNatClampNeg < n_o_read then (
    Option.bind (pf_Mo_product (f_o_read (1 : Int32).toNatClampNeg) (f_o_read (5 : Int32).toNatClampNeg)) (fun r_36 => 
    if (0 : Int32) ≤ (2 : Int32) ∧ (2 : Int32).toNatClampNeg < n_o_read then (
    if (0 : Int32) ≤ (6 : Int32) ∧ (6 : Int32).toNatClampNeg < n_o_read then (
    Option.bind (pf_Mo_product (f_o_read (2 : Int32).toNatClampNeg) (f_o_read (6 : Int32).toNatClampNeg)) (fun r_40 => 
    if (0 : Int32) ≤ (3 : Int32) ∧ (3 : Int32).toNatClampNeg < n_o_read then (
    if (0 : Int32) ≤ (7 : Int32) ∧ (7 : Int32).toNatClampNeg < n_o_read then (
    Option.bind (pf_Mo_product (f_o_read (3 : Int32).toNatClampNeg) (f_o_read (7 : Int32).toNatClampNeg)) (fun r_44 => 
    some (((r_32 + r_36) + r_40) + r_44))) else none) else none)) else none) else none)) else none) else none)) else none
  else
  if p1 = 8 then
    if (f_o_read ((4 : Int32) + p2).toNatClampNeg) ≤ (f_o_read p2.toNatClampNeg) then
      some (f_o_read ((4 : Int32) + p2).toNatClampNeg)
    else
      some (f_o_read p2.toNatClampNeg)
  else
  if p1 = 9 then
    if (f_o_read p2.toNatClampNeg) ≤ (f_o_read ((4 : Int32) + p2).toNatClampNeg) then
      some (f_o_read ((4 : Int32) + p2).toNatClampNeg)
    else
      some (f_o_read p2.toNatClampNeg)
  else
  if p1 = 10 then
    if (f_o_read p2.toNatClampNeg) = (-2147483648 : Int32) then
      some (2147483647 : Int32)
    else
      if 0 ≤ (f_o_read p2.toNatClampNeg) then
        some (f_o_read p2.toNatClampNeg)
      else
        some (-(f_o_read p2.toNatClampNeg))
  else
  if p1 = 11 then
    some ((f_o_read p2.toNatClampNeg) &&& (-65536 : Int32))
  else
  if p1 = 12 then
    some ((f_o_read p2.toNatClampNeg) &&& (65535 : Int32))
  else
  if p1 = 13 then
    Option.bind (pf_Mo_oneBy (f_o_read (0 : Int32).toNatClampNeg)) (fun r_56 => 
    some r_56)
  else
  if p1 = 14 then
    if 0 < (f_o_read (0 : Int32).toNatClampNeg) then
      if ¬ ((f_o_read (0 : Int32).toNatClampNeg).toInt64) = 0 then (
      Option.bind (pf_Mo_greatest fu ((281474976710656 : Int64) / ((f_o_read (0 : Int32).toNatClampNeg).toInt64))) (fun r_61 => 
      some r_61)) else none
    else
      some (2147483647 : Int32)
  else
  if p1 = 15 then
    if 0 ≤ (f_o_read (0 : Int32).toNatClampNeg) then
      Option.bind (pf_Mo_greatest fu ((65536 : Int64) * ((f_o_read (0 : Int32).toNatClampNeg).toInt64))) (fun r_65 => 
      some r_65)
    else
      some (0 : Int32)
  else
  if p1 = 16 then
    if (f_o_read ((4 : Int32) + p2).toNatClampNeg) ≤ (f_o_read p2.toNatClampNeg) then
      some (0 : Int32)
    else
      some (65536 : Int32)
  else
  if p1 = 17 then
    if (f_o_read ((4 : Int32) + p2).toNatClampNeg) ≤ (f_o_read p2.toNatClampNeg) then
      some (65536 : Int32)
    else
      some (0 : Int32)
  else
  if p1 = 18 then
    if (f_o_read p2.toNatClampNeg) = (f_o_read ((4 : Int32) + p2).toNatClampNeg) then
      some (65536 : Int32)
    else
      some (0 : Int32)
  else
  if p1 = 19 then
    if (f_o_read p2.toNatClampNeg) = (f_o_read ((4 : Int32) + p2).toNatClampNeg) then
      some (0 : Int32)
    else
      some (65536 : Int32)
  else
  if p1 = 20 then
    if (f_o_read p2.toNatClampNeg) < 0 then
      some (f_o_read ((8 : Int32) + p2).toNatClampNeg)
    else
      some (f_o_read ((4 : Int32) + p2).toNatClampNeg)
  else
  if p1 = 21 then
    Option.bind (pf_Mo_product (f_o_read p2.toNatClampNeg) ((f_o_read ((4 : Int32) + p2).toNatClampNeg) - (f_o_read ((8 : Int32) + p2).toNatClampNeg))) (fun r_78 => 
    some (r_78 + (f_o_read ((8 : Int32) + p2).toNatClampNeg)))
  else
    none) else none) else none) else none) else none
set_option maxHeartbeats 4000000 in
set_option maxRecDepth 100000 in
theorem k_Mo_part (l : Launch) (dC : Nat → ClassId) (dI : Nat → Nat → Nat) (cI cJ : ClassId) (fu : Nat) (p1 : Int32) (p2 : Int32) (o_thrown : Int32) (o_hasProgram : Int32) (o_fault : Int32) (o_place : Int32) (o_told : Int32) (o_killed : Int32) (n_o_read : Nat) (f_o_read : Nat → Int32) (n_o_textures : Nat) (f_o_textures : Nat → Int32) (n_o_uniforms : Nat) (f_o_uniforms : Nat → Int32) (n_o_memory : Nat) (f_o_memory : Nat → Int32) (q_o : Nat) (q_o_memory : Nat) (q_o_program : Nat) (q_o_fresh : Nat) (q_o_temporaries : Nat) (q_o_ins : Nat) (q_o_outs : Nat) (q_o_uniforms : Nat) (q_o_textures : Nat) (q_o_read : Nat) (q_o_result : Nat) (q_o_left : Nat) (q_o_opening : Nat) (r : Int32) (h : pf_Mo_part fu p1 p2 o_told n_o_read f_o_read n_o_textures f_o_textures n_o_uniforms f_o_uniforms n_o_memory f_o_memory = some r) : ck_i l y_Mo_part wm_Mo_part ({ frames := 2, cells := 0, slots := 0, locals := 48 } : Room) [.ref q_o, .int p1, .int p2] (dC, dI) [(cI, .int), (cJ, .long)] [(q_o, .inr (7, [.int o_thrown, .ref q_o_memory, .ref q_o_program, .ref q_o_fresh, .int o_hasProgram, .int o_fault, .int o_place, .int o_told, .ref q_o_temporaries, .ref q_o_ins, .ref q_o_outs, .ref q_o_uniforms, .ref q_o_textures, .ref q_o_read, .ref q_o_result, .int o_killed, .ref q_o_left, .ref q_o_opening])), (q_o_read, .inl (cI, n_o_read, .inl f_o_read)), (q_o_textures, .inl (cI, n_o_textures, .inl f_o_textures)), (q_o_uniforms, .inl (cI, n_o_uniforms, .inl f_o_uniforms)), (q_o_memory, .inl (cI, n_o_memory, .inl f_o_memory))] r [(q_o, .inr (7, [.int o_thrown, .ref q_o_memory, .ref q_o_program, .ref q_o_fresh, .int o_hasProgram, .int o_fault, .int o_place, .int o_told, .ref q_o_temporaries, .ref q_o_ins, .ref q_o_outs, .ref q_o_uniforms, .ref q_o_textures, .ref q_o_read, .ref q_o_result, .int o_killed, .ref q_o_left, .ref q_o_opening])), (q_o_read, .inl (cI, n_o_read, .inl f_o_read)), (q_o_textures, .inl (cI, n_o_textures, .inl f_o_textures)), (q_o_uniforms, .inl (cI, n_o_uniforms, .inl f_o_uniforms)), (q_o_memory, .inl (cI, n_o_memory, .inl f_o_memory))] := by
  refine ck_ofi (cc := c_Mo_part) (maxL := 7) (ret := (some .int)) (by decide +kernel) rfl ?_
  intro p e s m below meth c A C0 hK hP hD hS hE
  obtain ⟨hx, hb, hr, hml, hown, hts, hlk, hA, hin⟩ := C0
  unfold pf_Mo_part at h
  have hl := lv_entry ([.ref q_o, .int p1, .int p2]) (n := 7) (Nat.le_of_ble_eq_true rfl)
  rw [lg_entry_eq]
  generalize (lg_sl ([.ref q_o, .int p1, .int p2]) ++ List.replicate (7 - (lg_sl ([.ref q_o, .int p1, .int p2])).length) Slot.unset).toArray = ls at hl ⊢
  have hl : lv_has ls 7 [(0, .ref q_o), (1, .int p1), (2, .int p2)] := hl
  refine lv_aload_n hx hb d_Mo_part_0 rfl (lv_at hl 0 rfl) ?_
  refine va_get (D := (dC, dI)) (ci := 7) (v := .ref q_o_read) (C := R_Mo) (T := T_Mo) (N := 18) hx hb hts (iw_Mo _) hown hK hP 0 rfl rfl 13 (by decide) (hts (.fieldLink R_Mo 38 "ShaderMachineModel" "read" "[I") (List.mem_cons_of_mem _ tw_741)) (fun _ h9 => h9) rfl d_Mo_part_1 ?_
  refine lv_iload_n hx hb d_Mo_part_4 rfl (lv_at hl 2 rfl) ?_
  obtain ⟨c_1, h⟩ := ch_ite h
  refine va_iald hx hb hK hP 1 0 rfl rfl (ch_in c_1) d_Mo_part_5 ?_
  refine lv_istore_n (lv' := [(3, .int (f_o_read p2.toNatClampNeg)), (0, .ref q_o), (1, .int p1), (2, .int p2)]) hx hb d_Mo_part_6 rfl hl (by decide) rfl (fun ls hl => ?_)
  refine lv_aload_n hx hb d_Mo_part_7 rfl (lv_at hl 1 rfl) ?_
  refine va_get (D := (dC, dI)) (ci := 7) (v := .ref q_o_read) (C := R_Mo) (T := T_Mo) (N := 18) hx hb hts (iw_Mo _) hown hK hP 0 rfl rfl 13 (by decide) (hts (.fieldLink R_Mo 38 "ShaderMachineModel" "read" "[I") (List.mem_cons_of_mem _ tw_741)) (fun _ h9 => h9) rfl d_Mo_part_8 ?_
  refine lv_iconst (v := 4) hx hb d_Mo_part_11 (by decide) ?_
  refine lv_iload_n hx hb d_Mo_part_12 rfl (lv_at hl 3 rfl) ?_
  refine lv_iadd hx hb d_Mo_part_13 ?_
  obtain ⟨c_2, h⟩ := ch_ite h
  refine va_iald hx hb hK hP 1 0 rfl rfl (ch_in c_2) d_Mo_part_14 ?_
  refine lv_istore (lv' := [(4, .int (f_o_read ((4 : Int32) + p2).toNatClampNeg)), (3, .int (f_o_read p2.toNatClampNeg)), (0, .ref q_o), (1, .int p1), (2, .int p2)]) hx hb d_Mo_part_15 hl (by decide) rfl (fun ls hl => ?_)
  refine lv_aload_n hx hb d_Mo_part_17 rfl (lv_at hl 2 rfl) ?_
  refine va_get (D := (dC, dI)) (ci := 7) (v := .ref q_o_read) (C := R_Mo) (T := T_Mo) (N := 18) hx hb hts (iw_Mo _) hown hK hP 0 rfl rfl 13 (by decide) (hts (.fieldLink R_Mo 38 "ShaderMachineModel" "read" "[I") (List.mem_cons_of_mem _ tw_741)) (fun _ h9 => h9) rfl d_Mo_part_18 ?_
  refine lv_bipush (v := 8) hx hb d_Mo_part_21 (by decide) ?_
  refine lv_iload_n hx hb d_Mo_part_23 rfl (lv_at hl 4 rfl) ?_
  refine lv_iadd hx hb d_Mo_part_24 ?_
  obtain ⟨c_3, h⟩ := ch_ite h
  refine va_iald hx hb hK hP 1 0 rfl rfl (ch_in c_3) d_Mo_part_25 ?_
  refine lv_istore (lv' := [(5, .int (f_o_read ((8 : Int32) + p2).toNatClampNeg)), (4, .int (f_o_read ((4 : Int32) + p2).toNatClampNeg)), (3, .int (f_o_read p2.toNatClampNeg)), (0, .ref q_o), (1, .int p1), (2, .int p2)]) hx hb d_Mo_part_26 hl (by decide) rfl (fun ls hl => ?_)
  refine lv_aload_n hx hb d_Mo_part_28 rfl (lv_at hl 3 rfl) ?_
  refine va_get (D := (dC, dI)) (ci := 7) (v := .ref q_o_read) (C := R_Mo) (T := T_Mo) (N := 18) hx hb hts (iw_Mo _) hown hK hP 0 rfl rfl 13 (by decide) (hts (.fieldLink R_Mo 38 "ShaderMachineModel" "read" "[I") (List.mem_cons_of_mem _ tw_741)) (fun _ h9 => h9) rfl d_Mo_part_29 ?_
  refine lv_iconst (v := 0) hx hb d_Mo_part_32 (by decide) ?_
  obtain ⟨c_4, h⟩ := ch_ite h
  refine va_iald hx hb hK hP 1 0 rfl rfl (ch_in c_4) d_Mo_part_33 ?_
  refine lv_istore (lv' := [(6, .int (f_o_read (0 : Int32).toNatClampNeg)), (5, .int (f_o_read ((8 : Int32) + p2).toNatClampNeg)), (4, .int (f_o_read ((4 : Int32) + p2).toNatClampNeg)), (3, .int (f_o_read p2.toNatClampNeg)), (0, .ref q_o), (1, .int p1), (2, .int p2)]) hx hb d_Mo_part_34 hl (by decide) rfl (fun ls hl => ?_)
  refine lv_iload_n hx hb d_Mo_part_36 rfl (lv_at hl 5 rfl) ?_
  by_cases c_5 : p1 < 1 ∨ 21 < p1
  · rw [if_pos c_5] at h
    refine lv_tableOut (tgt := 462) hx hb d_Mo_part_37 (ch_out c_5 (by decide) (by decide)) (by decide) ?_
    refine lv_aload_n hx hb d_Mo_part_462 rfl (lv_at hl 4 rfl) ?_
    refine lv_iload_n hx hb d_Mo_part_463 rfl (lv_at hl 5 rfl) ?_
    refine lv_iload_n hx hb d_Mo_part_464 rfl (lv_at hl 6 rfl) ?_
    obtain ⟨r_7, h_6, h⟩ := ch_bind h
    try dsimp only at h
    refine ck_goi (wc := [(q_o, .inr (7, [.int o_thrown, .ref q_o_memory, .ref q_o_program, .ref q_o_fresh, .int o_hasProgram, .int o_fault, .int o_place, .int o_told, .ref q_o_temporaries, .ref q_o_ins, .ref q_o_outs, .ref q_o_uniforms, .ref q_o_textures, .ref q_o_read, .ref q_o_result, .int o_killed, .ref q_o_left, .ref q_o_opening])), (q_o_read, .inl (cI, n_o_read, .inl f_o_read)), (q_o_textures, .inl (cI, n_o_textures, .inl f_o_textures)), (q_o_uniforms, .inl (cI, n_o_uniforms, .inl f_o_uniforms)), (q_o_memory, .inl (cI, n_o_memory, .inl f_o_memory))]) (wr := []) (w1 := [(q_o, .inr (7, [.int o_thrown, .ref q_o_memory, .ref q_o_program, .ref q_o_fresh, .int o_hasProgram, .int o_fault, .int o_place, .int o_told, .ref q_o_temporaries, .ref q_o_ins, .ref q_o_outs, .ref q_o_uniforms, .ref q_o_textures, .ref q_o_read, .ref q_o_result, .int o_killed, .ref q_o_left, .ref q_o_opening])), (q_o_read, .inl (cI, n_o_read, .inl f_o_read)), (q_o_textures, .inl (cI, n_o_textures, .inl f_o_textures)), (q_o_uniforms, .inl (cI, n_o_uniforms, .inl f_o_uniforms)), (q_o_memory, .inl (cI, n_o_memory, .inl f_o_memory))]) (va_runV (As := [.int p1, .int p2]) (rest := []) ⟨hx, hb, hml, hown, hts⟩ (k_Mo_more l dC dI cI cJ p1 p2 o_thrown o_hasProgram o_fault o_place o_told o_killed n_o_read f_o_read n_o_textures f_o_textures n_o_uniforms f_o_uniforms n_o_memory f_o_memory q_o q_o_memory q_o_program q_o_fresh q_o_temporaries q_o_ins q_o_outs q_o_uniforms q_o_textures q_o_read q_o_result q_o_left q_o_opening r_7 h_6 _) (cwV 2 hts (gw_V tw_905 tw_907 sw_424 tw_9 tw_908) rfl rfl rfl (by decide +kernel) ⟨Nat.le_of_ble_eq_true rfl, Nat.le_of_ble_eq_true rfl⟩) (ck_preV (wc := [(q_o, .inr (7, [.int o_thrown, .ref q_o_memory, .ref q_o_program, .ref q_o_fresh, .int o_hasProgram, .int o_fault, .int o_place, .int o_told, .ref q_o_temporaries, .ref q_o_ins, .ref q_o_outs, .ref q_o_uniforms, .ref q_o_textures, .ref q_o_read, .ref q_o_result, .int o_killed, .ref q_o_left, .ref q_o_opening])), (q_o_read, .inl (cI, n_o_read, .inl f_o_read)), (q_o_textures, .inl (cI, n_o_textures, .inl f_o_textures)), (q_o_uniforms, .inl (cI, n_o_uniforms, .inl f_o_uniforms)), (q_o_memory, .inl (cI, n_o_memory, .inl f_o_memory))]) hK hP hD hS hA hE 0 rfl rfl rfl [0, 1, 2, 3, 4] (by decide) rfl) rfl rfl hl.1 rfl (lv_room (Nat.le_of_ble_eq_true rfl)) d_Mo_part_465 ⟨Nat.le_of_ble_eq_true rfl, Nat.le_of_ble_eq_true rfl⟩) hP hD hS hA [0, 1, 2, 3, 4] [] rfl rfl (by decide) (by decide) (fun H locs hP hD hS => ?_)
    have hP : va_P (dC, dI) vwCl [(q_o, .inr (7, [.int o_thrown, .ref q_o_memory, .ref q_o_program, .ref q_o_fresh, .int o_hasProgram, .int o_fault, .int o_place, .int o_told, .ref q_o_temporaries, .ref q_o_ins, .ref q_o_outs, .ref q_o_uniforms, .ref q_o_textures, .ref q_o_read, .ref q_o_result, .int o_killed, .ref q_o_left, .ref q_o_opening])), (q_o_read, .inl (cI, n_o_read, .inl f_o_read)), (q_o_textures, .inl (cI, n_o_textures, .inl f_o_textures)), (q_o_uniforms, .inl (cI, n_o_uniforms, .inl f_o_uniforms)), (q_o_memory, .inl (cI, n_o_memory, .inl f_o_memory))] H := hP.sub [0, 1, 2, 3, 4] rfl
    have hD : va_D A [(q_o, .inr (7, [.int o_thrown, .ref q_o_memory, .ref q_o_program, .ref q_o_fresh, .int o_hasProgram, .int o_fault, .int o_place, .int o_told, .ref q_o_temporaries, .ref q_o_ins, .ref q_o_outs, .ref q_o_uniforms, .ref q_o_textures, .ref q_o_read, .ref q_o_result, .int o_killed, .ref q_o_left, .ref q_o_opening])), (q_o_read, .inl (cI, n_o_read, .inl f_o_read)), (q_o_textures, .inl (cI, n_o_textures, .inl f_o_textures)), (q_o_uniforms, .inl (cI, n_o_uniforms, .inl f_o_uniforms)), (q_o_memory, .inl (cI, n_o_memory, .inl f_o_memory))] := hD.sub [0, 1, 2, 3, 4] (by decide) rfl
    cases h
    exact ck_iret hx hb hr hlk hK hP hD hS d_Mo_part_468
  rw [if_neg c_5] at h
  by_cases c_8 : p1 = 1
  · rw [if_pos c_8] at h
    refine lv_tableIn (tgt := 136) hx hb d_Mo_part_37 (by rw [c_8]; decide) (by rw [c_8]; decide) (by rw [c_8]; rfl) (by decide) ?_
    refine lv_iload_n hx hb d_Mo_part_136 rfl (lv_at hl 3 rfl) ?_
    cases h
    exact ck_iret hx hb hr hlk hK hP hD hS d_Mo_part_137
  rw [if_neg c_8] at h
  by_cases c_9 : p1 = 2
  · rw [if_pos c_9] at h
    refine lv_tableIn (tgt := 138) hx hb d_Mo_part_37 (by rw [c_9]; decide) (by rw [c_9]; decide) (by rw [c_9]; rfl) (by decide) ?_
    refine lv_iload_n hx hb d_Mo_part_138 rfl (lv_at hl 3 rfl) ?_
    refine lv_iload hx hb d_Mo_part_139 (lv_at hl 2 rfl) ?_
    refine lv_iadd hx hb d_Mo_part_141 ?_
    cases h
    exact ck_iret hx hb hr hlk hK hP hD hS d_Mo_part_142
  rw [if_neg c_9] at h
  by_cases c_10 : p1 = 3
  · rw [if_pos c_10] at h
    refine lv_tableIn (tgt := 143) hx hb d_Mo_part_37 (by rw [c_10]; decide) (by rw [c_10]; decide) (by rw [c_10]; rfl) (by decide) ?_
    refine lv_iload_n hx hb d_Mo_part_143 rfl (lv_at hl 3 rfl) ?_
    refine lv_iload hx hb d_Mo_part_144 (lv_at hl 2 rfl) ?_
    refine lv_isub hx hb d_Mo_part_146 ?_
    cases h
    exact ck_iret hx hb hr hlk hK hP hD hS d_Mo_part_147
  rw [if_neg c_10] at h
  by_cases c_11 : p1 = 4
  · rw [if_pos c_11] at h
    refine lv_tableIn (tgt := 148) hx hb d_Mo_part_37 (by rw [c_11]; decide) (by rw [c_11]; decide) (by rw [c_11]; rfl) (by decide) ?_
    refine lv_iload_n hx hb d_Mo_part_148 rfl (lv_at hl 3 rfl) ?_
    refine lv_iload hx hb d_Mo_part_149 (lv_at hl 2 rfl) ?_
    obtain ⟨r_13, h_12, h⟩ := ch_bind h
    try dsimp only at h
    refine ck_goi (wc := []) (wr := [(q_o, .inr (7, [.int o_thrown, .ref q_o_memory, .ref q_o_program, .ref q_o_fresh, .int o_hasProgram, .int o_fault, .int o_place, .int o_told, .ref q_o_temporaries, .ref q_o_ins, .ref q_o_outs, .ref q_o_uniforms, .ref q_o_textures, .ref q_o_read, .ref q_o_result, .int o_killed, .ref q_o_left, .ref q_o_opening])), (q_o_read, .inl (cI, n_o_read, .inl f_o_read)), (q_o_textures, .inl (cI, n_o_textures, .inl f_o_textures)), (q_o_uniforms, .inl (cI, n_o_uniforms, .inl f_o_uniforms)), (q_o_memory, .inl (cI, n_o_memory, .inl f_o_memory))]) (w1 := []) (va_runS (As := [.int (f_o_read p2.toNatClampNeg), .int (f_o_read ((4 : Int32) + p2).toNatClampNeg)]) (rest := []) ⟨hx, hb, hml, hown, hts⟩ (k_Mo_product l dC dI cI cJ (f_o_read p2.toNatClampNeg) (f_o_read ((4 : Int32) + p2).toNatClampNeg) r_13 h_12 _) (va_cwS 2 hts (gw_S tw_887 tw_888 tw_9 tw_889) rfl rfl rfl (by decide +kernel) ⟨Nat.le_of_ble_eq_true rfl, Nat.le_of_ble_eq_true rfl⟩) (ck_preS (wc := []) hK hP hD hS hA hE [] (by decide) rfl) rfl rfl hl.1 rfl (lv_room (Nat.le_of_ble_eq_true rfl)) d_Mo_part_151 ⟨Nat.le_of_ble_eq_true rfl, Nat.le_of_ble_eq_true rfl⟩) hP hD hS hA [] [0, 1, 2, 3, 4] rfl rfl (by decide) (by decide) (fun H locs hP hD hS => ?_)
    have hP : va_P (dC, dI) vwCl [(q_o, .inr (7, [.int o_thrown, .ref q_o_memory, .ref q_o_program, .ref q_o_fresh, .int o_hasProgram, .int o_fault, .int o_place, .int o_told, .ref q_o_temporaries, .ref q_o_ins, .ref q_o_outs, .ref q_o_uniforms, .ref q_o_textures, .ref q_o_read, .ref q_o_result, .int o_killed, .ref q_o_left, .ref q_o_opening])), (q_o_read, .inl (cI, n_o_read, .inl f_o_read)), (q_o_textures, .inl (cI, n_o_textures, .inl f_o_textures)), (q_o_uniforms, .inl (cI, n_o_uniforms, .inl f_o_uniforms)), (q_o_memory, .inl (cI, n_o_memory, .inl f_o_memory))] H := hP.sub [0, 1, 2, 3, 4] rfl
    have hD : va_D A [(q_o, .inr (7, [.int o_thrown, .ref q_o_memory, .ref q_o_program, .ref q_o_fresh, .int o_hasProgram, .int o_fault, .int o_place, .int o_told, .ref q_o_temporaries, .ref q_o_ins, .ref q_o_outs, .ref q_o_uniforms, .ref q_o_textures, .ref q_o_read, .ref q_o_result, .int o_killed, .ref q_o_left, .ref q_o_opening])), (q_o_read, .inl (cI, n_o_read, .inl f_o_read)), (q_o_textures, .inl (cI, n_o_textures, .inl f_o_textures)), (q_o_uniforms, .inl (cI, n_o_uniforms, .inl f_o_uniforms)), (q_o_memory, .inl (cI, n_o_memory, .inl f_o_memory))] := hD.sub [0, 1, 2, 3, 4] (by decide) rfl
    cases h
    exact ck_iret hx hb hr hlk hK hP hD hS d_Mo_part_154
  rw [if_neg c_11] at h
  by_cases c_14 : p1 = 5
  · rw [if_pos c_14] at h
    refine lv_tableIn (tgt := 155) hx hb d_Mo_part_37 (by rw [c_14]; decide) (by rw [c_14]; decide) (by rw [c_14]; rfl) (by decide) ?_
    refine lv_iload_n hx hb d_Mo_part_155 rfl (lv_at hl 3 rfl) ?_
    refine lv_iload hx hb d_Mo_part_156 (lv_at hl 2 rfl) ?_
    obtain ⟨r_16, h_15, h⟩ := ch_bind h
    try dsimp only at h
    refine ck_goi (wc := []) (wr := [(q_o, .inr (7, [.int o_thrown, .ref q_o_memory, .ref q_o_program, .ref q_o_fresh, .int o_hasProgram, .int o_fault, .int o_place, .int o_told, .ref q_o_temporaries, .ref q_o_ins, .ref q_o_outs, .ref q_o_uniforms, .ref q_o_textures, .ref q_o_read, .ref q_o_result, .int o_killed, .ref q_o_left, .ref q_o_opening])), (q_o_read, .inl (cI, n_o_read, .inl f_o_read)), (q_o_textures, .inl (cI, n_o_textures, .inl f_o_textures)), (q_o_uniforms, .inl (cI, n_o_uniforms, .inl f_o_uniforms)), (q_o_memory, .inl (cI, n_o_memory, .inl f_o_memory))]) (w1 := []) (va_runS (As := [.int (f_o_read p2.toNatClampNeg), .int (f_o_read ((4 : Int32) + p2).toNatClampNeg)]) (rest := []) ⟨hx, hb, hml, hown, hts⟩ (k_Mo_product l dC dI cI cJ (f_o_read p2.toNatClampNeg) (f_o_read ((4 : Int32) + p2).toNatClampNeg) r_16 h_15 _) (va_cwS 2 hts (gw_S tw_887 tw_888 tw_9 tw_889) rfl rfl rfl (by decide +kernel) ⟨Nat.le_of_ble_eq_true rfl, Nat.le_of_ble_eq_true rfl⟩) (ck_preS (wc := []) hK hP hD hS hA hE [] (by decide) rfl) rfl rfl hl.1 rfl (lv_room (Nat.le_of_ble_eq_true rfl)) d_Mo_part_158 ⟨Nat.le_of_ble_eq_true rfl, Nat.le_of_ble_eq_true rfl⟩) hP hD hS hA [] [0, 1, 2, 3, 4] rfl rfl (by decide) (by decide) (fun H locs hP hD hS => ?_)
    have hP : va_P (dC, dI) vwCl [(q_o, .inr (7, [.int o_thrown, .ref q_o_memory, .ref q_o_program, .ref q_o_fresh, .int o_hasProgram, .int o_fault, .int o_place, .int o_told, .ref q_o_temporaries, .ref q_o_ins, .ref q_o_outs, .ref q_o_uniforms, .ref q_o_textures, .ref q_o_read, .ref q_o_result, .int o_killed, .ref q_o_left, .ref q_o_opening])), (q_o_read, .inl (cI, n_o_read, .inl f_o_read)), (q_o_textures, .inl (cI, n_o_textures, .inl f_o_textures)), (q_o_uniforms, .inl (cI, n_o_uniforms, .inl f_o_uniforms)), (q_o_memory, .inl (cI, n_o_memory, .inl f_o_memory))] H := hP.sub [0, 1, 2, 3, 4] rfl
    have hD : va_D A [(q_o, .inr (7, [.int o_thrown, .ref q_o_memory, .ref q_o_program, .ref q_o_fresh, .int o_hasProgram, .int o_fault, .int o_place, .int o_told, .ref q_o_temporaries, .ref q_o_ins, .ref q_o_outs, .ref q_o_uniforms, .ref q_o_textures, .ref q_o_read, .ref q_o_result, .int o_killed, .ref q_o_left, .ref q_o_opening])), (q_o_read, .inl (cI, n_o_read, .inl f_o_read)), (q_o_textures, .inl (cI, n_o_textures, .inl f_o_textures)), (q_o_uniforms, .inl (cI, n_o_uniforms, .inl f_o_uniforms)), (q_o_memory, .inl (cI, n_o_memory, .inl f_o_memory))] := hD.sub [0, 1, 2, 3, 4] (by decide) rfl
    refine lv_iload hx hb d_Mo_part_161 (lv_at hl 1 rfl) ?_
    refine lv_iadd hx hb d_Mo_part_163 ?_
    cases h
    exact ck_iret hx hb hr hlk hK hP hD hS d_Mo_part_164
  rw [if_neg c_14] at h
  by_cases c_17 : p1 = 6
  · rw [if_pos c_17] at h
    refine lv_tableIn (tgt := 165) hx hb d_Mo_part_37 (by rw [c_17]; decide) (by rw [c_17]; decide) (by rw [c_17]; rfl) (by decide) ?_
    refine lv_aload_n hx hb d_Mo_part_165 rfl (lv_at hl 4 rfl) ?_
    refine va_get (D := (dC, dI)) (ci := 7) (v := .ref q_o_read) (C := R_Mo) (T := T_Mo) (N := 18) hx hb hts (iw_Mo _) hown hK hP 0 rfl rfl 13 (by decide) (hts (.fieldLink R_Mo 38 "ShaderMachineModel" "read" "[I") (List.mem_cons_of_mem _ tw_741)) (fun _ h9 => h9) rfl d_Mo_part_166 ?_
    refine lv_iconst (v := 0) hx hb d_Mo_part_169 (by decide) ?_
    refine va_iald hx hb hK hP 1 0 rfl rfl (ch_in c_4) d_Mo_part_170 ?_
    refine lv_aload_n hx hb d_Mo_part_171 rfl (lv_at hl 4 rfl) ?_
    refine va_get (D := (dC, dI)) (ci := 7) (v := .ref q_o_read) (C := R_Mo) (T := T_Mo) (N := 18) hx hb hts (iw_Mo _) hown hK hP 0 rfl rfl 13 (by decide) (hts (.fieldLink R_Mo 38 "ShaderMachineModel" "read" "[I") (List.mem_cons_of_mem _ tw_741)) (fun _ h9 => h9) rfl d_Mo_part_172 ?_
    refine lv_iconst (v := 4) hx hb d_Mo_part_175 (by decide) ?_
    obtain ⟨c_18, h⟩ := ch_ite h
    refine va_iald hx hb hK hP 1 0 rfl rfl (ch_in c_18) d_Mo_part_176 ?_
    obtain ⟨r_20, h_19, h⟩ := ch_bind h
    try dsimp only at h
    refine ck_goi (wc := []) (wr := [(q_o, .inr (7, [.int o_thrown, .ref q_o_memory, .ref q_o_program, .ref q_o_fresh, .int o_hasProgram, .int o_fault, .int o_place, .int o_told, .ref q_o_temporaries, .ref q_o_ins, .ref q_o_outs, .ref q_o_uniforms, .ref q_o_textures, .ref q_o_read, .ref q_o_result, .int o_killed, .ref q_o_left, .ref q_o_opening])), (q_o_read, .inl (cI, n_o_read, .inl f_o_read)), (q_o_textures, .inl (cI, n_o_textures, .inl f_o_textures)), (q_o_uniforms, .inl (cI, n_o_uniforms, .inl f_o_uniforms)), (q_o_memory, .inl (cI, n_o_memory, .inl f_o_memory))]) (w1 := []) (va_runS (As := [.int (f_o_read (0 : Int32).toNatClampNeg), .int (f_o_read (4 : Int32).toNatClampNeg)]) (rest := []) ⟨hx, hb, hml, hown, hts⟩ (k_Mo_product l dC dI cI cJ (f_o_read (0 : Int32).toNatClampNeg) (f_o_read (4 : Int32).toNatClampNeg) r_20 h_19 _) (va_cwS 2 hts (gw_S tw_887 tw_888 tw_9 tw_889) rfl rfl rfl (by decide +kernel) ⟨Nat.le_of_ble_eq_true rfl, Nat.le_of_ble_eq_true rfl⟩) (ck_preS (wc := []) hK hP hD hS hA hE [] (by decide) rfl) rfl rfl hl.1 rfl (lv_room (Nat.le_of_ble_eq_true rfl)) d_Mo_part_177 ⟨Nat.le_of_ble_eq_true rfl, Nat.le_of_ble_eq_true rfl⟩) hP hD hS hA [] [0, 1, 2, 3, 4] rfl rfl (by decide) (by decide) (fun H locs hP hD hS => ?_)
    have hP : va_P (dC, dI) vwCl [(q_o, .inr (7, [.int o_thrown, .ref q_o_memory, .ref q_o_program, .ref q_o_fresh, .int o_hasProgram, .int o_fault, .int o_place, .int o_told, .ref q_o_temporaries, .ref q_o_ins, .ref q_o_outs, .ref q_o_uniforms, .ref q_o_textures, .ref q_o_read, .ref q_o_result, .int o_killed, .ref q_o_left, .ref q_o_opening])), (q_o_read, .inl (cI, n_o_read, .inl f_o_read)), (q_o_textures, .inl (cI, n_o_textures, .inl f_o_textures)), (q_o_uniforms, .inl (cI, n_o_uniforms, .inl f_o_uniforms)), (q_o_memory, .inl (cI, n_o_memory, .inl f_o_memory))] H := hP.sub [0, 1, 2, 3, 4] rfl
    have hD : va_D A [(q_o, .inr (7, [.int o_thrown, .ref q_o_memory, .ref q_o_program, .ref q_o_fresh, .int o_hasProgram, .int o_fault, .int o_place, .int o_told, .ref q_o_temporaries, .ref q_o_ins, .ref q_o_outs, .ref q_o_uniforms, .ref q_o_textures, .ref q_o_read, .ref q_o_result, .int o_killed, .ref q_o_left, .ref q_o_opening])), (q_o_read, .inl (cI, n_o_read, .inl f_o_read)), (q_o_textures, .inl (cI, n_o_textures, .inl f_o_textures)), (q_o_uniforms, .inl (cI, n_o_uniforms, .inl f_o_uniforms)), (q_o_memory, .inl (cI, n_o_memory, .inl f_o_memory))] := hD.sub [0, 1, 2, 3, 4] (by decide) rfl
    refine lv_aload_n hx hb d_Mo_part_180 rfl (lv_at hl 4 rfl) ?_
    refine va_get (D := (dC, dI)) (ci := 7) (v := .ref q_o_read) (C := R_Mo) (T := T_Mo) (N := 18) hx hb hts (iw_Mo _) hown hK hP 0 rfl rfl 13 (by decide) (hts (.fieldLink R_Mo 38 "ShaderMachineModel" "read" "[I") (List.mem_cons_of_mem _ tw_741)) (fun _ h9 => h9) rfl d_Mo_part_181 ?_
    refine lv_iconst (v := 1) hx hb d_Mo_part_184 (by decide) ?_
    obtain ⟨c_21, h⟩ := ch_ite h
    refine va_iald hx hb hK hP 1 0 rfl rfl (ch_in c_21) d_Mo_part_185 ?_
    refine lv_aload_n hx hb d_Mo_part_186 rfl (lv_at hl 4 rfl) ?_
    refine va_get (D := (dC, dI)) (ci := 7) (v := .ref q_o_read) (C := R_Mo) (T := T_Mo) (N := 18) hx hb hts (iw_Mo _) hown hK hP 0 rfl rfl 13 (by decide) (hts (.fieldLink R_Mo 38 "ShaderMachineModel" "read" "[I") (List.mem_cons_of_mem _ tw_741)) (fun _ h9 => h9) rfl d_Mo_part_187 ?_
    refine lv_iconst (v := 5) hx hb d_Mo_part_190 (by decide) ?_
    obtain ⟨c_22, h⟩ := ch_ite h
    refine va_iald hx hb hK hP 1 0 rfl rfl (ch_in c_22) d_Mo_part_191 ?_
    obtain ⟨r_24, h_23, h⟩ := ch_bind h
    try dsimp only at h
    refine ck_goi (wc := []) (wr := [(q_o, .inr (7, [.int o_thrown, .ref q_o_memory, .ref q_o_program, .ref q_o_fresh, .int o_hasProgram, .int o_fault, .int o_place, .int o_told, .ref q_o_temporaries, .ref q_o_ins, .ref q_o_outs, .ref q_o_uniforms, .ref q_o_textures, .ref q_o_read, .ref q_o_result, .int o_killed, .ref q_o_left, .ref q_o_opening])), (q_o_read, .inl (cI, n_o_read, .inl f_o_read)), (q_o_textures, .inl (cI, n_o_textures, .inl f_o_textures)), (q_o_uniforms, .inl (cI, n_o_uniforms, .inl f_o_uniforms)), (q_o_memory, .inl (cI, n_o_memory, .inl f_o_memory))]) (w1 := []) (va_runS (As := [.int (f_o_read (1 : Int32).toNatClampNeg), .int (f_o_read (5 : Int32).toNatClampNeg)]) (rest := [.int r_20]) ⟨hx, hb, hml, hown, hts⟩ (k_Mo_product l dC dI cI cJ (f_o_read (1 : Int32).toNatClampNeg) (f_o_read (5 : Int32).toNatClampNeg) r_24 h_23 _) (va_cwS 2 hts (gw_S tw_887 tw_888 tw_9 tw_889) rfl rfl rfl (by decide +kernel) ⟨Nat.le_of_ble_eq_true rfl, Nat.le_of_ble_eq_true rfl⟩) (ck_preS (wc := []) hK hP hD hS hA hE [] (by decide) rfl) rfl rfl hl.1 rfl (lv_room (Nat.le_of_ble_eq_true rfl)) d_Mo_part_192 ⟨Nat.le_of_ble_eq_true rfl, Nat.le_of_ble_eq_true rfl⟩) hP hD hS hA [] [0, 1, 2, 3, 4] rfl rfl (by decide) (by decide) (fun H locs hP hD hS => ?_)
    have hP : va_P (dC, dI) vwCl [(q_o, .inr (7, [.int o_thrown, .ref q_o_memory, .ref q_o_program, .ref q_o_fresh, .int o_hasProgram, .int o_fault, .int o_place, .int o_told, .ref q_o_temporaries, .ref q_o_ins, .ref q_o_outs, .ref q_o_uniforms, .ref q_o_textures, .ref q_o_read, .ref q_o_result, .int o_killed, .ref q_o_left, .ref q_o_opening])), (q_o_read, .inl (cI, n_o_read, .inl f_o_read)), (q_o_textures, .inl (cI, n_o_textures, .inl f_o_textures)), (q_o_uniforms, .inl (cI, n_o_uniforms, .inl f_o_uniforms)), (q_o_memory, .inl (cI, n_o_memory, .inl f_o_memory))] H := hP.sub [0, 1, 2, 3, 4] rfl
    have hD : va_D A [(q_o, .inr (7, [.int o_thrown, .ref q_o_memory, .ref q_o_program, .ref q_o_fresh, .int o_hasProgram, .int o_fault, .int o_place, .int o_told, .ref q_o_temporaries, .ref q_o_ins, .ref q_o_outs, .ref q_o_uniforms, .ref q_o_textures, .ref q_o_read, .ref q_o_result, .int o_killed, .ref q_o_left, .ref q_o_opening])), (q_o_read, .inl (cI, n_o_read, .inl f_o_read)), (q_o_textures, .inl (cI, n_o_textures, .inl f_o_textures)), (q_o_uniforms, .inl (cI, n_o_uniforms, .inl f_o_uniforms)), (q_o_memory, .inl (cI, n_o_memory, .inl f_o_memory))] := hD.sub [0, 1, 2, 3, 4] (by decide) rfl
    refine lv_iadd hx hb d_Mo_part_195 ?_
    refine lv_aload_n hx hb d_Mo_part_196 rfl (lv_at hl 4 rfl) ?_
    refine va_get (D := (dC, dI)) (ci := 7) (v := .ref q_o_read) (C := R_Mo) (T := T_Mo) (N := 18) hx hb hts (iw_Mo _) hown hK hP 0 rfl rfl 13 (by decide) (hts (.fieldLink R_Mo 38 "ShaderMachineModel" "read" "[I") (List.mem_cons_of_mem _ tw_741)) (fun _ h9 => h9) rfl d_Mo_part_197 ?_
    refine lv_iconst (v := 2) hx hb d_Mo_part_200 (by decide) ?_
    obtain ⟨c_25, h⟩ := ch_ite h
    refine va_iald hx hb hK hP 1 0 rfl rfl (ch_in c_25) d_Mo_part_201 ?_
    refine lv_aload_n hx hb d_Mo_part_202 rfl (lv_at hl 4 rfl) ?_
    refine va_get (D := (dC, dI)) (ci := 7) (v := .ref q_o_read) (C := R_Mo) (T := T_Mo) (N := 18) hx hb hts (iw_Mo _) hown hK hP 0 rfl rfl 13 (by decide) (hts (.fieldLink R_Mo 38 "ShaderMachineModel" "read" "[I") (List.mem_cons_of_mem _ tw_741)) (fun _ h9 => h9) rfl d_Mo_part_203 ?_
    refine lv_bipush (v := 6) hx hb d_Mo_part_206 (by decide) ?_
    obtain ⟨c_26, h⟩ := ch_ite h
    refine va_iald hx hb hK hP 1 0 rfl rfl (ch_in c_26) d_Mo_part_208 ?_
    obtain ⟨r_28, h_27, h⟩ := ch_bind h
    try dsimp only at h
    refine ck_goi (wc := []) (wr := [(q_o, .inr (7, [.int o_thrown, .ref q_o_memory, .ref q_o_program, .ref q_o_fresh, .int o_hasProgram, .int o_fault, .int o_place, .int o_told, .ref q_o_temporaries, .ref q_o_ins, .ref q_o_outs, .ref q_o_uniforms, .ref q_o_textures, .ref q_o_read, .ref q_o_result, .int o_killed, .ref q_o_left, .ref q_o_opening])), (q_o_read, .inl (cI, n_o_read, .inl f_o_read)), (q_o_textures, .inl (cI, n_o_textures, .inl f_o_textures)), (q_o_uniforms, .inl (cI, n_o_uniforms, .inl f_o_uniforms)), (q_o_memory, .inl (cI, n_o_memory, .inl f_o_memory))]) (w1 := []) (va_runS (As := [.int (f_o_read (2 : Int32).toNatClampNeg), .int (f_o_read (6 : Int32).toNatClampNeg)]) (rest := [.int (r_20 + r_24)]) ⟨hx, hb, hml, hown, hts⟩ (k_Mo_product l dC dI cI cJ (f_o_read (2 : Int32).toNatClampNeg) (f_o_read (6 : Int32).toNatClampNeg) r_28 h_27 _) (va_cwS 2 hts (gw_S tw_887 tw_888 tw_9 tw_889) rfl rfl rfl (by decide +kernel) ⟨Nat.le_of_ble_eq_true rfl, Nat.le_of_ble_eq_true rfl⟩) (ck_preS (wc := []) hK hP hD hS hA hE [] (by decide) rfl) rfl rfl hl.1 rfl (lv_room (Nat.le_of_ble_eq_true rfl)) d_Mo_part_209 ⟨Nat.le_of_ble_eq_true rfl, Nat.le_of_ble_eq_true rfl⟩) hP hD hS hA [] [0, 1, 2, 3, 4] rfl rfl (by decide) (by decide) (fun H locs hP hD hS => ?_)
    have hP : va_P (dC, dI) vwCl [(q_o, .inr (7, [.int o_thrown, .ref q_o_memory, .ref q_o_program, .ref q_o_fresh, .int o_hasProgram, .int o_fault, .int o_place, .int o_told, .ref q_o_temporaries, .ref q_o_ins, .ref q_o_outs, .ref q_o_uniforms, .ref q_o_textures, .ref q_o_read, .ref q_o_result, .int o_killed, .ref q_o_left, .ref q_o_opening])), (q_o_read, .inl (cI, n_o_read, .inl f_o_read)), (q_o_textures, .inl (cI, n_o_textures, .inl f_o_textures)), (q_o_uniforms, .inl (cI, n_o_uniforms, .inl f_o_uniforms)), (q_o_memory, .inl (cI, n_o_memory, .inl f_o_memory))] H := hP.sub [0, 1, 2, 3, 4] rfl
    have hD : va_D A [(q_o, .inr (7, [.int o_thrown, .ref q_o_memory, .ref q_o_program, .ref q_o_fresh, .int o_hasProgram, .int o_fault, .int o_place, .int o_told, .ref q_o_temporaries, .ref q_o_ins, .ref q_o_outs, .ref q_o_uniforms, .ref q_o_textures, .ref q_o_read, .ref q_o_result, .int o_killed, .ref q_o_left, .ref q_o_opening])), (q_o_read, .inl (cI, n_o_read, .inl f_o_read)), (q_o_textures, .inl (cI, n_o_textures, .inl f_o_textures)), (q_o_uniforms, .inl (cI, n_o_uniforms, .inl f_o_uniforms)), (q_o_memory, .inl (cI, n_o_memory, .inl f_o_memory))] := hD.sub [0, 1, 2, 3, 4] (by decide) rfl
    refine lv_iadd hx hb d_Mo_part_212 ?_
    cases h
    exact ck_iret hx hb hr hlk hK hP hD hS d_Mo_part_213
  rw [if_neg c_17] at h
  by_cases c_29 : p1 = 7
  · rw [if_pos c_29] at h
    refine lv_tableIn (tgt := 214) hx hb d_Mo_part_37 (by rw [c_29]; decide) (by rw [c_29]; decide) (by rw [c_29]; rfl) (by decide) ?_
    refine lv_aload_n hx hb d_Mo_part_214 rfl (lv_at hl 4 rfl) ?_
    refine va_get (D := (dC, dI)) (ci := 7) (v := .ref q_o_read) (C := R_Mo) (T := T_Mo) (N := 18) hx hb hts (iw_Mo _) hown hK hP 0 rfl rfl 13 (by decide) (hts (.fieldLink R_Mo 38 "ShaderMachineModel" "read" "[I") (List.mem_cons_of_mem _ tw_741)) (fun _ h9 => h9) rfl d_Mo_part_215 ?_
    refine lv_iconst (v := 0) hx hb d_Mo_part_218 (by decide) ?_
    refine va_iald hx hb hK hP 1 0 rfl rfl (ch_in c_4) d_Mo_part_219 ?_
    refine lv_aload_n hx hb d_Mo_part_220 rfl (lv_at hl 4 rfl) ?_
    refine va_get (D := (dC, dI)) (ci := 7) (v := .ref q_o_read) (C := R_Mo) (T := T_Mo) (N := 18) hx hb hts (iw_Mo _) hown hK hP 0 rfl rfl 13 (by decide) (hts (.fieldLink R_Mo 38 "ShaderMachineModel" "read" "[I") (List.mem_cons_of_mem _ tw_741)) (fun _ h9 => h9) rfl d_Mo_part_221 ?_
    refine lv_iconst (v := 4) hx hb d_Mo_part_224 (by decide) ?_
    obtain ⟨c_30, h⟩ := ch_ite h
    refine va_iald hx hb hK hP 1 0 rfl rfl (ch_in c_30) d_Mo_part_225 ?_
    obtain ⟨r_32, h_31, h⟩ := ch_bind h
    try dsimp only at h
    refine ck_goi (wc := []) (wr := [(q_o, .inr (7, [.int o_thrown, .ref q_o_memory, .ref q_o_program, .ref q_o_fresh, .int o_hasProgram, .int o_fault, .int o_place, .int o_told, .ref q_o_temporaries, .ref q_o_ins, .ref q_o_outs, .ref q_o_uniforms, .ref q_o_textures, .ref q_o_read, .ref q_o_result, .int o_killed, .ref q_o_left, .ref q_o_opening])), (q_o_read, .inl (cI, n_o_read, .inl f_o_read)), (q_o_textures, .inl (cI, n_o_textures, .inl f_o_textures)), (q_o_uniforms, .inl (cI, n_o_uniforms, .inl f_o_uniforms)), (q_o_memory, .inl (cI, n_o_memory, .inl f_o_memory))]) (w1 := []) (va_runS (As := [.int (f_o_read (0 : Int32).toNatClampNeg), .int (f_o_read (4 : Int32).toNatClampNeg)]) (rest := []) ⟨hx, hb, hml, hown, hts⟩ (k_Mo_product l dC dI cI cJ (f_o_read (0 : Int32).toNatClampNeg) (f_o_read (4 : Int32).toNatClampNeg) r_32 h_31 _) (va_cwS 2 hts (gw_S tw_887 tw_888 tw_9 tw_889) rfl rfl rfl (by decide +kernel) ⟨Nat.le_of_ble_eq_true rfl, Nat.le_of_ble_eq_true rfl⟩) (ck_preS (wc := []) hK hP hD hS hA hE [] (by decide) rfl) rfl rfl hl.1 rfl (lv_room (Nat.le_of_ble_eq_true rfl)) d_Mo_part_226 ⟨Nat.le_of_ble_eq_true rfl, Nat.le_of_ble_eq_true rfl⟩) hP hD hS hA [] [0, 1, 2, 3, 4] rfl rfl (by decide) (by decide) (fun H locs hP hD hS => ?_)
    have hP : va_P (dC, dI) vwCl [(q_o, .inr (7, [.int o_thrown, .ref q_o_memory, .ref q_o_program, .ref q_o_fresh, .int o_hasProgram, .int o_fault, .int o_place, .int o_told, .ref q_o_temporaries, .ref q_o_ins, .ref q_o_outs, .ref q_o_uniforms, .ref q_o_textures, .ref q_o_read, .ref q_o_result, .int o_killed, .ref q_o_left, .ref q_o_opening])), (q_o_read, .inl (cI, n_o_read, .inl f_o_read)), (q_o_textures, .inl (cI, n_o_textures, .inl f_o_textures)), (q_o_uniforms, .inl (cI, n_o_uniforms, .inl f_o_uniforms)), (q_o_memory, .inl (cI, n_o_memory, .inl f_o_memory))] H := hP.sub [0, 1, 2, 3, 4] rfl
    have hD : va_D A [(q_o, .inr (7, [.int o_thrown, .ref q_o_memory, .ref q_o_program, .ref q_o_fresh, .int o_hasProgram, .int o_fault, .int o_place, .int o_told, .ref q_o_temporaries, .ref q_o_ins, .ref q_o_outs, .ref q_o_uniforms, .ref q_o_textures, .ref q_o_read, .ref q_o_result, .int o_killed, .ref q_o_left, .ref q_o_opening])), (q_o_read, .inl (cI, n_o_read, .inl f_o_read)), (q_o_textures, .inl (cI, n_o_textures, .inl f_o_textures)), (q_o_uniforms, .inl (cI, n_o_uniforms, .inl f_o_uniforms)), (q_o_memory, .inl (cI, n_o_memory, .inl f_o_memory))] := hD.sub [0, 1, 2, 3, 4] (by decide) rfl
    refine lv_aload_n hx hb d_Mo_part_229 rfl (lv_at hl 4 rfl) ?_
    refine va_get (D := (dC, dI)) (ci := 7) (v := .ref q_o_read) (C := R_Mo) (T := T_Mo) (N := 18) hx hb hts (iw_Mo _) hown hK hP 0 rfl rfl 13 (by decide) (hts (.fieldLink R_Mo 38 "ShaderMachineModel" "read" "[I") (List.mem_cons_of_mem _ tw_741)) (fun _ h9 => h9) rfl d_Mo_part_230 ?_
    refine lv_iconst (v := 1) hx hb d_Mo_part_233 (by decide) ?_
    obtain ⟨c_33, h⟩ := ch_ite h
    refine va_iald hx hb hK hP 1 0 rfl rfl (ch_in c_33) d_Mo_part_234 ?_
    refine lv_aload_n hx hb d_Mo_part_235 rfl (lv_at hl 4 rfl) ?_
    refine va_get (D := (dC, dI)) (ci := 7) (v := .ref q_o_read) (C := R_Mo) (T := T_Mo) (N := 18) hx hb hts (iw_Mo _) hown hK hP 0 rfl rfl 13 (by decide) (hts (.fieldLink R_Mo 38 "ShaderMachineModel" "read" "[I") (List.mem_cons_of_mem _ tw_741)) (fun _ h9 => h9) rfl d_Mo_part_236 ?_
    refine lv_iconst (v := 5) hx hb d_Mo_part_239 (by decide) ?_
    obtain ⟨c_34, h⟩ := ch_ite h
    refine va_iald hx hb hK hP 1 0 rfl rfl (ch_in c_34) d_Mo_part_240 ?_
    obtain ⟨r_36, h_35, h⟩ := ch_bind h
    try dsimp only at h
    refine ck_goi (wc := []) (wr := [(q_o, .inr (7, [.int o_thrown, .ref q_o_memory, .ref q_o_program, .ref q_o_fresh, .int o_hasProgram, .int o_fault, .int o_place, .int o_told, .ref q_o_temporaries, .ref q_o_ins, .ref q_o_outs, .ref q_o_uniforms, .ref q_o_textures, .ref q_o_read, .ref q_o_result, .int o_killed, .ref q_o_left, .ref q_o_opening])), (q_o_read, .inl (cI, n_o_read, .inl f_o_read)), (q_o_textures, .inl (cI, n_o_textures, .inl f_o_textures)), (q_o_uniforms, .inl (cI, n_o_uniforms, .inl f_o_uniforms)), (q_o_memory, .inl (cI, n_o_memory, .inl f_o_memory))]) (w1 := []) (va_runS (As := [.int (f_o_read (1 : Int32).toNatClampNeg), .int (f_o_read (5 : Int32).toNatClampNeg)]) (rest := [.int r_32]) ⟨hx, hb, hml, hown, hts⟩ (k_Mo_product l dC dI cI cJ (f_o_read (1 : Int32).toNatClampNeg) (f_o_read (5 : Int32).toNatClampNeg) r_36 h_35 _) (va_cwS 2 hts (gw_S tw_887 tw_888 tw_9 tw_889) rfl rfl rfl (by decide +kernel) ⟨Nat.le_of_ble_eq_true rfl, Nat.le_of_ble_eq_true rfl⟩) (ck_preS (wc := []) hK hP hD hS hA hE [] (by decide) rfl) rfl rfl hl.1 rfl (lv_room (Nat.le_of_ble_eq_true rfl)) d_Mo_part_241 ⟨Nat.le_of_ble_eq_true rfl, Nat.le_of_ble_eq_true rfl⟩) hP hD hS hA [] [0, 1, 2, 3, 4] rfl rfl (by decide) (by decide) (fun H locs hP hD hS => ?_)
    have hP : va_P (dC, dI) vwCl [(q_o, .inr (7, [.int o_thrown, .ref q_o_memory, .ref q_o_program, .ref q_o_fresh, .int o_hasProgram, .int o_fault, .int o_place, .int o_told, .ref q_o_temporaries, .ref q_o_ins, .ref q_o_outs, .ref q_o_uniforms, .ref q_o_textures, .ref q_o_read, .ref q_o_result, .int o_killed, .ref q_o_left, .ref q_o_opening])), (q_o_read, .inl (cI, n_o_read, .inl f_o_read)), (q_o_textures, .inl (cI, n_o_textures, .inl f_o_textures)), (q_o_uniforms, .inl (cI, n_o_uniforms, .inl f_o_uniforms)), (q_o_memory, .inl (cI, n_o_memory, .inl f_o_memory))] H := hP.sub [0, 1, 2, 3, 4] rfl
    have hD : va_D A [(q_o, .inr (7, [.int o_thrown, .ref q_o_memory, .ref q_o_program, .ref q_o_fresh, .int o_hasProgram, .int o_fault, .int o_place, .int o_told, .ref q_o_temporaries, .ref q_o_ins, .ref q_o_outs, .ref q_o_uniforms, .ref q_o_textures, .ref q_o_read, .ref q_o_result, .int o_killed, .ref q_o_left, .ref q_o_opening])), (q_o_read, .inl (cI, n_o_read, .inl f_o_read)), (q_o_textures, .inl (cI, n_o_textures, .inl f_o_textures)), (q_o_uniforms, .inl (cI, n_o_uniforms, .inl f_o_uniforms)), (q_o_memory, .inl (cI, n_o_memory, .inl f_o_memory))] := hD.sub [0, 1, 2, 3, 4] (by decide) rfl
    refine lv_iadd hx hb d_Mo_part_244 ?_
    refine lv_aload_n hx hb d_Mo_part_245 rfl (lv_at hl 4 rfl) ?_
    refine va_get (D := (dC, dI)) (ci := 7) (v := .ref q_o_read) (C := R_Mo) (T := T_Mo) (N := 18) hx hb hts (iw_Mo _) hown hK hP 0 rfl rfl 13 (by decide) (hts (.fieldLink R_Mo 38 "ShaderMachineModel" "read" "[I") (List.mem_cons_of_mem _ tw_741)) (fun _ h9 => h9) rfl d_Mo_part_246 ?_
    refine lv_iconst (v := 2) hx hb d_Mo_part_249 (by decide) ?_
    obtain ⟨c_37, h⟩ := ch_ite h
    refine va_iald hx hb hK hP 1 0 rfl rfl (ch_in c_37) d_Mo_part_250 ?_
    refine lv_aload_n hx hb d_Mo_part_251 rfl (lv_at hl 4 rfl) ?_
    refine va_get (D := (dC, dI)) (ci := 7) (v := .ref q_o_read) (C := R_Mo) (T := T_Mo) (N := 18) hx hb hts (iw_Mo _) hown hK hP 0 rfl rfl 13 (by decide) (hts (.fieldLink R_Mo 38 "ShaderMachineModel" "read" "[I") (List.mem_cons_of_mem _ tw_741)) (fun _ h9 => h9) rfl d_Mo_part_252 ?_
    refine lv_bipush (v := 6) hx hb d_Mo_part_255 (by decide) ?_
    obtain ⟨c_38, h⟩ := ch_ite h
    refine va_iald hx hb hK hP 1 0 rfl rfl (ch_in c_38) d_Mo_part_257 ?_
    obtain ⟨r_40, h_39, h⟩ := ch_bind h
    try dsimp only at h
    refine ck_goi (wc := []) (wr := [(q_o, .inr (7, [.int o_thrown, .ref q_o_memory, .ref q_o_program, .ref q_o_fresh, .int o_hasProgram, .int o_fault, .int o_place, .int o_told, .ref q_o_temporaries, .ref q_o_ins, .ref q_o_outs, .ref q_o_uniforms, .ref q_o_textures, .ref q_o_read, .ref q_o_result, .int o_killed, .ref q_o_left, .ref q_o_opening])), (q_o_read, .inl (cI, n_o_read, .inl f_o_read)), (q_o_textures, .inl (cI, n_o_textures, .inl f_o_textures)), (q_o_uniforms, .inl (cI, n_o_uniforms, .inl f_o_uniforms)), (q_o_memory, .inl (cI, n_o_memory, .inl f_o_memory))]) (w1 := []) (va_runS (As := [.int (f_o_read (2 : Int32).toNatClampNeg), .int (f_o_read (6 : Int32).toNatClampNeg)]) (rest := [.int (r_32 + r_36)]) ⟨hx, hb, hml, hown, hts⟩ (k_Mo_product l dC dI cI cJ (f_o_read (2 : Int32).toNatClampNeg) (f_o_read (6 : Int32).toNatClampNeg) r_40 h_39 _) (va_cwS 2 hts (gw_S tw_887 tw_888 tw_9 tw_889) rfl rfl rfl (by decide +kernel) ⟨Nat.le_of_ble_eq_true rfl, Nat.le_of_ble_eq_true rfl⟩) (ck_preS (wc := []) hK hP hD hS hA hE [] (by decide) rfl) rfl rfl hl.1 rfl (lv_room (Nat.le_of_ble_eq_true rfl)) d_Mo_part_258 ⟨Nat.le_of_ble_eq_true rfl, Nat.le_of_ble_eq_true rfl⟩) hP hD hS hA [] [0, 1, 2, 3, 4] rfl rfl (by decide) (by decide) (fun H locs hP hD hS => ?_)
    have hP : va_P (dC, dI) vwCl [(q_o, .inr (7, [.int o_thrown, .ref q_o_memory, .ref q_o_program, .ref q_o_fresh, .int o_hasProgram, .int o_fault, .int o_place, .int o_told, .ref q_o_temporaries, .ref q_o_ins, .ref q_o_outs, .ref q_o_uniforms, .ref q_o_textures, .ref q_o_read, .ref q_o_result, .int o_killed, .ref q_o_left, .ref q_o_opening])), (q_o_read, .inl (cI, n_o_read, .inl f_o_read)), (q_o_textures, .inl (cI, n_o_textures, .inl f_o_textures)), (q_o_uniforms, .inl (cI, n_o_uniforms, .inl f_o_uniforms)), (q_o_memory, .inl (cI, n_o_memory, .inl f_o_memory))] H := hP.sub [0, 1, 2, 3, 4] rfl
    have hD : va_D A [(q_o, .inr (7, [.int o_thrown, .ref q_o_memory, .ref q_o_program, .ref q_o_fresh, .int o_hasProgram, .int o_fault, .int o_place, .int o_told, .ref q_o_temporaries, .ref q_o_ins, .ref q_o_outs, .ref q_o_uniforms, .ref q_o_textures, .ref q_o_read, .ref q_o_result, .int o_killed, .ref q_o_left, .ref q_o_opening])), (q_o_read, .inl (cI, n_o_read, .inl f_o_read)), (q_o_textures, .inl (cI, n_o_textures, .inl f_o_textures)), (q_o_uniforms, .inl (cI, n_o_uniforms, .inl f_o_uniforms)), (q_o_memory, .inl (cI, n_o_memory, .inl f_o_memory))] := hD.sub [0, 1, 2, 3, 4] (by decide) rfl
    refine lv_iadd hx hb d_Mo_part_261 ?_
    refine lv_aload_n hx hb d_Mo_part_262 rfl (lv_at hl 4 rfl) ?_
    refine va_get (D := (dC, dI)) (ci := 7) (v := .ref q_o_read) (C := R_Mo) (T := T_Mo) (N := 18) hx hb hts (iw_Mo _) hown hK hP 0 rfl rfl 13 (by decide) (hts (.fieldLink R_Mo 38 "ShaderMachineModel" "read" "[I") (List.mem_cons_of_mem _ tw_741)) (fun _ h9 => h9) rfl d_Mo_part_263 ?_
    refine lv_iconst (v := 3) hx hb d_Mo_part_266 (by decide) ?_
    obtain ⟨c_41, h⟩ := ch_ite h
    refine va_iald hx hb hK hP 1 0 rfl rfl (ch_in c_41) d_Mo_part_267 ?_
    refine lv_aload_n hx hb d_Mo_part_268 rfl (lv_at hl 4 rfl) ?_
    refine va_get (D := (dC, dI)) (ci := 7) (v := .ref q_o_read) (C := R_Mo) (T := T_Mo) (N := 18) hx hb hts (iw_Mo _) hown hK hP 0 rfl rfl 13 (by decide) (hts (.fieldLink R_Mo 38 "ShaderMachineModel" "read" "[I") (List.mem_cons_of_mem _ tw_741)) (fun _ h9 => h9) rfl d_Mo_part_269 ?_
    refine lv_bipush (v := 7) hx hb d_Mo_part_272 (by decide) ?_
    obtain ⟨c_42, h⟩ := ch_ite h
    refine va_iald hx hb hK hP 1 0 rfl rfl (ch_in c_42) d_Mo_part_274 ?_
    obtain ⟨r_44, h_43, h⟩ := ch_bind h
    try dsimp only at h
    refine ck_goi (wc := []) (wr := [(q_o, .inr (7, [.int o_thrown, .ref q_o_memory, .ref q_o_program, .ref q_o_fresh, .int o_hasProgram, .int o_fault, .int o_place, .int o_told, .ref q_o_temporaries, .ref q_o_ins, .ref q_o_outs, .ref q_o_uniforms, .ref q_o_textures, .ref q_o_read, .ref q_o_result, .int o_killed, .ref q_o_left, .ref q_o_opening])), (q_o_read, .inl (cI, n_o_read, .inl f_o_read)), (q_o_textures, .inl (cI, n_o_textures, .inl f_o_textures)), (q_o_uniforms, .inl (cI, n_o_uniforms, .inl f_o_uniforms)), (q_o_memory, .inl (cI, n_o_memory, .inl f_o_memory))]) (w1 := []) (va_runS (As := [.int (f_o_read (3 : Int32).toNatClampNeg), .int (f_o_read (7 : Int32).toNatClampNeg)]) (rest := [.int ((r_32 + r_36) + r_40)]) ⟨hx, hb, hml, hown, hts⟩ (k_Mo_product l dC dI cI cJ (f_o_read (3 : Int32).toNatClampNeg) (f_o_read (7 : Int32).toNatClampNeg) r_44 h_43 _) (va_cwS 2 hts (gw_S tw_887 tw_888 tw_9 tw_889) rfl rfl rfl (by decide +kernel) ⟨Nat.le_of_ble_eq_true rfl, Nat.le_of_ble_eq_true rfl⟩) (ck_preS (wc := []) hK hP hD hS hA hE [] (by decide) rfl) rfl rfl hl.1 rfl (lv_room (Nat.le_of_ble_eq_true rfl)) d_Mo_part_275 ⟨Nat.le_of_ble_eq_true rfl, Nat.le_of_ble_eq_true rfl⟩) hP hD hS hA [] [0, 1, 2, 3, 4] rfl rfl (by decide) (by decide) (fun H locs hP hD hS => ?_)
    have hP : va_P (dC, dI) vwCl [(q_o, .inr (7, [.int o_thrown, .ref q_o_memory, .ref q_o_program, .ref q_o_fresh, .int o_hasProgram, .int o_fault, .int o_place, .int o_told, .ref q_o_temporaries, .ref q_o_ins, .ref q_o_outs, .ref q_o_uniforms, .ref q_o_textures, .ref q_o_read, .ref q_o_result, .int o_killed, .ref q_o_left, .ref q_o_opening])), (q_o_read, .inl (cI, n_o_read, .inl f_o_read)), (q_o_textures, .inl (cI, n_o_textures, .inl f_o_textures)), (q_o_uniforms, .inl (cI, n_o_uniforms, .inl f_o_uniforms)), (q_o_memory, .inl (cI, n_o_memory, .inl f_o_memory))] H := hP.sub [0, 1, 2, 3, 4] rfl
    have hD : va_D A [(q_o, .inr (7, [.int o_thrown, .ref q_o_memory, .ref q_o_program, .ref q_o_fresh, .int o_hasProgram, .int o_fault, .int o_place, .int o_told, .ref q_o_temporaries, .ref q_o_ins, .ref q_o_outs, .ref q_o_uniforms, .ref q_o_textures, .ref q_o_read, .ref q_o_result, .int o_killed, .ref q_o_left, .ref q_o_opening])), (q_o_read, .inl (cI, n_o_read, .inl f_o_read)), (q_o_textures, .inl (cI, n_o_textures, .inl f_o_textures)), (q_o_uniforms, .inl (cI, n_o_uniforms, .inl f_o_uniforms)), (q_o_memory, .inl (cI, n_o_memory, .inl f_o_memory))] := hD.sub [0, 1, 2, 3, 4] (by decide) rfl
    refine lv_iadd hx hb d_Mo_part_278 ?_
    cases h
    exact ck_iret hx hb hr hlk hK hP hD hS d_Mo_part_279
  rw [if_neg c_29] at h
  by_cases c_45 : p1 = 8
  · rw [if_pos c_45] at h
    refine lv_tableIn (tgt := 280) hx hb d_Mo_part_37 (by rw [c_45]; decide) (by rw [c_45]; decide) (by rw [c_45]; rfl) (by decide) ?_
    refine lv_iload_n hx hb d_Mo_part_280 rfl (lv_at hl 3 rfl) ?_
    refine lv_iload hx hb d_Mo_part_281 (lv_at hl 2 rfl) ?_
    refine lv_icmp_ge (tgt := 290) hx hb d_Mo_part_283 (by decide) (fun c_46 => ?_) (fun c_46 => ?_)
    · rw [if_pos c_46] at h
      refine lv_iload hx hb d_Mo_part_290 (lv_at hl 2 rfl) ?_
      cases h
      exact ck_iret hx hb hr hlk hK hP hD hS d_Mo_part_292
    · rw [if_neg c_46] at h
      refine lv_iload_n hx hb d_Mo_part_286 rfl (lv_at hl 3 rfl) ?_
      refine lv_goto (tgt := 292) hx hb d_Mo_part_287 (by decide) ?_
      cases h
      exact ck_iret hx hb hr hlk hK hP hD hS d_Mo_part_292
  rw [if_neg c_45] at h
  by_cases c_47 : p1 = 9
  · rw [if_pos c_47] at h
    refine lv_tableIn (tgt := 293) hx hb d_Mo_part_37 (by rw [c_47]; decide) (by rw [c_47]; decide) (by rw [c_47]; rfl) (by decide) ?_
    refine lv_iload_n hx hb d_Mo_part_293 rfl (lv_at hl 3 rfl) ?_
    refine lv_iload hx hb d_Mo_part_294 (lv_at hl 2 rfl) ?_
    refine lv_icmp_le (tgt := 303) hx hb d_Mo_part_296 (by decide) (fun c_48 => ?_) (fun c_48 => ?_)
    · rw [if_pos c_48] at h
      refine lv_iload hx hb d_Mo_part_303 (lv_at hl 2 rfl) ?_
      cases h
      exact ck_iret hx hb hr hlk hK hP hD hS d_Mo_part_305
    · rw [if_neg c_48] at h
      refine lv_iload_n hx hb d_Mo_part_299 rfl (lv_at hl 3 rfl) ?_
      refine lv_goto (tgt := 305) hx hb d_Mo_part_300 (by decide) ?_
      cases h
      exact ck_iret hx hb hr hlk hK hP hD hS d_Mo_part_305
  rw [if_neg c_47] at h
  by_cases c_49 : p1 = 10
  · rw [if_pos c_49] at h
    refine lv_tableIn (tgt := 306) hx hb d_Mo_part_37 (by rw [c_49]; decide) (by rw [c_49]; decide) (by rw [c_49]; rfl) (by decide) ?_
    refine lv_iload_n hx hb d_Mo_part_306 rfl (lv_at hl 3 rfl) ?_
    refine lv_ldc (v := -2147483648) hx hb hown (hts (.constant R_Mo 137 (-2147483648)) (by decide +kernel)) d_Mo_part_307 ?_
    refine lv_icmp_ne (tgt := 317) hx hb d_Mo_part_309 (by decide) (fun c_50 => ?_) (fun c_50 => ?_)
    · rw [if_neg c_50] at h
      refine lv_iload_n hx hb d_Mo_part_317 rfl (lv_at hl 3 rfl) ?_
      refine lv_if_ge (tgt := 326) hx hb d_Mo_part_318 (by decide) (fun c_51 => ?_) (fun c_51 => ?_)
      · rw [if_pos c_51] at h
        refine lv_iload_n hx hb d_Mo_part_326 rfl (lv_at hl 3 rfl) ?_
        cases h
        exact ck_iret hx hb hr hlk hK hP hD hS d_Mo_part_327
      · rw [if_neg c_51] at h
        refine lv_iload_n hx hb d_Mo_part_321 rfl (lv_at hl 3 rfl) ?_
        refine lv_ineg hx hb d_Mo_part_322 ?_
        refine lv_goto (tgt := 327) hx hb d_Mo_part_323 (by decide) ?_
        cases h
        exact ck_iret hx hb hr hlk hK hP hD hS d_Mo_part_327
    · rw [if_pos c_50] at h
      refine lv_ldc (v := 2147483647) hx hb hown (hts (.constant R_Mo 130 (2147483647)) (by decide +kernel)) d_Mo_part_312 ?_
      refine lv_goto (tgt := 327) hx hb d_Mo_part_314 (by decide) ?_
      cases h
      exact ck_iret hx hb hr hlk hK hP hD hS d_Mo_part_327
  rw [if_neg c_49] at h
  by_cases c_52 : p1 = 11
  · rw [if_pos c_52] at h
    refine lv_tableIn (tgt := 328) hx hb d_Mo_part_37 (by rw [c_52]; decide) (by rw [c_52]; decide) (by rw [c_52]; rfl) (by decide) ?_
    refine lv_iload_n hx hb d_Mo_part_328 rfl (lv_at hl 3 rfl) ?_
    refine lv_ldc (v := -65536) hx hb hown (hts (.constant R_Mo 143 (-65536)) (by decide +kernel)) d_Mo_part_329 ?_
    refine lv_iand hx hb d_Mo_part_331 ?_
    cases h
    exact ck_iret hx hb hr hlk hK hP hD hS d_Mo_part_332
  rw [if_neg c_52] at h
  by_cases c_53 : p1 = 12
  · rw [if_pos c_53] at h
    refine lv_tableIn (tgt := 333) hx hb d_Mo_part_37 (by rw [c_53]; decide) (by rw [c_53]; decide) (by rw [c_53]; rfl) (by decide) ?_
    refine lv_iload_n hx hb d_Mo_part_333 rfl (lv_at hl 3 rfl) ?_
    refine lv_ldc (v := 65535) hx hb hown (hts (.constant R_Mo 53 (65535)) (by decide +kernel)) d_Mo_part_334 ?_
    refine lv_iand hx hb d_Mo_part_336 ?_
    cases h
    exact ck_iret hx hb hr hlk hK hP hD hS d_Mo_part_337
  rw [if_neg c_53] at h
  by_cases c_54 : p1 = 13
  · rw [if_pos c_54] at h
    refine lv_tableIn (tgt := 338) hx hb d_Mo_part_37 (by rw [c_54]; decide) (by rw [c_54]; decide) (by rw [c_54]; rfl) (by decide) ?_
    refine lv_iload hx hb d_Mo_part_338 (lv_at hl 0 rfl) ?_
    obtain ⟨r_56, h_55, h⟩ := ch_bind h
    try dsimp only at h
    refine ck_goi (wc := []) (wr := [(q_o, .inr (7, [.int o_thrown, .ref q_o_memory, .ref q_o_program, .ref q_o_fresh, .int o_hasProgram, .int o_fault, .int o_place, .int o_told, .ref q_o_temporaries, .ref q_o_ins, .ref q_o_outs, .ref q_o_uniforms, .ref q_o_textures, .ref q_o_read, .ref q_o_result, .int o_killed, .ref q_o_left, .ref q_o_opening])), (q_o_read, .inl (cI, n_o_read, .inl f_o_read)), (q_o_textures, .inl (cI, n_o_textures, .inl f_o_textures)), (q_o_uniforms, .inl (cI, n_o_uniforms, .inl f_o_uniforms)), (q_o_memory, .inl (cI, n_o_memory, .inl f_o_memory))]) (w1 := []) (va_runS (As := [.int (f_o_read (0 : Int32).toNatClampNeg)]) (rest := []) ⟨hx, hb, hml, hown, hts⟩ (k_Mo_oneBy l dC dI cI cJ (f_o_read (0 : Int32).toNatClampNeg) r_56 h_55 _) (va_cwS 1 hts (gw_S tw_893 tw_894 tw_9 tw_895) rfl rfl rfl (by decide +kernel) ⟨Nat.le_of_ble_eq_true rfl, Nat.le_of_ble_eq_true rfl⟩) (ck_preS (wc := []) hK hP hD hS hA hE [] (by decide) rfl) rfl rfl hl.1 rfl (lv_room (Nat.le_of_ble_eq_true rfl)) d_Mo_part_340 ⟨Nat.le_of_ble_eq_true rfl, Nat.le_of_ble_eq_true rfl⟩) hP hD hS hA [] [0, 1, 2, 3, 4] rfl rfl (by decide) (by decide) (fun H locs hP hD hS => ?_)
    have hP : va_P (dC, dI) vwCl [(q_o, .inr (7, [.int o_thrown, .ref q_o_memory, .ref q_o_program, .ref q_o_fresh, .int o_hasProgram, .int o_fault, .int o_place, .int o_told, .ref q_o_temporaries, .ref q_o_ins, .ref q_o_outs, .ref q_o_uniforms, .ref q_o_textures, .ref q_o_read, .ref q_o_result, .int o_killed, .ref q_o_left, .ref q_o_opening])), (q_o_read, .inl (cI, n_o_read, .inl f_o_read)), (q_o_textures, .inl (cI, n_o_textures, .inl f_o_textures)), (q_o_uniforms, .inl (cI, n_o_uniforms, .inl f_o_uniforms)), (q_o_memory, .inl (cI, n_o_memory, .inl f_o_memory))] H := hP.sub [0, 1, 2, 3, 4] rfl
    have hD : va_D A [(q_o, .inr (7, [.int o_thrown, .ref q_o_memory, .ref q_o_program, .ref q_o_fresh, .int o_hasProgram, .int o_fault, .int o_place, .int o_told, .ref q_o_temporaries, .ref q_o_ins, .ref q_o_outs, .ref q_o_uniforms, .ref q_o_textures, .ref q_o_read, .ref q_o_result, .int o_killed, .ref q_o_left, .ref q_o_opening])), (q_o_read, .inl (cI, n_o_read, .inl f_o_read)), (q_o_textures, .inl (cI, n_o_textures, .inl f_o_textures)), (q_o_uniforms, .inl (cI, n_o_uniforms, .inl f_o_uniforms)), (q_o_memory, .inl (cI, n_o_memory, .inl f_o_memory))] := hD.sub [0, 1, 2, 3, 4] (by decide) rfl
    cases h
    exact ck_iret hx hb hr hlk hK hP hD hS d_Mo_part_343
  rw [if_neg c_54] at h
  by_cases c_57 : p1 = 14
  · rw [if_pos c_57] at h
    refine lv_tableIn (tgt := 344) hx hb d_Mo_part_37 (by rw [c_57]; decide) (by rw [c_57]; decide) (by rw [c_57]; rfl) (by decide) ?_
    refine lv_iload hx hb d_Mo_part_344 (lv_at hl 0 rfl) ?_
    refine lv_if_gt (tgt := 354) hx hb d_Mo_part_346 (by decide) (fun c_58 => ?_) (fun c_58 => ?_)
    · rw [if_pos c_58] at h
      refine lv_ldc2 (v := 281474976710656) hx hb hown (hts (.constantLong R_Mo 147 (281474976710656)) (by decide +kernel)) d_Mo_part_354 ?_
      refine lv_iload hx hb d_Mo_part_357 (lv_at hl 0 rfl) ?_
      refine lv_i2l hx hb d_Mo_part_359 rfl ?_
      obtain ⟨c_59, h⟩ := ch_ite h
      refine lv_ldiv hx hb d_Mo_part_360 c_59 ?_
      obtain ⟨r_61, h_60, h⟩ := ch_bind h
      try dsimp only at h
      refine ck_goi (wc := []) (wr := [(q_o, .inr (7, [.int o_thrown, .ref q_o_memory, .ref q_o_program, .ref q_o_fresh, .int o_hasProgram, .int o_fault, .int o_place, .int o_told, .ref q_o_temporaries, .ref q_o_ins, .ref q_o_outs, .ref q_o_uniforms, .ref q_o_textures, .ref q_o_read, .ref q_o_result, .int o_killed, .ref q_o_left, .ref q_o_opening])), (q_o_read, .inl (cI, n_o_read, .inl f_o_read)), (q_o_textures, .inl (cI, n_o_textures, .inl f_o_textures)), (q_o_uniforms, .inl (cI, n_o_uniforms, .inl f_o_uniforms)), (q_o_memory, .inl (cI, n_o_memory, .inl f_o_memory))]) (w1 := []) (va_runS (As := [.long ((281474976710656 : Int64) / ((f_o_read (0 : Int32).toNatClampNeg).toInt64))]) (rest := []) ⟨hx, hb, hml, hown, hts⟩ (k_Mo_greatest l dC dI cI cJ fu ((281474976710656 : Int64) / ((f_o_read (0 : Int32).toNatClampNeg).toInt64)) r_61 h_60 _) (va_cwS 1 hts (gw_S tw_900 tw_901 tw_9 tw_902) rfl rfl rfl (by decide +kernel) ⟨Nat.le_of_ble_eq_true rfl, Nat.le_of_ble_eq_true rfl⟩) (ck_preS (wc := []) hK hP hD hS hA hE [] (by decide) rfl) rfl rfl hl.1 rfl (lv_room (Nat.le_of_ble_eq_true rfl)) d_Mo_part_361 ⟨Nat.le_of_ble_eq_true rfl, Nat.le_of_ble_eq_true rfl⟩) hP hD hS hA [] [0, 1, 2, 3, 4] rfl rfl (by decide) (by decide) (fun H locs hP hD hS => ?_)
      have hP : va_P (dC, dI) vwCl [(q_o, .inr (7, [.int o_thrown, .ref q_o_memory, .ref q_o_program, .ref q_o_fresh, .int o_hasProgram, .int o_fault, .int o_place, .int o_told, .ref q_o_temporaries, .ref q_o_ins, .ref q_o_outs, .ref q_o_uniforms, .ref q_o_textures, .ref q_o_read, .ref q_o_result, .int o_killed, .ref q_o_left, .ref q_o_opening])), (q_o_read, .inl (cI, n_o_read, .inl f_o_read)), (q_o_textures, .inl (cI, n_o_textures, .inl f_o_textures)), (q_o_uniforms, .inl (cI, n_o_uniforms, .inl f_o_uniforms)), (q_o_memory, .inl (cI, n_o_memory, .inl f_o_memory))] H := hP.sub [0, 1, 2, 3, 4] rfl
      have hD : va_D A [(q_o, .inr (7, [.int o_thrown, .ref q_o_memory, .ref q_o_program, .ref q_o_fresh, .int o_hasProgram, .int o_fault, .int o_place, .int o_told, .ref q_o_temporaries, .ref q_o_ins, .ref q_o_outs, .ref q_o_uniforms, .ref q_o_textures, .ref q_o_read, .ref q_o_result, .int o_killed, .ref q_o_left, .ref q_o_opening])), (q_o_read, .inl (cI, n_o_read, .inl f_o_read)), (q_o_textures, .inl (cI, n_o_textures, .inl f_o_textures)), (q_o_uniforms, .inl (cI, n_o_uniforms, .inl f_o_uniforms)), (q_o_memory, .inl (cI, n_o_memory, .inl f_o_memory))] := hD.sub [0, 1, 2, 3, 4] (by decide) rfl
      cases h
      exact ck_iret hx hb hr hlk hK hP hD hS d_Mo_part_364
    · rw [if_neg c_58] at h
      refine lv_ldc (v := 2147483647) hx hb hown (hts (.constant R_Mo 130 (2147483647)) (by decide +kernel)) d_Mo_part_349 ?_
      refine lv_goto (tgt := 364) hx hb d_Mo_part_351 (by decide) ?_
      cases h
      exact ck_iret hx hb hr hlk hK hP hD hS d_Mo_part_364
  rw [if_neg c_57] at h
  by_cases c_62 : p1 = 15
  · rw [if_pos c_62] at h
    refine lv_tableIn (tgt := 365) hx hb d_Mo_part_37 (by rw [c_62]; decide) (by rw [c_62]; decide) (by rw [c_62]; rfl) (by decide) ?_
    refine lv_iload hx hb d_Mo_part_365 (lv_at hl 0 rfl) ?_
    refine lv_if_ge (tgt := 374) hx hb d_Mo_part_367 (by decide) (fun c_63 => ?_) (fun c_63 => ?_)
    · rw [if_pos c_63] at h
      refine lv_ldc2 (v := 65536) hx hb hown (hts (.constantLong R_Mo 112 (65536)) (by decide +kernel)) d_Mo_part_374 ?_
      refine lv_iload hx hb d_Mo_part_377 (lv_at hl 0 rfl) ?_
      refine lv_i2l hx hb d_Mo_part_379 rfl ?_
      refine lv_lmul hx hb d_Mo_part_380 ?_
      obtain ⟨r_65, h_64, h⟩ := ch_bind h
      try dsimp only at h
      refine ck_goi (wc := []) (wr := [(q_o, .inr (7, [.int o_thrown, .ref q_o_memory, .ref q_o_program, .ref q_o_fresh, .int o_hasProgram, .int o_fault, .int o_place, .int o_told, .ref q_o_temporaries, .ref q_o_ins, .ref q_o_outs, .ref q_o_uniforms, .ref q_o_textures, .ref q_o_read, .ref q_o_result, .int o_killed, .ref q_o_left, .ref q_o_opening])), (q_o_read, .inl (cI, n_o_read, .inl f_o_read)), (q_o_textures, .inl (cI, n_o_textures, .inl f_o_textures)), (q_o_uniforms, .inl (cI, n_o_uniforms, .inl f_o_uniforms)), (q_o_memory, .inl (cI, n_o_memory, .inl f_o_memory))]) (w1 := []) (va_runS (As := [.long ((65536 : Int64) * ((f_o_read (0 : Int32).toNatClampNeg).toInt64))]) (rest := []) ⟨hx, hb, hml, hown, hts⟩ (k_Mo_greatest l dC dI cI cJ fu ((65536 : Int64) * ((f_o_read (0 : Int32).toNatClampNeg).toInt64)) r_65 h_64 _) (va_cwS 1 hts (gw_S tw_900 tw_901 tw_9 tw_902) rfl rfl rfl (by decide +kernel) ⟨Nat.le_of_ble_eq_true rfl, Nat.le_of_ble_eq_true rfl⟩) (ck_preS (wc := []) hK hP hD hS hA hE [] (by decide) rfl) rfl rfl hl.1 rfl (lv_room (Nat.le_of_ble_eq_true rfl)) d_Mo_part_381 ⟨Nat.le_of_ble_eq_true rfl, Nat.le_of_ble_eq_true rfl⟩) hP hD hS hA [] [0, 1, 2, 3, 4] rfl rfl (by decide) (by decide) (fun H locs hP hD hS => ?_)
      have hP : va_P (dC, dI) vwCl [(q_o, .inr (7, [.int o_thrown, .ref q_o_memory, .ref q_o_program, .ref q_o_fresh, .int o_hasProgram, .int o_fault, .int o_place, .int o_told, .ref q_o_temporaries, .ref q_o_ins, .ref q_o_outs, .ref q_o_uniforms, .ref q_o_textures, .ref q_o_read, .ref q_o_result, .int o_killed, .ref q_o_left, .ref q_o_opening])), (q_o_read, .inl (cI, n_o_read, .inl f_o_read)), (q_o_textures, .inl (cI, n_o_textures, .inl f_o_textures)), (q_o_uniforms, .inl (cI, n_o_uniforms, .inl f_o_uniforms)), (q_o_memory, .inl (cI, n_o_memory, .inl f_o_memory))] H := hP.sub [0, 1, 2, 3, 4] rfl
      have hD : va_D A [(q_o, .inr (7, [.int o_thrown, .ref q_o_memory, .ref q_o_program, .ref q_o_fresh, .int o_hasProgram, .int o_fault, .int o_place, .int o_told, .ref q_o_temporaries, .ref q_o_ins, .ref q_o_outs, .ref q_o_uniforms, .ref q_o_textures, .ref q_o_read, .ref q_o_result, .int o_killed, .ref q_o_left, .ref q_o_opening])), (q_o_read, .inl (cI, n_o_read, .inl f_o_read)), (q_o_textures, .inl (cI, n_o_textures, .inl f_o_textures)), (q_o_uniforms, .inl (cI, n_o_uniforms, .inl f_o_uniforms)), (q_o_memory, .inl (cI, n_o_memory, .inl f_o_memory))] := hD.sub [0, 1, 2, 3, 4] (by decide) rfl
      cases h
      exact ck_iret hx hb hr hlk hK hP hD hS d_Mo_part_384
    · rw [if_neg c_63] at h
      refine lv_iconst (v := 0) hx hb d_Mo_part_370 (by decide) ?_
      refine lv_goto (tgt := 384) hx hb d_Mo_part_371 (by decide) ?_
      cases h
      exact ck_iret hx hb hr hlk hK hP hD hS d_Mo_part_384
  rw [if_neg c_62] at h
  by_cases c_66 : p1 = 16
  · rw [if_pos c_66] at h
    refine lv_tableIn (tgt := 385) hx hb d_Mo_part_37 (by rw [c_66]; decide) (by rw [c_66]; decide) (by rw [c_66]; rfl) (by decide) ?_
    refine lv_iload_n hx hb d_Mo_part_385 rfl (lv_at hl 3 rfl) ?_
    refine lv_iload hx hb d_Mo_part_386 (lv_at hl 2 rfl) ?_
    refine lv_icmp_ge (tgt := 396) hx hb d_Mo_part_388 (by decide) (fun c_67 => ?_) (fun c_67 => ?_)
    · rw [if_pos c_67] at h
      refine lv_iconst (v := 0) hx hb d_Mo_part_396 (by decide) ?_
      cases h
      exact ck_iret hx hb hr hlk hK hP hD hS d_Mo_part_397
    · rw [if_neg c_67] at h
      refine lv_ldc (v := 65536) hx hb hown (hts (.constant R_Mo 153 (65536)) (by decide +kernel)) d_Mo_part_391 ?_
      refine lv_goto (tgt := 397) hx hb d_Mo_part_393 (by decide) ?_
      cases h
      exact ck_iret hx hb hr hlk hK hP hD hS d_Mo_part_397
  rw [if_neg c_66] at h
  by_cases c_68 : p1 = 17
  · rw [if_pos c_68] at h
    refine lv_tableIn (tgt := 398) hx hb d_Mo_part_37 (by rw [c_68]; decide) (by rw [c_68]; decide) (by rw [c_68]; rfl) (by decide) ?_
    refine lv_iload_n hx hb d_Mo_part_398 rfl (lv_at hl 3 rfl) ?_
    refine lv_iload hx hb d_Mo_part_399 (lv_at hl 2 rfl) ?_
    refine lv_icmp_ge (tgt := 408) hx hb d_Mo_part_401 (by decide) (fun c_69 => ?_) (fun c_69 => ?_)
    · rw [if_pos c_69] at h
      refine lv_ldc (v := 65536) hx hb hown (hts (.constant R_Mo 153 (65536)) (by decide +kernel)) d_Mo_part_408 ?_
      cases h
      exact ck_iret hx hb hr hlk hK hP hD hS d_Mo_part_410
    · rw [if_neg c_69] at h
      refine lv_iconst (v := 0) hx hb d_Mo_part_404 (by decide) ?_
      refine lv_goto (tgt := 410) hx hb d_Mo_part_405 (by decide) ?_
      cases h
      exact ck_iret hx hb hr hlk hK hP hD hS d_Mo_part_410
  rw [if_neg c_68] at h
  by_cases c_70 : p1 = 18
  · rw [if_pos c_70] at h
    refine lv_tableIn (tgt := 411) hx hb d_Mo_part_37 (by rw [c_70]; decide) (by rw [c_70]; decide) (by rw [c_70]; rfl) (by decide) ?_
    refine lv_iload_n hx hb d_Mo_part_411 rfl (lv_at hl 3 rfl) ?_
    refine lv_iload hx hb d_Mo_part_412 (lv_at hl 2 rfl) ?_
    refine lv_icmp_ne (tgt := 422) hx hb d_Mo_part_414 (by decide) (fun c_71 => ?_) (fun c_71 => ?_)
    · rw [if_neg c_71] at h
      refine lv_iconst (v := 0) hx hb d_Mo_part_422 (by decide) ?_
      cases h
      exact ck_iret hx hb hr hlk hK hP hD hS d_Mo_part_423
    · rw [if_pos c_71] at h
      refine lv_ldc (v := 65536) hx hb hown (hts (.constant R_Mo 153 (65536)) (by decide +kernel)) d_Mo_part_417 ?_
      refine lv_goto (tgt := 423) hx hb d_Mo_part_419 (by decide) ?_
      cases h
      exact ck_iret hx hb hr hlk hK hP hD hS d_Mo_part_423
  rw [if_neg c_70] at h
  by_cases c_72 : p1 = 19
  · rw [if_pos c_72] at h
    refine lv_tableIn (tgt := 424) hx hb d_Mo_part_37 (by rw [c_72]; decide) (by rw [c_72]; decide) (by rw [c_72]; rfl) (by decide) ?_
    refine lv_iload_n hx hb d_Mo_part_424 rfl (lv_at hl 3 rfl) ?_
    refine lv_iload hx hb d_Mo_part_425 (lv_at hl 2 rfl) ?_
    refine lv_icmp_ne (tgt := 434) hx hb d_Mo_part_427 (by decide) (fun c_73 => ?_) (fun c_73 => ?_)
    · rw [if_neg c_73] at h
      refine lv_ldc (v := 65536) hx hb hown (hts (.constant R_Mo 153 (65536)) (by decide +kernel)) d_Mo_part_434 ?_
      cases h
      exact ck_iret hx hb hr hlk hK hP hD hS d_Mo_part_436
    · rw [if_pos c_73] at h
      refine lv_iconst (v := 0) hx hb d_Mo_part_430 (by decide) ?_
      refine lv_goto (tgt := 436) hx hb d_Mo_part_431 (by decide) ?_
      cases h
      exact ck_iret hx hb hr hlk hK hP hD hS d_Mo_part_436
  rw [if_neg c_72] at h
  by_cases c_74 : p1 = 20
  · rw [if_pos c_74] at h
    refine lv_tableIn (tgt := 437) hx hb d_Mo_part_37 (by rw [c_74]; decide) (by rw [c_74]; decide) (by rw [c_74]; rfl) (by decide) ?_
    refine lv_iload_n hx hb d_Mo_part_437 rfl (lv_at hl 3 rfl) ?_
    refine lv_if_lt (tgt := 446) hx hb d_Mo_part_438 (by decide) (fun c_75 => ?_) (fun c_75 => ?_)
    · rw [if_pos c_75] at h
      refine lv_iload hx hb d_Mo_part_446 (lv_at hl 1 rfl) ?_
      cases h
      exact ck_iret hx hb hr hlk hK hP hD hS d_Mo_part_448
    · rw [if_neg c_75] at h
      refine lv_iload hx hb d_Mo_part_441 (lv_at hl 2 rfl) ?_
      refine lv_goto (tgt := 448) hx hb d_Mo_part_443 (by decide) ?_
      cases h
      exact ck_iret hx hb hr hlk hK hP hD hS d_Mo_part_448
  rw [if_neg c_74] at h
  by_cases c_76 : p1 = 21
  · rw [if_pos c_76] at h
    refine lv_tableIn (tgt := 449) hx hb d_Mo_part_37 (by rw [c_76]; decide) (by rw [c_76]; decide) (by rw [c_76]; rfl) (by decide) ?_
    refine lv_iload_n hx hb d_Mo_part_449 rfl (lv_at hl 3 rfl) ?_
    refine lv_iload hx hb d_Mo_part_450 (lv_at hl 2 rfl) ?_
    refine lv_iload hx hb d_Mo_part_452 (lv_at hl 1 rfl) ?_
    refine lv_isub hx hb d_Mo_part_454 ?_
    obtain ⟨r_78, h_77, h⟩ := ch_bind h
    try dsimp only at h
    refine ck_goi (wc := []) (wr := [(q_o, .inr (7, [.int o_thrown, .ref q_o_memory, .ref q_o_program, .ref q_o_fresh, .int o_hasProgram, .int o_fault, .int o_place, .int o_told, .ref q_o_temporaries, .ref q_o_ins, .ref q_o_outs, .ref q_o_uniforms, .ref q_o_textures, .ref q_o_read, .ref q_o_result, .int o_killed, .ref q_o_left, .ref q_o_opening])), (q_o_read, .inl (cI, n_o_read, .inl f_o_read)), (q_o_textures, .inl (cI, n_o_textures, .inl f_o_textures)), (q_o_uniforms, .inl (cI, n_o_uniforms, .inl f_o_uniforms)), (q_o_memory, .inl (cI, n_o_memory, .inl f_o_memory))]) (w1 := []) (va_runS (As := [.int (f_o_read p2.toNatClampNeg), .int ((f_o_read ((4 : Int32) + p2).toNatClampNeg) - (f_o_read ((8 : Int32) + p2).toNatClampNeg))]) (rest := []) ⟨hx, hb, hml, hown, hts⟩ (k_Mo_product l dC dI cI cJ (f_o_read p2.toNatClampNeg) ((f_o_read ((4 : Int32) + p2).toNatClampNeg) - (f_o_read ((8 : Int32) + p2).toNatClampNeg)) r_78 h_77 _) (va_cwS 2 hts (gw_S tw_887 tw_888 tw_9 tw_889) rfl rfl rfl (by decide +kernel) ⟨Nat.le_of_ble_eq_true rfl, Nat.le_of_ble_eq_true rfl⟩) (ck_preS (wc := []) hK hP hD hS hA hE [] (by decide) rfl) rfl rfl hl.1 rfl (lv_room (Nat.le_of_ble_eq_true rfl)) d_Mo_part_455 ⟨Nat.le_of_ble_eq_true rfl, Nat.le_of_ble_eq_true rfl⟩) hP hD hS hA [] [0, 1, 2, 3, 4] rfl rfl (by decide) (by decide) (fun H locs hP hD hS => ?_)
    have hP : va_P (dC, dI) vwCl [(q_o, .inr (7, [.int o_thrown, .ref q_o_memory, .ref q_o_program, .ref q_o_fresh, .int o_hasProgram, .int o_fault, .int o_place, .int o_told, .ref q_o_temporaries, .ref q_o_ins, .ref q_o_outs, .ref q_o_uniforms, .ref q_o_textures, .ref q_o_read, .ref q_o_result, .int o_killed, .ref q_o_left, .ref q_o_opening])), (q_o_read, .inl (cI, n_o_read, .inl f_o_read)), (q_o_textures, .inl (cI, n_o_textures, .inl f_o_textures)), (q_o_uniforms, .inl (cI, n_o_uniforms, .inl f_o_uniforms)), (q_o_memory, .inl (cI, n_o_memory, .inl f_o_memory))] H := hP.sub [0, 1, 2, 3, 4] rfl
    have hD : va_D A [(q_o, .inr (7, [.int o_thrown, .ref q_o_memory, .ref q_o_program, .ref q_o_fresh, .int o_hasProgram, .int o_fault, .int o_place, .int o_told, .ref q_o_temporaries, .ref q_o_ins, .ref q_o_outs, .ref q_o_uniforms, .ref q_o_textures, .ref q_o_read, .ref q_o_result, .int o_killed, .ref q_o_left, .ref q_o_opening])), (q_o_read, .inl (cI, n_o_read, .inl f_o_read)), (q_o_textures, .inl (cI, n_o_textures, .inl f_o_textures)), (q_o_uniforms, .inl (cI, n_o_uniforms, .inl f_o_uniforms)), (q_o_memory, .inl (cI, n_o_memory, .inl f_o_memory))] := hD.sub [0, 1, 2, 3, 4] (by decide) rfl
    refine lv_iload hx hb d_Mo_part_458 (lv_at hl 1 rfl) ?_
    refine lv_iadd hx hb d_Mo_part_460 ?_
    cases h
    exact ck_iret hx hb hr hlk hK hP hD hS d_Mo_part_461
  rw [if_neg c_76] at h
  cases h
