def pf_Mo_more (p1 : Int32) (p2 : Int32) (o_told : Int32) (n_o_read : Nat) (f_o_read : Nat → Int32) (n_o_textures : Nat) (f_o_textures : Nat → Int32) (n_o_uniforms : Nat) (f_o_uniforms : Nat → Int32) (n_o_memory : Nat) (f_o_memory : Nat → Int32) : Option (Int32) :=
  if (0 : Int32) ≤ p2 ∧ p2.toNatClampNeg < n_o_read then (
  if (0 : Int32) ≤ ((4 : Int32) + p2) ∧ ((4 : Int32) + p2).toNatClampNeg < n_o_read then (
  if (0 : Int32) ≤ (0 : Int32) ∧ (0 : Int32).toNatClampNeg < n_o_read then (
  if p1 < 22 ∨ 40 < p1 then
    if (0 : Int32) ≤ (((4 : Int32) * o_told) + p2) ∧ (((4 : Int32) * o_told) + p2).toNatClampNeg < n_o_textures then (
    if (2 : Int32) ≤ p2 then
      if p2 = (2 : Int32) then
        if p1 = (33 : Int32) then
          if (0 : Int32) ≤ (2 : Int32) ∧ (2 : Int32).toNatClampNeg < n_o_read then (
          some ((f_o_textures (((4 : Int32) * o_told) + p2).toNatClampNeg) + (f_o_read (2 : Int32).toNatClampNeg))) else none
        else
          some ((f_o_textures (((4 : Int32) * o_told) + p2).toNatClampNeg) + (0 : Int32))
      else
        some ((f_o_textures (((4 : Int32) * o_told) + p2).toNatClampNeg) + (0 : Int32))
    else
      some ((f_o_textures (((4 : Int32) * o_told) + p2).toNatClampNeg) + (f_o_read p2.toNatClampNeg))) else none
  else
  if p1 = 22 then
    if p2 = (3 : Int32) then
      some (0 : Int32)
    else
      if (0 : Int32) ≤ ((p2 + (1 : Int32)) - (p2 + (1 : Int32)) / (3 : Int32) * (3 : Int32)) ∧ ((p2 + (1 : Int32)) - (p2 + (1 : Int32)) / (3 : Int32) * (3 : Int32)).toNatClampNeg < n_o_read then (
      if (0 : Int32) ≤ ((4 : Int32) + ((p2 + (2 : Int32)) - (p2 + (2 : Int32)) / (3 : Int32) * (3 : Int32))) ∧ ((4 : Int32) + ((p2 + (2 : Int32)) - (p2 + (2 : Int32)) / (3 : Int32) * (3 : Int32))).toNatClampNeg < n_o_read then (
      Option.bind (pf_Mo_product (f_o_read ((p2 + (1 : Int32)) - (p2 + (1 : Int32)) / (3 : Int32) * (3 : Int32)).toNatClampNeg) (f_o_read ((4 : Int32) + ((p2 + (2 : Int32)) - (p2 + (2 : Int32)) / (3 : Int32) * (3 : Int32))).toNatClampNeg)) (fun r_15 => 
      if (0 : Int32) ≤ ((p2 + (2 : Int32)) - (p2 + (2 : Int32)) / (3 : Int32) * (3 : Int32)) ∧ ((p2 + (2 : Int32)) - (p2 + (2 : Int32)) / (3 : Int32) * (3 : Int32)).toNatClampNeg < n_o_read then (
      if (0 : Int32) ≤ ((4 : Int32) + ((p2 + (1 : Int32)) - (p2 + (1 : Int32)) / (3 : Int32) * (3 : Int32))) ∧ ((4 : Int32) + ((p2 + (1 : Int32)) - (p2 + (1 : Int32)) / (3 : Int32) * (3 : Int32))).toNatClampNeg < n_o_read then (
      Option.bind (pf_Mo_product (f_o_read ((p2 + (2 : Int32)) - (p2 + (2 : Int32)) / (3 : Int32) * (3 : Int32)).toNatClampNeg) (f_o_read ((4 : Int32) + ((p2 + (1 : Int32)) - (p2 + (1 : Int32)) / (3 : Int32) * (3 : Int32))).toNatClampNeg)) (fun r_19 => 
      some (r_15 - r_19))) else none) else none)) else none) else none
  else
  if p1 = 23 then
    some ((f_o_read p2.toNatClampNeg) &&& (f_o_read ((4 : Int32) + p2).toNatClampNeg))
  else
  if p1 = 24 then
    some ((f_o_read p2.toNatClampNeg) ||| (f_o_read ((4 : Int32) + p2).toNatClampNeg))
  else
  if p1 = 25 then
    some ((f_o_read p2.toNatClampNeg) ^^^ (f_o_read ((4 : Int32) + p2).toNatClampNeg))
  else
  if p1 = 26 then
    some ((f_o_read p2.toNatClampNeg) ^^^ (-1 : Int32))
  else
  if p1 = 27 then
    some ((f_o_read p2.toNatClampNeg) <<< (((f_o_read ((4 : Int32) + p2).toNatClampNeg) &&& (31 : Int32)) &&& 31))
  else
  if p1 = 28 then
    some ((f_o_read p2.toNatClampNeg) >>> (((f_o_read ((4 : Int32) + p2).toNatClampNeg) &&& (31 : Int32)) &&& 31))
  else
  if p1 = 29 then
    some (((f_o_read p2.toNatClampNeg).toUInt32 >>> (((f_o_read ((4 : Int32) + p2).toNatClampNeg) &&& (31 : Int32)).toUInt32 &&& Int32.toUInt32 31)).toInt32)
  else
  if p1 = 30 then
    if ((f_o_read (0 : Int32).toNatClampNeg) >>> ((16 : Int32) &&& 31)) < 0 then
      some (0 : Int32)
    else
      if (32 : Int32) ≤ ((f_o_read (0 : Int32).toNatClampNeg) >>> ((16 : Int32) &&& 31)) then
        some (0 : Int32)
      else
        if (0 : Int32) ≤ (((4 : Int32) * ((f_o_read (0 : Int32).toNatClampNeg) >>> ((16 : Int32) &&& 31))) + p2) ∧ (((4 : Int32) * ((f_o_read (0 : Int32).toNatClampNeg) >>> ((16 : Int32) &&& 31))) + p2).toNatClampNeg < n_o_uniforms then (
        some (f_o_uniforms (((4 : Int32) * ((f_o_read (0 : Int32).toNatClampNeg) >>> ((16 : Int32) &&& 31))) + p2).toNatClampNeg)) else none
  else
  if p1 = 31 then
    Option.bind (pf_Mo_word (((f_o_read (0 : Int32).toNatClampNeg) >>> ((16 : Int32) &&& 31)) + p2) n_o_memory f_o_memory) (fun r_33 => 
    some r_33)
  else
  if p1 = 32 then
    if (0 : Int32) ≤ (((4 : Int32) * o_told) + p2) ∧ (((4 : Int32) * o_told) + p2).toNatClampNeg < n_o_textures then (
    if (2 : Int32) ≤ p2 then
      if p2 = (2 : Int32) then
        if p1 = (33 : Int32) then
          if (0 : Int32) ≤ (2 : Int32) ∧ (2 : Int32).toNatClampNeg < n_o_read then (
          some ((f_o_textures (((4 : Int32) * o_told) + p2).toNatClampNeg) + (f_o_read (2 : Int32).toNatClampNeg))) else none
        else
          some ((f_o_textures (((4 : Int32) * o_told) + p2).toNatClampNeg) + (0 : Int32))
      else
        some ((f_o_textures (((4 : Int32) * o_told) + p2).toNatClampNeg) + (0 : Int32))
    else
      some ((f_o_textures (((4 : Int32) * o_told) + p2).toNatClampNeg) + (f_o_read p2.toNatClampNeg))) else none
  else
  if p1 = 33 then
    if (0 : Int32) ≤ (((4 : Int32) * o_told) + p2) ∧ (((4 : Int32) * o_told) + p2).toNatClampNeg < n_o_textures then (
    if (2 : Int32) ≤ p2 then
      if p2 = (2 : Int32) then
        if p1 = (33 : Int32) then
          if (0 : Int32) ≤ (2 : Int32) ∧ (2 : Int32).toNatClampNeg < n_o_read then (
          some ((f_o_textures (((4 : Int32) * o_told) + p2).toNatClampNeg) + (f_o_read (2 : Int32).toNatClampNeg))) else none
        else
          some ((f_o_textures (((4 : Int32) * o_told) + p2).toNatClampNeg) + (0 : Int32))
      else
        some ((f_o_textures (((4 : Int32) * o_told) + p2).toNatClampNeg) + (0 : Int32))
    else
      some ((f_o_textures (((4 : Int32) * o_told) + p2).toNatClampNeg) + (f_o_read p2.toNatClampNeg))) else none
  else
  if p1 = 34 then
    if (0 : Int32) ≤ (((4 : Int32) * o_told) + p2) ∧ (((4 : Int32) * o_told) + p2).toNatClampNeg < n_o_textures then (
    if (2 : Int32) ≤ p2 then
      if p2 = (2 : Int32) then
        if p1 = (33 : Int32) then
          if (0 : Int32) ≤ (2 : Int32) ∧ (2 : Int32).toNatClampNeg < n_o_read then (
          some ((f_o_textures (((4 : Int32) * o_told) + p2).toNatClampNeg) + (f_o_read (2 : Int32).toNatClampNeg))) else none
        else
          some ((f_o_textures (((4 : Int32) * o_told) + p2).toNatClampNeg) + (0 : Int32))
      else
        some ((f_o_textures (((4 : Int32) * o_told) + p2).toNatClampNeg) + (0 : Int32))
    else
      some ((f_o_textures (((4 : Int32) * o_told) + p2).toNatClampNeg) + (f_o_read p2.toNatClampNeg))) else none
  else
  if p1 = 35 then
    if (0 : Int32) ≤ (((4 : Int32) * o_told) + p2) ∧ (((4 : Int32) * o_told) + p2).toNatClampNeg < n_o_textures then (
    if (2 : Int32) ≤ p2 then
      if p2 = (2 : Int32) then
        if p1 = (33 : Int32) then
          if (0 : Int32) ≤ (2 : Int32) ∧ (2 : Int32).toNatClampNeg < n_o_read then (
          some ((f_o_textures (((4 : Int32) * o_told) + p2).toNatClampNeg) + (f_o_read (2 : Int32).toNatClampNeg))) else none
        else
          some ((f_o_textures (((4 : Int32) * o_told) + p2).toNatClampNeg) + (0 : Int32))
      else
        some ((f_o_textures (((4 : Int32) * o_told) + p2).toNatClampNeg) + (0 : Int32))
    else
      some ((f_o_textures (((4 : Int32) * o_told) + p2).toNatClampNeg) + (f_o_read p2.toNatClampNeg))) else none
  else
  if p1 = 36 then
    if (0 : Int32) ≤ (((4 : Int32) * o_told) + p2) ∧ (((4 : Int32) * o_told) + p2).toNatClampNeg < n_o_textures then (
    if (2 : Int32) ≤ p2 then
      if p2 = (2 : Int32) then
        if p1 = (33 : Int32) then
          if (0 : Int32) ≤ (2 : Int32) ∧ (2 : Int32).toNatClampNeg < n_o_read then (
          some ((f_o_textures (((4 : Int32) * o_told) + p2).toNatClampNeg) + (f_o_read (2 : Int32).toNatClampNeg))) else none
        else
          some ((f_o_textures (((4 : Int32) * o_told) + p2).toNatClampNeg) + (0 : Int32))
      else
        some ((f_o_textures (((4 : Int32) * o_told) + p2).toNatClampNeg) + (0 : Int32))
    else
      some ((f_o_textures (((4 : Int32) * o_told) + p2).toNatClampNeg) + (f_o_read p2.toNatClampNeg))) else none
  else
  if p1 = 37 then
    if (0 : Int32) ≤ (((4 : Int32) * o_told) + p2) ∧ (((4 : Int32) * o_told) + p2).toNatClampNeg < n_o_textures then (
    if (2 : Int32) ≤ p2 then
      if p2 = (2 : Int32) then
        if p1 = (33 : Int32) then
          if (0 : Int32) ≤ (2 : Int32) ∧ (2 : Int32).toNatClampNeg < n_o_read then (
          some ((f_o_textures (((4 : Int32) * o_told) + p2).toNatClampNeg) + (f_o_read (2 : Int32).toNatClampNeg))) else none
        else
          some ((f_o_textures (((4 : Int32) * o_told) + p2).toNatClampNeg) + (0 : Int32))
      else
        some ((f_o_textures (((4 : Int32) * o_told) + p2).toNatClampNeg) + (0 : Int32))
    else
      some ((f_o_textures (((4 : Int32) * o_told) + p2).toNatClampNeg) + (f_o_read p2.toNatClampNeg))) else none
  else
  if p1 = 38 then
    if (0 : Int32) ≤ (((4 : Int32) * o_told) + p2) ∧ (((4 : Int32) * o_told) + p2).toNatClampNeg < n_o_textures then (
    if (2 : Int32) ≤ p2 then
      if p2 = (2 : Int32) then
        if p1 = (33 : Int32) then
          if (0 : Int32) ≤ (2 : Int32) ∧ (2 : Int32).toNatClampNeg < n_o_read then (
          some ((f_o_textures (((4 : Int32) * o_told) + p2).toNatClampNeg) + (f_o_read (2 : Int32).toNatClampNeg))) else none
        else
          some ((f_o_textures (((4 : Int32) * o_told) + p2).toNatClampNeg) + (0 : Int32))
      else
        some ((f_o_textures (((4 : Int32) * o_told) + p2).toNatClampNeg) + (0 : Int32))
    else
      some ((f_o_textures (((4 : Int32) * o_told) + p2).toNatClampNeg) + (f_o_read p2.toNatClampNeg))) else none
  else
  if p1 = 39 then
    some ((f_o_read p2.toNatClampNeg) >>> ((16 : Int32) &&& 31))
  else
  if p1 = 40 then
    some ((f_o_read p2.toNatClampNeg) <<< ((16 : Int32) &&& 31))
  else
    none) else none) else none) else none
set_option maxHeartbeats 4000000 in
set_option maxRecDepth 100000 in
theorem k_Mo_more (l : Launch) (dC : Nat → ClassId) (dI : Nat → Nat → Nat) (cI cJ : ClassId) (p1 : Int32) (p2 : Int32) (o_thrown : Int32) (o_hasProgram : Int32) (o_fault : Int32) (o_place : Int32) (o_told : Int32) (o_killed : Int32) (n_o_read : Nat) (f_o_read : Nat → Int32) (n_o_textures : Nat) (f_o_textures : Nat → Int32) (n_o_uniforms : Nat) (f_o_uniforms : Nat → Int32) (n_o_memory : Nat) (f_o_memory : Nat → Int32) (q_o : Nat) (q_o_memory : Nat) (q_o_program : Nat) (q_o_fresh : Nat) (q_o_temporaries : Nat) (q_o_ins : Nat) (q_o_outs : Nat) (q_o_uniforms : Nat) (q_o_textures : Nat) (q_o_read : Nat) (q_o_result : Nat) (q_o_left : Nat) (q_o_opening : Nat) (r : Int32) (h : pf_Mo_more p1 p2 o_told n_o_read f_o_read n_o_textures f_o_textures n_o_uniforms f_o_uniforms n_o_memory f_o_memory = some r) : ck_i l y_Mo_more wm_Mo_more ({ frames := 1, cells := 0, slots := 0, locals := 21 } : Room) [.ref q_o, .int p1, .int p2] (dC, dI) [(cI, .int), (cJ, .long)] [(q_o, .inr (7, [.int o_thrown, .ref q_o_memory, .ref q_o_program, .ref q_o_fresh, .int o_hasProgram, .int o_fault, .int o_place, .int o_told, .ref q_o_temporaries, .ref q_o_ins, .ref q_o_outs, .ref q_o_uniforms, .ref q_o_textures, .ref q_o_read, .ref q_o_result, .int o_killed, .ref q_o_left, .ref q_o_opening])), (q_o_read, .inl (cI, n_o_read, .inl f_o_read)), (q_o_textures, .inl (cI, n_o_textures, .inl f_o_textures)), (q_o_uniforms, .inl (cI, n_o_uniforms, .inl f_o_uniforms)), (q_o_memory, .inl (cI, n_o_memory, .inl f_o_memory))] r [(q_o, .inr (7, [.int o_thrown, .ref q_o_memory, .ref q_o_program, .ref q_o_fresh, .int o_hasProgram, .int o_fault, .int o_place, .int o_told, .ref q_o_temporaries, .ref q_o_ins, .ref q_o_outs, .ref q_o_uniforms, .ref q_o_textures, .ref q_o_read, .ref q_o_result, .int o_killed, .ref q_o_left, .ref q_o_opening])), (q_o_read, .inl (cI, n_o_read, .inl f_o_read)), (q_o_textures, .inl (cI, n_o_textures, .inl f_o_textures)), (q_o_uniforms, .inl (cI, n_o_uniforms, .inl f_o_uniforms)), (q_o_memory, .inl (cI, n_o_memory, .inl f_o_memory))] := by
  refine ck_ofi (cc := c_Mo_more) (maxL := 8) (ret := (some .int)) (by decide +kernel) rfl ?_
  intro p e s m below meth c A C0 hK hP hD hS hE
  obtain ⟨hx, hb, hr, hml, hown, hts, hlk, hA, hin⟩ := C0
  unfold pf_Mo_more at h
  have hl := lv_entry ([.ref q_o, .int p1, .int p2]) (n := 8) (Nat.le_of_ble_eq_true rfl)
  rw [lg_entry_eq]
  generalize (lg_sl ([.ref q_o, .int p1, .int p2]) ++ List.replicate (8 - (lg_sl ([.ref q_o, .int p1, .int p2])).length) Slot.unset).toArray = ls at hl ⊢
  have hl : lv_has ls 8 [(0, .ref q_o), (1, .int p1), (2, .int p2)] := hl
  refine lv_aload_n hx hb d_Mo_more_0 rfl (lv_at hl 0 rfl) ?_
  refine va_get (D := (dC, dI)) (ci := 7) (v := .ref q_o_read) (C := R_Mo) (T := T_Mo) (N := 18) hx hb hts (iw_Mo _) hown hK hP 0 rfl rfl 13 (by decide) (hts (.fieldLink R_Mo 38 "ShaderMachineModel" "read" "[I") (List.mem_cons_of_mem _ tw_741)) (fun _ h9 => h9) rfl d_Mo_more_1 ?_
  refine lv_iload_n hx hb d_Mo_more_4 rfl (lv_at hl 2 rfl) ?_
  obtain ⟨c_1, h⟩ := ch_ite h
  refine va_iald hx hb hK hP 1 0 rfl rfl (ch_in c_1) d_Mo_more_5 ?_
  refine lv_istore_n (lv' := [(3, .int (f_o_read p2.toNatClampNeg)), (0, .ref q_o), (1, .int p1), (2, .int p2)]) hx hb d_Mo_more_6 rfl hl (by decide) rfl (fun ls hl => ?_)
  refine lv_aload_n hx hb d_Mo_more_7 rfl (lv_at hl 1 rfl) ?_
  refine va_get (D := (dC, dI)) (ci := 7) (v := .ref q_o_read) (C := R_Mo) (T := T_Mo) (N := 18) hx hb hts (iw_Mo _) hown hK hP 0 rfl rfl 13 (by decide) (hts (.fieldLink R_Mo 38 "ShaderMachineModel" "read" "[I") (List.mem_cons_of_mem _ tw_741)) (fun _ h9 => h9) rfl d_Mo_more_8 ?_
  refine lv_iconst (v := 4) hx hb d_Mo_more_11 (by decide) ?_
  refine lv_iload_n hx hb d_Mo_more_12 rfl (lv_at hl 3 rfl) ?_
  refine lv_iadd hx hb d_Mo_more_13 ?_
  obtain ⟨c_2, h⟩ := ch_ite h
  refine va_iald hx hb hK hP 1 0 rfl rfl (ch_in c_2) d_Mo_more_14 ?_
  refine lv_istore (lv' := [(4, .int (f_o_read ((4 : Int32) + p2).toNatClampNeg)), (3, .int (f_o_read p2.toNatClampNeg)), (0, .ref q_o), (1, .int p1), (2, .int p2)]) hx hb d_Mo_more_15 hl (by decide) rfl (fun ls hl => ?_)
  refine lv_aload_n hx hb d_Mo_more_17 rfl (lv_at hl 2 rfl) ?_
  refine va_get (D := (dC, dI)) (ci := 7) (v := .ref q_o_read) (C := R_Mo) (T := T_Mo) (N := 18) hx hb hts (iw_Mo _) hown hK hP 0 rfl rfl 13 (by decide) (hts (.fieldLink R_Mo 38 "ShaderMachineModel" "read" "[I") (List.mem_cons_of_mem _ tw_741)) (fun _ h9 => h9) rfl d_Mo_more_18 ?_
  refine lv_iconst (v := 0) hx hb d_Mo_more_21 (by decide) ?_
  obtain ⟨c_3, h⟩ := ch_ite h
  refine va_iald hx hb hK hP 1 0 rfl rfl (ch_in c_3) d_Mo_more_22 ?_
  refine lv_bipush (v := 16) hx hb d_Mo_more_23 (by decide) ?_
  refine lv_ishr hx hb d_Mo_more_25 ?_
  refine lv_istore (lv' := [(5, .int ((f_o_read (0 : Int32).toNatClampNeg) >>> ((16 : Int32) &&& 31))), (4, .int (f_o_read ((4 : Int32) + p2).toNatClampNeg)), (3, .int (f_o_read p2.toNatClampNeg)), (0, .ref q_o), (1, .int p1), (2, .int p2)]) hx hb d_Mo_more_26 hl (by decide) rfl (fun ls hl => ?_)
  refine lv_iload_n hx hb d_Mo_more_28 rfl (lv_at hl 4 rfl) ?_
  by_cases c_4 : p1 < 22 ∨ 40 < p1
  · rw [if_pos c_4] at h
    refine lv_tableOut (tgt := 273) hx hb d_Mo_more_29 (ch_out c_4 (by decide) (by decide)) (by decide) ?_
    refine lv_aload_n hx hb d_Mo_more_273 rfl (lv_at hl 3 rfl) ?_
    refine va_get (D := (dC, dI)) (ci := 7) (v := .ref q_o_textures) (C := R_Mo) (T := T_Mo) (N := 18) hx hb hts (iw_Mo _) hown hK hP 0 rfl rfl 12 (by decide) (hts (.fieldLink R_Mo 35 "ShaderMachineModel" "textures" "[I") (List.mem_cons_of_mem _ tw_740)) (fun _ h9 => h9) rfl d_Mo_more_274 ?_
    refine lv_iconst (v := 4) hx hb d_Mo_more_277 (by decide) ?_
    refine lv_aload_n hx hb d_Mo_more_278 rfl (lv_at hl 3 rfl) ?_
    refine va_get (D := (dC, dI)) (ci := 7) (v := .int o_told) (C := R_Mo) (T := T_Mo) (N := 18) hx hb hts (iw_Mo _) hown hK hP 0 rfl rfl 7 (by decide) (hts (.fieldLink R_Mo 160 "ShaderMachineModel" "told" "I") (List.mem_cons_of_mem _ tw_735)) (fun _ h9 => h9) rfl d_Mo_more_279 ?_
    refine lv_imul hx hb d_Mo_more_282 ?_
    refine lv_iload_n hx hb d_Mo_more_283 rfl (lv_at hl 5 rfl) ?_
    refine lv_iadd hx hb d_Mo_more_284 ?_
    obtain ⟨c_5, h⟩ := ch_ite h
    refine va_iald hx hb hK hP 2 0 rfl rfl (ch_in c_5) d_Mo_more_285 ?_
    refine lv_iload_n hx hb d_Mo_more_286 rfl (lv_at hl 5 rfl) ?_
    refine lv_iconst (v := 2) hx hb d_Mo_more_287 (by decide) ?_
    refine lv_icmp_ge (tgt := 300) hx hb d_Mo_more_288 (by decide) (fun c_6 => ?_) (fun c_6 => ?_)
    · rw [if_pos c_6] at h
      refine lv_iload_n hx hb d_Mo_more_300 rfl (lv_at hl 5 rfl) ?_
      refine lv_iconst (v := 2) hx hb d_Mo_more_301 (by decide) ?_
      refine lv_icmp_ne (tgt := 320) hx hb d_Mo_more_302 (by decide) (fun c_7 => ?_) (fun c_7 => ?_)
      · rw [if_neg c_7] at h
        refine lv_iconst (v := 0) hx hb d_Mo_more_320 (by decide) ?_
        refine lv_iadd hx hb d_Mo_more_321 ?_
        cases h
        exact ck_iret hx hb hr hlk hK hP hD hS d_Mo_more_322
      · rw [if_pos c_7] at h
        refine lv_iload_n hx hb d_Mo_more_305 rfl (lv_at hl 4 rfl) ?_
        refine lv_bipush (v := 33) hx hb d_Mo_more_306 (by decide) ?_
        refine lv_icmp_ne (tgt := 320) hx hb d_Mo_more_308 (by decide) (fun c_8 => ?_) (fun c_8 => ?_)
        · rw [if_neg c_8] at h
          refine lv_iconst (v := 0) hx hb d_Mo_more_320 (by decide) ?_
          refine lv_iadd hx hb d_Mo_more_321 ?_
          cases h
          exact ck_iret hx hb hr hlk hK hP hD hS d_Mo_more_322
        · rw [if_pos c_8] at h
          refine lv_aload_n hx hb d_Mo_more_311 rfl (lv_at hl 3 rfl) ?_
          refine va_get (D := (dC, dI)) (ci := 7) (v := .ref q_o_read) (C := R_Mo) (T := T_Mo) (N := 18) hx hb hts (iw_Mo _) hown hK hP 0 rfl rfl 13 (by decide) (hts (.fieldLink R_Mo 38 "ShaderMachineModel" "read" "[I") (List.mem_cons_of_mem _ tw_741)) (fun _ h9 => h9) rfl d_Mo_more_312 ?_
          refine lv_iconst (v := 2) hx hb d_Mo_more_315 (by decide) ?_
          obtain ⟨c_9, h⟩ := ch_ite h
          refine va_iald hx hb hK hP 1 0 rfl rfl (ch_in c_9) d_Mo_more_316 ?_
          refine lv_goto (tgt := 321) hx hb d_Mo_more_317 (by decide) ?_
          refine lv_iadd hx hb d_Mo_more_321 ?_
          cases h
          exact ck_iret hx hb hr hlk hK hP hD hS d_Mo_more_322
    · rw [if_neg c_6] at h
      refine lv_aload_n hx hb d_Mo_more_291 rfl (lv_at hl 3 rfl) ?_
      refine va_get (D := (dC, dI)) (ci := 7) (v := .ref q_o_read) (C := R_Mo) (T := T_Mo) (N := 18) hx hb hts (iw_Mo _) hown hK hP 0 rfl rfl 13 (by decide) (hts (.fieldLink R_Mo 38 "ShaderMachineModel" "read" "[I") (List.mem_cons_of_mem _ tw_741)) (fun _ h9 => h9) rfl d_Mo_more_292 ?_
      refine lv_iload_n hx hb d_Mo_more_295 rfl (lv_at hl 5 rfl) ?_
      refine va_iald hx hb hK hP 1 0 rfl rfl (ch_in c_1) d_Mo_more_296 ?_
      refine lv_goto (tgt := 321) hx hb d_Mo_more_297 (by decide) ?_
      refine lv_iadd hx hb d_Mo_more_321 ?_
      cases h
      exact ck_iret hx hb hr hlk hK hP hD hS d_Mo_more_322
  rw [if_neg c_4] at h
  by_cases c_10 : p1 = 22
  · rw [if_pos c_10] at h
    refine lv_tableIn (tgt := 120) hx hb d_Mo_more_29 (by rw [c_10]; decide) (by rw [c_10]; decide) (by rw [c_10]; rfl) (by decide) ?_
    refine lv_iload_n hx hb d_Mo_more_120 rfl (lv_at hl 5 rfl) ?_
    refine lv_iconst (v := 1) hx hb d_Mo_more_121 (by decide) ?_
    refine lv_iadd hx hb d_Mo_more_122 ?_
    refine lv_iconst (v := 3) hx hb d_Mo_more_123 (by decide) ?_
    refine lv_irem hx hb d_Mo_more_124 (by decide) ?_
    refine lv_istore (lv' := [(6, .int ((p2 + (1 : Int32)) - (p2 + (1 : Int32)) / (3 : Int32) * (3 : Int32))), (5, .int ((f_o_read (0 : Int32).toNatClampNeg) >>> ((16 : Int32) &&& 31))), (4, .int (f_o_read ((4 : Int32) + p2).toNatClampNeg)), (3, .int (f_o_read p2.toNatClampNeg)), (0, .ref q_o), (1, .int p1), (2, .int p2)]) hx hb d_Mo_more_125 hl (by decide) rfl (fun ls hl => ?_)
    refine lv_iload_n hx hb d_Mo_more_127 rfl (lv_at hl 6 rfl) ?_
    refine lv_iconst (v := 2) hx hb d_Mo_more_128 (by decide) ?_
    refine lv_iadd hx hb d_Mo_more_129 ?_
    refine lv_iconst (v := 3) hx hb d_Mo_more_130 (by decide) ?_
    refine lv_irem hx hb d_Mo_more_131 (by decide) ?_
    refine lv_istore (lv' := [(7, .int ((p2 + (2 : Int32)) - (p2 + (2 : Int32)) / (3 : Int32) * (3 : Int32))), (6, .int ((p2 + (1 : Int32)) - (p2 + (1 : Int32)) / (3 : Int32) * (3 : Int32))), (5, .int ((f_o_read (0 : Int32).toNatClampNeg) >>> ((16 : Int32) &&& 31))), (4, .int (f_o_read ((4 : Int32) + p2).toNatClampNeg)), (3, .int (f_o_read p2.toNatClampNeg)), (0, .ref q_o), (1, .int p1), (2, .int p2)]) hx hb d_Mo_more_132 hl (by decide) rfl (fun ls hl => ?_)
    refine lv_iload_n hx hb d_Mo_more_134 rfl (lv_at hl 7 rfl) ?_
    refine lv_iconst (v := 3) hx hb d_Mo_more_135 (by decide) ?_
    refine lv_icmp_ne (tgt := 143) hx hb d_Mo_more_136 (by decide) (fun c_11 => ?_) (fun c_11 => ?_)
    · rw [if_neg c_11] at h
      refine lv_aload_n hx hb d_Mo_more_143 rfl (lv_at hl 5 rfl) ?_
      refine va_get (D := (dC, dI)) (ci := 7) (v := .ref q_o_read) (C := R_Mo) (T := T_Mo) (N := 18) hx hb hts (iw_Mo _) hown hK hP 0 rfl rfl 13 (by decide) (hts (.fieldLink R_Mo 38 "ShaderMachineModel" "read" "[I") (List.mem_cons_of_mem _ tw_741)) (fun _ h9 => h9) rfl d_Mo_more_144 ?_
      refine lv_iload hx hb d_Mo_more_147 (lv_at hl 1 rfl) ?_
      obtain ⟨c_12, h⟩ := ch_ite h
      refine va_iald hx hb hK hP 1 0 rfl rfl (ch_in c_12) d_Mo_more_149 ?_
      refine lv_aload_n hx hb d_Mo_more_150 rfl (lv_at hl 5 rfl) ?_
      refine va_get (D := (dC, dI)) (ci := 7) (v := .ref q_o_read) (C := R_Mo) (T := T_Mo) (N := 18) hx hb hts (iw_Mo _) hown hK hP 0 rfl rfl 13 (by decide) (hts (.fieldLink R_Mo 38 "ShaderMachineModel" "read" "[I") (List.mem_cons_of_mem _ tw_741)) (fun _ h9 => h9) rfl d_Mo_more_151 ?_
      refine lv_iconst (v := 4) hx hb d_Mo_more_154 (by decide) ?_
      refine lv_iload hx hb d_Mo_more_155 (lv_at hl 0 rfl) ?_
      refine lv_iadd hx hb d_Mo_more_157 ?_
      obtain ⟨c_13, h⟩ := ch_ite h
      refine va_iald hx hb hK hP 1 0 rfl rfl (ch_in c_13) d_Mo_more_158 ?_
      obtain ⟨r_15, h_14, h⟩ := ch_bind h
      try dsimp only at h
      refine ck_goi (wc := []) (wr := [(q_o, .inr (7, [.int o_thrown, .ref q_o_memory, .ref q_o_program, .ref q_o_fresh, .int o_hasProgram, .int o_fault, .int o_place, .int o_told, .ref q_o_temporaries, .ref q_o_ins, .ref q_o_outs, .ref q_o_uniforms, .ref q_o_textures, .ref q_o_read, .ref q_o_result, .int o_killed, .ref q_o_left, .ref q_o_opening])), (q_o_read, .inl (cI, n_o_read, .inl f_o_read)), (q_o_textures, .inl (cI, n_o_textures, .inl f_o_textures)), (q_o_uniforms, .inl (cI, n_o_uniforms, .inl f_o_uniforms)), (q_o_memory, .inl (cI, n_o_memory, .inl f_o_memory))]) (w1 := []) (va_runS (As := [.int (f_o_read ((p2 + (1 : Int32)) - (p2 + (1 : Int32)) / (3 : Int32) * (3 : Int32)).toNatClampNeg), .int (f_o_read ((4 : Int32) + ((p2 + (2 : Int32)) - (p2 + (2 : Int32)) / (3 : Int32) * (3 : Int32))).toNatClampNeg)]) (rest := []) ⟨hx, hb, hml, hown, hts⟩ (k_Mo_product l dC dI cI cJ (f_o_read ((p2 + (1 : Int32)) - (p2 + (1 : Int32)) / (3 : Int32) * (3 : Int32)).toNatClampNeg) (f_o_read ((4 : Int32) + ((p2 + (2 : Int32)) - (p2 + (2 : Int32)) / (3 : Int32) * (3 : Int32))).toNatClampNeg) r_15 h_14 _) (va_cwS 2 hts (gw_S tw_887 tw_888 tw_9 tw_889) rfl rfl rfl (by decide +kernel) ⟨Nat.le_of_ble_eq_true rfl, Nat.le_of_ble_eq_true rfl⟩) (ck_preS (wc := []) hK hP hD hS hA hE [] (by decide) rfl) rfl rfl hl.1 rfl (lv_room (Nat.le_of_ble_eq_true rfl)) d_Mo_more_159 ⟨Nat.le_of_ble_eq_true rfl, Nat.le_of_ble_eq_true rfl⟩) hP hD hS hA [] [0, 1, 2, 3, 4] rfl rfl (by decide) (by decide) (fun H locs hP hD hS => ?_)
      have hP : va_P (dC, dI) vwCl [(q_o, .inr (7, [.int o_thrown, .ref q_o_memory, .ref q_o_program, .ref q_o_fresh, .int o_hasProgram, .int o_fault, .int o_place, .int o_told, .ref q_o_temporaries, .ref q_o_ins, .ref q_o_outs, .ref q_o_uniforms, .ref q_o_textures, .ref q_o_read, .ref q_o_result, .int o_killed, .ref q_o_left, .ref q_o_opening])), (q_o_read, .inl (cI, n_o_read, .inl f_o_read)), (q_o_textures, .inl (cI, n_o_textures, .inl f_o_textures)), (q_o_uniforms, .inl (cI, n_o_uniforms, .inl f_o_uniforms)), (q_o_memory, .inl (cI, n_o_memory, .inl f_o_memory))] H := hP.sub [0, 1, 2, 3, 4] rfl
      have hD : va_D A [(q_o, .inr (7, [.int o_thrown, .ref q_o_memory, .ref q_o_program, .ref q_o_fresh, .int o_hasProgram, .int o_fault, .int o_place, .int o_told, .ref q_o_temporaries, .ref q_o_ins, .ref q_o_outs, .ref q_o_uniforms, .ref q_o_textures, .ref q_o_read, .ref q_o_result, .int o_killed, .ref q_o_left, .ref q_o_opening])), (q_o_read, .inl (cI, n_o_read, .inl f_o_read)), (q_o_textures, .inl (cI, n_o_textures, .inl f_o_textures)), (q_o_uniforms, .inl (cI, n_o_uniforms, .inl f_o_uniforms)), (q_o_memory, .inl (cI, n_o_memory, .inl f_o_memory))] := hD.sub [0, 1, 2, 3, 4] (by decide) rfl
      refine lv_aload_n hx hb d_Mo_more_162 rfl (lv_at hl 5 rfl) ?_
      refine va_get (D := (dC, dI)) (ci := 7) (v := .ref q_o_read) (C := R_Mo) (T := T_Mo) (N := 18) hx hb hts (iw_Mo _) hown hK hP 0 rfl rfl 13 (by decide) (hts (.fieldLink R_Mo 38 "ShaderMachineModel" "read" "[I") (List.mem_cons_of_mem _ tw_741)) (fun _ h9 => h9) rfl d_Mo_more_163 ?_
      refine lv_iload hx hb d_Mo_more_166 (lv_at hl 0 rfl) ?_
      obtain ⟨c_16, h⟩ := ch_ite h
      refine va_iald hx hb hK hP 1 0 rfl rfl (ch_in c_16) d_Mo_more_168 ?_
      refine lv_aload_n hx hb d_Mo_more_169 rfl (lv_at hl 5 rfl) ?_
      refine va_get (D := (dC, dI)) (ci := 7) (v := .ref q_o_read) (C := R_Mo) (T := T_Mo) (N := 18) hx hb hts (iw_Mo _) hown hK hP 0 rfl rfl 13 (by decide) (hts (.fieldLink R_Mo 38 "ShaderMachineModel" "read" "[I") (List.mem_cons_of_mem _ tw_741)) (fun _ h9 => h9) rfl d_Mo_more_170 ?_
      refine lv_iconst (v := 4) hx hb d_Mo_more_173 (by decide) ?_
      refine lv_iload hx hb d_Mo_more_174 (lv_at hl 1 rfl) ?_
      refine lv_iadd hx hb d_Mo_more_176 ?_
      obtain ⟨c_17, h⟩ := ch_ite h
      refine va_iald hx hb hK hP 1 0 rfl rfl (ch_in c_17) d_Mo_more_177 ?_
      obtain ⟨r_19, h_18, h⟩ := ch_bind h
      try dsimp only at h
      refine ck_goi (wc := []) (wr := [(q_o, .inr (7, [.int o_thrown, .ref q_o_memory, .ref q_o_program, .ref q_o_fresh, .int o_hasProgram, .int o_fault, .int o_place, .int o_told, .ref q_o_temporaries, .ref q_o_ins, .ref q_o_outs, .ref q_o_uniforms, .ref q_o_textures, .ref q_o_read, .ref q_o_result, .int o_killed, .ref q_o_left, .ref q_o_opening])), (q_o_read, .inl (cI, n_o_read, .inl f_o_read)), (q_o_textures, .inl (cI, n_o_textures, .inl f_o_textures)), (q_o_uniforms, .inl (cI, n_o_uniforms, .inl f_o_uniforms)), (q_o_memory, .inl (cI, n_o_memory, .inl f_o_memory))]) (w1 := []) (va_runS (As := [.int (f_o_read ((p2 + (2 : Int32)) - (p2 + (2 : Int32)) / (3 : Int32) * (3 : Int32)).toNatClampNeg), .int (f_o_read ((4 : Int32) + ((p2 + (1 : Int32)) - (p2 + (1 : Int32)) / (3 : Int32) * (3 : Int32))).toNatClampNeg)]) (rest := [.int r_15]) ⟨hx, hb, hml, hown, hts⟩ (k_Mo_product l dC dI cI cJ (f_o_read ((p2 + (2 : Int32)) - (p2 + (2 : Int32)) / (3 : Int32) * (3 : Int32)).toNatClampNeg) (f_o_read ((4 : Int32) + ((p2 + (1 : Int32)) - (p2 + (1 : Int32)) / (3 : Int32) * (3 : Int32))).toNatClampNeg) r_19 h_18 _) (va_cwS 2 hts (gw_S tw_887 tw_888 tw_9 tw_889) rfl rfl rfl (by decide +kernel) ⟨Nat.le_of_ble_eq_true rfl, Nat.le_of_ble_eq_true rfl⟩) (ck_preS (wc := []) hK hP hD hS hA hE [] (by decide) rfl) rfl rfl hl.1 rfl (lv_room (Nat.le_of_ble_eq_true rfl)) d_Mo_more_178 ⟨Nat.le_of_ble_eq_true rfl, Nat.le_of_ble_eq_true rfl⟩) hP hD hS hA [] [0, 1, 2, 3, 4] rfl rfl (by decide) (by decide) (fun H locs hP hD hS => ?_)
      have hP : va_P (dC, dI) vwCl [(q_o, .inr (7, [.int o_thrown, .ref q_o_memory, .ref q_o_program, .ref q_o_fresh, .int o_hasProgram, .int o_fault, .int o_place, .int o_told, .ref q_o_temporaries, .ref q_o_ins, .ref q_o_outs, .ref q_o_uniforms, .ref q_o_textures, .ref q_o_read, .ref q_o_result, .int o_killed, .ref q_o_left, .ref q_o_opening])), (q_o_read, .inl (cI, n_o_read, .inl f_o_read)), (q_o_textures, .inl (cI, n_o_textures, .inl f_o_textures)), (q_o_uniforms, .inl (cI, n_o_uniforms, .inl f_o_uniforms)), (q_o_memory, .inl (cI, n_o_memory, .inl f_o_memory))] H := hP.sub [0, 1, 2, 3, 4] rfl
      have hD : va_D A [(q_o, .inr (7, [.int o_thrown, .ref q_o_memory, .ref q_o_program, .ref q_o_fresh, .int o_hasProgram, .int o_fault, .int o_place, .int o_told, .ref q_o_temporaries, .ref q_o_ins, .ref q_o_outs, .ref q_o_uniforms, .ref q_o_textures, .ref q_o_read, .ref q_o_result, .int o_killed, .ref q_o_left, .ref q_o_opening])), (q_o_read, .inl (cI, n_o_read, .inl f_o_read)), (q_o_textures, .inl (cI, n_o_textures, .inl f_o_textures)), (q_o_uniforms, .inl (cI, n_o_uniforms, .inl f_o_uniforms)), (q_o_memory, .inl (cI, n_o_memory, .inl f_o_memory))] := hD.sub [0, 1, 2, 3, 4] (by decide) rfl
      refine lv_isub hx hb d_Mo_more_181 ?_
      cases h
      exact ck_iret hx hb hr hlk hK hP hD hS d_Mo_more_182
    · rw [if_pos c_11] at h
      refine lv_iconst (v := 0) hx hb d_Mo_more_139 (by decide) ?_
      refine lv_goto (tgt := 182) hx hb d_Mo_more_140 (by decide) ?_
      cases h
      exact ck_iret hx hb hr hlk hK hP hD hS d_Mo_more_182
  rw [if_neg c_10] at h
  by_cases c_20 : p1 = 23
  · rw [if_pos c_20] at h
    refine lv_tableIn (tgt := 183) hx hb d_Mo_more_29 (by rw [c_20]; decide) (by rw [c_20]; decide) (by rw [c_20]; rfl) (by decide) ?_
    refine lv_iload_n hx hb d_Mo_more_183 rfl (lv_at hl 2 rfl) ?_
    refine lv_iload hx hb d_Mo_more_184 (lv_at hl 1 rfl) ?_
    refine lv_iand hx hb d_Mo_more_186 ?_
    cases h
    exact ck_iret hx hb hr hlk hK hP hD hS d_Mo_more_187
  rw [if_neg c_20] at h
  by_cases c_21 : p1 = 24
  · rw [if_pos c_21] at h
    refine lv_tableIn (tgt := 188) hx hb d_Mo_more_29 (by rw [c_21]; decide) (by rw [c_21]; decide) (by rw [c_21]; rfl) (by decide) ?_
    refine lv_iload_n hx hb d_Mo_more_188 rfl (lv_at hl 2 rfl) ?_
    refine lv_iload hx hb d_Mo_more_189 (lv_at hl 1 rfl) ?_
    refine lv_ior hx hb d_Mo_more_191 ?_
    cases h
    exact ck_iret hx hb hr hlk hK hP hD hS d_Mo_more_192
  rw [if_neg c_21] at h
  by_cases c_22 : p1 = 25
  · rw [if_pos c_22] at h
    refine lv_tableIn (tgt := 193) hx hb d_Mo_more_29 (by rw [c_22]; decide) (by rw [c_22]; decide) (by rw [c_22]; rfl) (by decide) ?_
    refine lv_iload_n hx hb d_Mo_more_193 rfl (lv_at hl 2 rfl) ?_
    refine lv_iload hx hb d_Mo_more_194 (lv_at hl 1 rfl) ?_
    refine lv_ixor hx hb d_Mo_more_196 ?_
    cases h
    exact ck_iret hx hb hr hlk hK hP hD hS d_Mo_more_197
  rw [if_neg c_22] at h
  by_cases c_23 : p1 = 26
  · rw [if_pos c_23] at h
    refine lv_tableIn (tgt := 198) hx hb d_Mo_more_29 (by rw [c_23]; decide) (by rw [c_23]; decide) (by rw [c_23]; rfl) (by decide) ?_
    refine lv_iload_n hx hb d_Mo_more_198 rfl (lv_at hl 2 rfl) ?_
    refine lv_iconst (v := -1) hx hb d_Mo_more_199 (by decide) ?_
    refine lv_ixor hx hb d_Mo_more_200 ?_
    cases h
    exact ck_iret hx hb hr hlk hK hP hD hS d_Mo_more_201
  rw [if_neg c_23] at h
  by_cases c_24 : p1 = 27
  · rw [if_pos c_24] at h
    refine lv_tableIn (tgt := 202) hx hb d_Mo_more_29 (by rw [c_24]; decide) (by rw [c_24]; decide) (by rw [c_24]; rfl) (by decide) ?_
    refine lv_iload_n hx hb d_Mo_more_202 rfl (lv_at hl 2 rfl) ?_
    refine lv_iload hx hb d_Mo_more_203 (lv_at hl 1 rfl) ?_
    refine lv_bipush (v := 31) hx hb d_Mo_more_205 (by decide) ?_
    refine lv_iand hx hb d_Mo_more_207 ?_
    refine lv_ishl hx hb d_Mo_more_208 ?_
    cases h
    exact ck_iret hx hb hr hlk hK hP hD hS d_Mo_more_209
  rw [if_neg c_24] at h
  by_cases c_25 : p1 = 28
  · rw [if_pos c_25] at h
    refine lv_tableIn (tgt := 210) hx hb d_Mo_more_29 (by rw [c_25]; decide) (by rw [c_25]; decide) (by rw [c_25]; rfl) (by decide) ?_
    refine lv_iload_n hx hb d_Mo_more_210 rfl (lv_at hl 2 rfl) ?_
    refine lv_iload hx hb d_Mo_more_211 (lv_at hl 1 rfl) ?_
    refine lv_bipush (v := 31) hx hb d_Mo_more_213 (by decide) ?_
    refine lv_iand hx hb d_Mo_more_215 ?_
    refine lv_ishr hx hb d_Mo_more_216 ?_
    cases h
    exact ck_iret hx hb hr hlk hK hP hD hS d_Mo_more_217
  rw [if_neg c_25] at h
  by_cases c_26 : p1 = 29
  · rw [if_pos c_26] at h
    refine lv_tableIn (tgt := 218) hx hb d_Mo_more_29 (by rw [c_26]; decide) (by rw [c_26]; decide) (by rw [c_26]; rfl) (by decide) ?_
    refine lv_iload_n hx hb d_Mo_more_218 rfl (lv_at hl 2 rfl) ?_
    refine lv_iload hx hb d_Mo_more_219 (lv_at hl 1 rfl) ?_
    refine lv_bipush (v := 31) hx hb d_Mo_more_221 (by decide) ?_
    refine lv_iand hx hb d_Mo_more_223 ?_
    refine lv_iushr hx hb d_Mo_more_224 rfl ?_
    cases h
    exact ck_iret hx hb hr hlk hK hP hD hS d_Mo_more_225
  rw [if_neg c_26] at h
  by_cases c_27 : p1 = 30
  · rw [if_pos c_27] at h
    refine lv_tableIn (tgt := 226) hx hb d_Mo_more_29 (by rw [c_27]; decide) (by rw [c_27]; decide) (by rw [c_27]; rfl) (by decide) ?_
    refine lv_iload hx hb d_Mo_more_226 (lv_at hl 0 rfl) ?_
    refine lv_if_lt (tgt := 252) hx hb d_Mo_more_228 (by decide) (fun c_28 => ?_) (fun c_28 => ?_)
    · rw [if_pos c_28] at h
      refine lv_iconst (v := 0) hx hb d_Mo_more_252 (by decide) ?_
      cases h
      exact ck_iret hx hb hr hlk hK hP hD hS d_Mo_more_253
    · rw [if_neg c_28] at h
      refine lv_iload hx hb d_Mo_more_231 (lv_at hl 0 rfl) ?_
      refine lv_bipush (v := 32) hx hb d_Mo_more_233 (by decide) ?_
      refine lv_icmp_ge (tgt := 252) hx hb d_Mo_more_235 (by decide) (fun c_29 => ?_) (fun c_29 => ?_)
      · rw [if_pos c_29] at h
        refine lv_iconst (v := 0) hx hb d_Mo_more_252 (by decide) ?_
        cases h
        exact ck_iret hx hb hr hlk hK hP hD hS d_Mo_more_253
      · rw [if_neg c_29] at h
        refine lv_aload_n hx hb d_Mo_more_238 rfl (lv_at hl 3 rfl) ?_
        refine va_get (D := (dC, dI)) (ci := 7) (v := .ref q_o_uniforms) (C := R_Mo) (T := T_Mo) (N := 18) hx hb hts (iw_Mo _) hown hK hP 0 rfl rfl 11 (by decide) (hts (.fieldLink R_Mo 32 "ShaderMachineModel" "uniforms" "[I") (List.mem_cons_of_mem _ tw_739)) (fun _ h9 => h9) rfl d_Mo_more_239 ?_
        refine lv_iconst (v := 4) hx hb d_Mo_more_242 (by decide) ?_
        refine lv_iload hx hb d_Mo_more_243 (lv_at hl 0 rfl) ?_
        refine lv_imul hx hb d_Mo_more_245 ?_
        refine lv_iload_n hx hb d_Mo_more_246 rfl (lv_at hl 5 rfl) ?_
        refine lv_iadd hx hb d_Mo_more_247 ?_
        obtain ⟨c_30, h⟩ := ch_ite h
        refine va_iald hx hb hK hP 3 0 rfl rfl (ch_in c_30) d_Mo_more_248 ?_
        refine lv_goto (tgt := 253) hx hb d_Mo_more_249 (by decide) ?_
        cases h
        exact ck_iret hx hb hr hlk hK hP hD hS d_Mo_more_253
  rw [if_neg c_27] at h
  by_cases c_31 : p1 = 31
  · rw [if_pos c_31] at h
    refine lv_tableIn (tgt := 254) hx hb d_Mo_more_29 (by rw [c_31]; decide) (by rw [c_31]; decide) (by rw [c_31]; rfl) (by decide) ?_
    refine lv_aload_n hx hb d_Mo_more_254 rfl (lv_at hl 3 rfl) ?_
    refine lv_iload hx hb d_Mo_more_255 (lv_at hl 0 rfl) ?_
    refine lv_iload_n hx hb d_Mo_more_257 rfl (lv_at hl 5 rfl) ?_
    refine lv_iadd hx hb d_Mo_more_258 ?_
    obtain ⟨r_33, h_32, h⟩ := ch_bind h
    try dsimp only at h
    refine ck_goi (wc := [(q_o, .inr (7, [.int o_thrown, .ref q_o_memory, .ref q_o_program, .ref q_o_fresh, .int o_hasProgram, .int o_fault, .int o_place, .int o_told, .ref q_o_temporaries, .ref q_o_ins, .ref q_o_outs, .ref q_o_uniforms, .ref q_o_textures, .ref q_o_read, .ref q_o_result, .int o_killed, .ref q_o_left, .ref q_o_opening])), (q_o_memory, .inl (cI, n_o_memory, .inl f_o_memory))]) (wr := [(q_o_read, .inl (cI, n_o_read, .inl f_o_read)), (q_o_textures, .inl (cI, n_o_textures, .inl f_o_textures)), (q_o_uniforms, .inl (cI, n_o_uniforms, .inl f_o_uniforms))]) (w1 := [(q_o, .inr (7, [.int o_thrown, .ref q_o_memory, .ref q_o_program, .ref q_o_fresh, .int o_hasProgram, .int o_fault, .int o_place, .int o_told, .ref q_o_temporaries, .ref q_o_ins, .ref q_o_outs, .ref q_o_uniforms, .ref q_o_textures, .ref q_o_read, .ref q_o_result, .int o_killed, .ref q_o_left, .ref q_o_opening])), (q_o_memory, .inl (cI, n_o_memory, .inl f_o_memory))]) (va_runV (As := [.int (((f_o_read (0 : Int32).toNatClampNeg) >>> ((16 : Int32) &&& 31)) + p2)]) (rest := []) ⟨hx, hb, hml, hown, hts⟩ (k_Mo_word l dC dI cI cJ (((f_o_read (0 : Int32).toNatClampNeg) >>> ((16 : Int32) &&& 31)) + p2) o_thrown o_hasProgram o_fault o_place o_told o_killed n_o_memory f_o_memory q_o q_o_memory q_o_program q_o_fresh q_o_temporaries q_o_ins q_o_outs q_o_uniforms q_o_textures q_o_read q_o_result q_o_left q_o_opening r_33 h_32 _) (cwV 1 hts (gw_V tw_909 tw_911 sw_420 tw_9 tw_912) rfl rfl rfl (by decide +kernel) ⟨Nat.le_of_ble_eq_true rfl, Nat.le_of_ble_eq_true rfl⟩) (ck_preV (wc := [(q_o, .inr (7, [.int o_thrown, .ref q_o_memory, .ref q_o_program, .ref q_o_fresh, .int o_hasProgram, .int o_fault, .int o_place, .int o_told, .ref q_o_temporaries, .ref q_o_ins, .ref q_o_outs, .ref q_o_uniforms, .ref q_o_textures, .ref q_o_read, .ref q_o_result, .int o_killed, .ref q_o_left, .ref q_o_opening])), (q_o_memory, .inl (cI, n_o_memory, .inl f_o_memory))]) hK hP hD hS hA hE 0 rfl rfl rfl [0, 4] (by decide) rfl) rfl rfl hl.1 rfl (lv_room (Nat.le_of_ble_eq_true rfl)) d_Mo_more_259 ⟨Nat.le_of_ble_eq_true rfl, Nat.le_of_ble_eq_true rfl⟩) hP hD hS hA [0, 4] [1, 2, 3] rfl rfl (by decide) (by decide) (fun H locs hP hD hS => ?_)
    have hP : va_P (dC, dI) vwCl [(q_o, .inr (7, [.int o_thrown, .ref q_o_memory, .ref q_o_program, .ref q_o_fresh, .int o_hasProgram, .int o_fault, .int o_place, .int o_told, .ref q_o_temporaries, .ref q_o_ins, .ref q_o_outs, .ref q_o_uniforms, .ref q_o_textures, .ref q_o_read, .ref q_o_result, .int o_killed, .ref q_o_left, .ref q_o_opening])), (q_o_read, .inl (cI, n_o_read, .inl f_o_read)), (q_o_textures, .inl (cI, n_o_textures, .inl f_o_textures)), (q_o_uniforms, .inl (cI, n_o_uniforms, .inl f_o_uniforms)), (q_o_memory, .inl (cI, n_o_memory, .inl f_o_memory))] H := hP.sub [3, 0, 1, 2, 4] rfl
    have hD : va_D A [(q_o, .inr (7, [.int o_thrown, .ref q_o_memory, .ref q_o_program, .ref q_o_fresh, .int o_hasProgram, .int o_fault, .int o_place, .int o_told, .ref q_o_temporaries, .ref q_o_ins, .ref q_o_outs, .ref q_o_uniforms, .ref q_o_textures, .ref q_o_read, .ref q_o_result, .int o_killed, .ref q_o_left, .ref q_o_opening])), (q_o_read, .inl (cI, n_o_read, .inl f_o_read)), (q_o_textures, .inl (cI, n_o_textures, .inl f_o_textures)), (q_o_uniforms, .inl (cI, n_o_uniforms, .inl f_o_uniforms)), (q_o_memory, .inl (cI, n_o_memory, .inl f_o_memory))] := hD.sub [3, 0, 1, 2, 4] (by decide) rfl
    cases h
    exact ck_iret hx hb hr hlk hK hP hD hS d_Mo_more_262
  rw [if_neg c_31] at h
  by_cases c_34 : p1 = 32
  · rw [if_pos c_34] at h
    refine lv_tableIn (tgt := 273) hx hb d_Mo_more_29 (by rw [c_34]; decide) (by rw [c_34]; decide) (by rw [c_34]; rfl) (by decide) ?_
    refine lv_aload_n hx hb d_Mo_more_273 rfl (lv_at hl 3 rfl) ?_
    refine va_get (D := (dC, dI)) (ci := 7) (v := .ref q_o_textures) (C := R_Mo) (T := T_Mo) (N := 18) hx hb hts (iw_Mo _) hown hK hP 0 rfl rfl 12 (by decide) (hts (.fieldLink R_Mo 35 "ShaderMachineModel" "textures" "[I") (List.mem_cons_of_mem _ tw_740)) (fun _ h9 => h9) rfl d_Mo_more_274 ?_
    refine lv_iconst (v := 4) hx hb d_Mo_more_277 (by decide) ?_
    refine lv_aload_n hx hb d_Mo_more_278 rfl (lv_at hl 3 rfl) ?_
    refine va_get (D := (dC, dI)) (ci := 7) (v := .int o_told) (C := R_Mo) (T := T_Mo) (N := 18) hx hb hts (iw_Mo _) hown hK hP 0 rfl rfl 7 (by decide) (hts (.fieldLink R_Mo 160 "ShaderMachineModel" "told" "I") (List.mem_cons_of_mem _ tw_735)) (fun _ h9 => h9) rfl d_Mo_more_279 ?_
    refine lv_imul hx hb d_Mo_more_282 ?_
    refine lv_iload_n hx hb d_Mo_more_283 rfl (lv_at hl 5 rfl) ?_
    refine lv_iadd hx hb d_Mo_more_284 ?_
    obtain ⟨c_35, h⟩ := ch_ite h
    refine va_iald hx hb hK hP 2 0 rfl rfl (ch_in c_35) d_Mo_more_285 ?_
    refine lv_iload_n hx hb d_Mo_more_286 rfl (lv_at hl 5 rfl) ?_
    refine lv_iconst (v := 2) hx hb d_Mo_more_287 (by decide) ?_
    refine lv_icmp_ge (tgt := 300) hx hb d_Mo_more_288 (by decide) (fun c_36 => ?_) (fun c_36 => ?_)
    · rw [if_pos c_36] at h
      refine lv_iload_n hx hb d_Mo_more_300 rfl (lv_at hl 5 rfl) ?_
      refine lv_iconst (v := 2) hx hb d_Mo_more_301 (by decide) ?_
      refine lv_icmp_ne (tgt := 320) hx hb d_Mo_more_302 (by decide) (fun c_37 => ?_) (fun c_37 => ?_)
      · rw [if_neg c_37] at h
        refine lv_iconst (v := 0) hx hb d_Mo_more_320 (by decide) ?_
        refine lv_iadd hx hb d_Mo_more_321 ?_
        cases h
        exact ck_iret hx hb hr hlk hK hP hD hS d_Mo_more_322
      · rw [if_pos c_37] at h
        refine lv_iload_n hx hb d_Mo_more_305 rfl (lv_at hl 4 rfl) ?_
        refine lv_bipush (v := 33) hx hb d_Mo_more_306 (by decide) ?_
        refine lv_icmp_ne (tgt := 320) hx hb d_Mo_more_308 (by decide) (fun c_38 => ?_) (fun c_38 => ?_)
        · rw [if_neg c_38] at h
          refine lv_iconst (v := 0) hx hb d_Mo_more_320 (by decide) ?_
          refine lv_iadd hx hb d_Mo_more_321 ?_
          cases h
          exact ck_iret hx hb hr hlk hK hP hD hS d_Mo_more_322
        · rw [if_pos c_38] at h
          refine lv_aload_n hx hb d_Mo_more_311 rfl (lv_at hl 3 rfl) ?_
          refine va_get (D := (dC, dI)) (ci := 7) (v := .ref q_o_read) (C := R_Mo) (T := T_Mo) (N := 18) hx hb hts (iw_Mo _) hown hK hP 0 rfl rfl 13 (by decide) (hts (.fieldLink R_Mo 38 "ShaderMachineModel" "read" "[I") (List.mem_cons_of_mem _ tw_741)) (fun _ h9 => h9) rfl d_Mo_more_312 ?_
          refine lv_iconst (v := 2) hx hb d_Mo_more_315 (by decide) ?_
          obtain ⟨c_39, h⟩ := ch_ite h
          refine va_iald hx hb hK hP 1 0 rfl rfl (ch_in c_39) d_Mo_more_316 ?_
          refine lv_goto (tgt := 321) hx hb d_Mo_more_317 (by decide) ?_
          refine lv_iadd hx hb d_Mo_more_321 ?_
          cases h
          exact ck_iret hx hb hr hlk hK hP hD hS d_Mo_more_322
    · rw [if_neg c_36] at h
      refine lv_aload_n hx hb d_Mo_more_291 rfl (lv_at hl 3 rfl) ?_
      refine va_get (D := (dC, dI)) (ci := 7) (v := .ref q_o_read) (C := R_Mo) (T := T_Mo) (N := 18) hx hb hts (iw_Mo _) hown hK hP 0 rfl rfl 13 (by decide) (hts (.fieldLink R_Mo 38 "ShaderMachineModel" "read" "[I") (List.mem_cons_of_mem _ tw_741)) (fun _ h9 => h9) rfl d_Mo_more_292 ?_
      refine lv_iload_n hx hb d_Mo_more_295 rfl (lv_at hl 5 rfl) ?_
      refine va_iald hx hb hK hP 1 0 rfl rfl (ch_in c_1) d_Mo_more_296 ?_
      refine lv_goto (tgt := 321) hx hb d_Mo_more_297 (by decide) ?_
      refine lv_iadd hx hb d_Mo_more_321 ?_
      cases h
      exact ck_iret hx hb hr hlk hK hP hD hS d_Mo_more_322
  rw [if_neg c_34] at h
  by_cases c_40 : p1 = 33
  · rw [if_pos c_40] at h
    refine lv_tableIn (tgt := 273) hx hb d_Mo_more_29 (by rw [c_40]; decide) (by rw [c_40]; decide) (by rw [c_40]; rfl) (by decide) ?_
    refine lv_aload_n hx hb d_Mo_more_273 rfl (lv_at hl 3 rfl) ?_
    refine va_get (D := (dC, dI)) (ci := 7) (v := .ref q_o_textures) (C := R_Mo) (T := T_Mo) (N := 18) hx hb hts (iw_Mo _) hown hK hP 0 rfl rfl 12 (by decide) (hts (.fieldLink R_Mo 35 "ShaderMachineModel" "textures" "[I") (List.mem_cons_of_mem _ tw_740)) (fun _ h9 => h9) rfl d_Mo_more_274 ?_
    refine lv_iconst (v := 4) hx hb d_Mo_more_277 (by decide) ?_
    refine lv_aload_n hx hb d_Mo_more_278 rfl (lv_at hl 3 rfl) ?_
    refine va_get (D := (dC, dI)) (ci := 7) (v := .int o_told) (C := R_Mo) (T := T_Mo) (N := 18) hx hb hts (iw_Mo _) hown hK hP 0 rfl rfl 7 (by decide) (hts (.fieldLink R_Mo 160 "ShaderMachineModel" "told" "I") (List.mem_cons_of_mem _ tw_735)) (fun _ h9 => h9) rfl d_Mo_more_279 ?_
    refine lv_imul hx hb d_Mo_more_282 ?_
    refine lv_iload_n hx hb d_Mo_more_283 rfl (lv_at hl 5 rfl) ?_
    refine lv_iadd hx hb d_Mo_more_284 ?_
    obtain ⟨c_41, h⟩ := ch_ite h
    refine va_iald hx hb hK hP 2 0 rfl rfl (ch_in c_41) d_Mo_more_285 ?_
    refine lv_iload_n hx hb d_Mo_more_286 rfl (lv_at hl 5 rfl) ?_
    refine lv_iconst (v := 2) hx hb d_Mo_more_287 (by decide) ?_
    refine lv_icmp_ge (tgt := 300) hx hb d_Mo_more_288 (by decide) (fun c_42 => ?_) (fun c_42 => ?_)
    · rw [if_pos c_42] at h
      refine lv_iload_n hx hb d_Mo_more_300 rfl (lv_at hl 5 rfl) ?_
      refine lv_iconst (v := 2) hx hb d_Mo_more_301 (by decide) ?_
      refine lv_icmp_ne (tgt := 320) hx hb d_Mo_more_302 (by decide) (fun c_43 => ?_) (fun c_43 => ?_)
      · rw [if_neg c_43] at h
        refine lv_iconst (v := 0) hx hb d_Mo_more_320 (by decide) ?_
        refine lv_iadd hx hb d_Mo_more_321 ?_
        cases h
        exact ck_iret hx hb hr hlk hK hP hD hS d_Mo_more_322
      · rw [if_pos c_43] at h
        refine lv_iload_n hx hb d_Mo_more_305 rfl (lv_at hl 4 rfl) ?_
        refine lv_bipush (v := 33) hx hb d_Mo_more_306 (by decide) ?_
        refine lv_icmp_ne (tgt := 320) hx hb d_Mo_more_308 (by decide) (fun c_44 => ?_) (fun c_44 => ?_)
        · rw [if_neg c_44] at h
          refine lv_iconst (v := 0) hx hb d_Mo_more_320 (by decide) ?_
          refine lv_iadd hx hb d_Mo_more_321 ?_
          cases h
          exact ck_iret hx hb hr hlk hK hP hD hS d_Mo_more_322
        · rw [if_pos c_44] at h
          refine lv_aload_n hx hb d_Mo_more_311 rfl (lv_at hl 3 rfl) ?_
          refine va_get (D := (dC, dI)) (ci := 7) (v := .ref q_o_read) (C := R_Mo) (T := T_Mo) (N := 18) hx hb hts (iw_Mo _) hown hK hP 0 rfl rfl 13 (by decide) (hts (.fieldLink R_Mo 38 "ShaderMachineModel" "read" "[I") (List.mem_cons_of_mem _ tw_741)) (fun _ h9 => h9) rfl d_Mo_more_312 ?_
          refine lv_iconst (v := 2) hx hb d_Mo_more_315 (by decide) ?_
          obtain ⟨c_45, h⟩ := ch_ite h
          refine va_iald hx hb hK hP 1 0 rfl rfl (ch_in c_45) d_Mo_more_316 ?_
          refine lv_goto (tgt := 321) hx hb d_Mo_more_317 (by decide) ?_
          refine lv_iadd hx hb d_Mo_more_321 ?_
          cases h
          exact ck_iret hx hb hr hlk hK hP hD hS d_Mo_more_322
    · rw [if_neg c_42] at h
      refine lv_aload_n hx hb d_Mo_more_291 rfl (lv_at hl 3 rfl) ?_
      refine va_get (D := (dC, dI)) (ci := 7) (v := .ref q_o_read) (C := R_Mo) (T := T_Mo) (N := 18) hx hb hts (iw_Mo _) hown hK hP 0 rfl rfl 13 (by decide) (hts (.fieldLink R_Mo 38 "ShaderMachineModel" "read" "[I") (List.mem_cons_of_mem _ tw_741)) (fun _ h9 => h9) rfl d_Mo_more_292 ?_
      refine lv_iload_n hx hb d_Mo_more_295 rfl (lv_at hl 5 rfl) ?_
      refine va_iald hx hb hK hP 1 0 rfl rfl (ch_in c_1) d_Mo_more_296 ?_
      refine lv_goto (tgt := 321) hx hb d_Mo_more_297 (by decide) ?_
      refine lv_iadd hx hb d_Mo_more_321 ?_
      cases h
      exact ck_iret hx hb hr hlk hK hP hD hS d_Mo_more_322
  rw [if_neg c_40] at h
  by_cases c_46 : p1 = 34
  · rw [if_pos c_46] at h
    refine lv_tableIn (tgt := 273) hx hb d_Mo_more_29 (by rw [c_46]; decide) (by rw [c_46]; decide) (by rw [c_46]; rfl) (by decide) ?_
    refine lv_aload_n hx hb d_Mo_more_273 rfl (lv_at hl 3 rfl) ?_
    refine va_get (D := (dC, dI)) (ci := 7) (v := .ref q_o_textures) (C := R_Mo) (T := T_Mo) (N := 18) hx hb hts (iw_Mo _) hown hK hP 0 rfl rfl 12 (by decide) (hts (.fieldLink R_Mo 35 "ShaderMachineModel" "textures" "[I") (List.mem_cons_of_mem _ tw_740)) (fun _ h9 => h9) rfl d_Mo_more_274 ?_
    refine lv_iconst (v := 4) hx hb d_Mo_more_277 (by decide) ?_
    refine lv_aload_n hx hb d_Mo_more_278 rfl (lv_at hl 3 rfl) ?_
    refine va_get (D := (dC, dI)) (ci := 7) (v := .int o_told) (C := R_Mo) (T := T_Mo) (N := 18) hx hb hts (iw_Mo _) hown hK hP 0 rfl rfl 7 (by decide) (hts (.fieldLink R_Mo 160 "ShaderMachineModel" "told" "I") (List.mem_cons_of_mem _ tw_735)) (fun _ h9 => h9) rfl d_Mo_more_279 ?_
    refine lv_imul hx hb d_Mo_more_282 ?_
    refine lv_iload_n hx hb d_Mo_more_283 rfl (lv_at hl 5 rfl) ?_
    refine lv_iadd hx hb d_Mo_more_284 ?_
    obtain ⟨c_47, h⟩ := ch_ite h
    refine va_iald hx hb hK hP 2 0 rfl rfl (ch_in c_47) d_Mo_more_285 ?_
    refine lv_iload_n hx hb d_Mo_more_286 rfl (lv_at hl 5 rfl) ?_
    refine lv_iconst (v := 2) hx hb d_Mo_more_287 (by decide) ?_
    refine lv_icmp_ge (tgt := 300) hx hb d_Mo_more_288 (by decide) (fun c_48 => ?_) (fun c_48 => ?_)
    · rw [if_pos c_48] at h
      refine lv_iload_n hx hb d_Mo_more_300 rfl (lv_at hl 5 rfl) ?_
      refine lv_iconst (v := 2) hx hb d_Mo_more_301 (by decide) ?_
      refine lv_icmp_ne (tgt := 320) hx hb d_Mo_more_302 (by decide) (fun c_49 => ?_) (fun c_49 => ?_)
      · rw [if_neg c_49] at h
        refine lv_iconst (v := 0) hx hb d_Mo_more_320 (by decide) ?_
        refine lv_iadd hx hb d_Mo_more_321 ?_
        cases h
        exact ck_iret hx hb hr hlk hK hP hD hS d_Mo_more_322
      · rw [if_pos c_49] at h
        refine lv_iload_n hx hb d_Mo_more_305 rfl (lv_at hl 4 rfl) ?_
        refine lv_bipush (v := 33) hx hb d_Mo_more_306 (by decide) ?_
        refine lv_icmp_ne (tgt := 320) hx hb d_Mo_more_308 (by decide) (fun c_50 => ?_) (fun c_50 => ?_)
        · rw [if_neg c_50] at h
          refine lv_iconst (v := 0) hx hb d_Mo_more_320 (by decide) ?_
          refine lv_iadd hx hb d_Mo_more_321 ?_
          cases h
          exact ck_iret hx hb hr hlk hK hP hD hS d_Mo_more_322
        · rw [if_pos c_50] at h
          refine lv_aload_n hx hb d_Mo_more_311 rfl (lv_at hl 3 rfl) ?_
          refine va_get (D := (dC, dI)) (ci := 7) (v := .ref q_o_read) (C := R_Mo) (T := T_Mo) (N := 18) hx hb hts (iw_Mo _) hown hK hP 0 rfl rfl 13 (by decide) (hts (.fieldLink R_Mo 38 "ShaderMachineModel" "read" "[I") (List.mem_cons_of_mem _ tw_741)) (fun _ h9 => h9) rfl d_Mo_more_312 ?_
          refine lv_iconst (v := 2) hx hb d_Mo_more_315 (by decide) ?_
          obtain ⟨c_51, h⟩ := ch_ite h
          refine va_iald hx hb hK hP 1 0 rfl rfl (ch_in c_51) d_Mo_more_316 ?_
          refine lv_goto (tgt := 321) hx hb d_Mo_more_317 (by decide) ?_
          refine lv_iadd hx hb d_Mo_more_321 ?_
          cases h
          exact ck_iret hx hb hr hlk hK hP hD hS d_Mo_more_322
    · rw [if_neg c_48] at h
      refine lv_aload_n hx hb d_Mo_more_291 rfl (lv_at hl 3 rfl) ?_
      refine va_get (D := (dC, dI)) (ci := 7) (v := .ref q_o_read) (C := R_Mo) (T := T_Mo) (N := 18) hx hb hts (iw_Mo _) hown hK hP 0 rfl rfl 13 (by decide) (hts (.fieldLink R_Mo 38 "ShaderMachineModel" "read" "[I") (List.mem_cons_of_mem _ tw_741)) (fun _ h9 => h9) rfl d_Mo_more_292 ?_
      refine lv_iload_n hx hb d_Mo_more_295 rfl (lv_at hl 5 rfl) ?_
      refine va_iald hx hb hK hP 1 0 rfl rfl (ch_in c_1) d_Mo_more_296 ?_
      refine lv_goto (tgt := 321) hx hb d_Mo_more_297 (by decide) ?_
      refine lv_iadd hx hb d_Mo_more_321 ?_
      cases h
      exact ck_iret hx hb hr hlk hK hP hD hS d_Mo_more_322
  rw [if_neg c_46] at h
  by_cases c_52 : p1 = 35
  · rw [if_pos c_52] at h
    refine lv_tableIn (tgt := 273) hx hb d_Mo_more_29 (by rw [c_52]; decide) (by rw [c_52]; decide) (by rw [c_52]; rfl) (by decide) ?_
    refine lv_aload_n hx hb d_Mo_more_273 rfl (lv_at hl 3 rfl) ?_
    refine va_get (D := (dC, dI)) (ci := 7) (v := .ref q_o_textures) (C := R_Mo) (T := T_Mo) (N := 18) hx hb hts (iw_Mo _) hown hK hP 0 rfl rfl 12 (by decide) (hts (.fieldLink R_Mo 35 "ShaderMachineModel" "textures" "[I") (List.mem_cons_of_mem _ tw_740)) (fun _ h9 => h9) rfl d_Mo_more_274 ?_
    refine lv_iconst (v := 4) hx hb d_Mo_more_277 (by decide) ?_
    refine lv_aload_n hx hb d_Mo_more_278 rfl (lv_at hl 3 rfl) ?_
    refine va_get (D := (dC, dI)) (ci := 7) (v := .int o_told) (C := R_Mo) (T := T_Mo) (N := 18) hx hb hts (iw_Mo _) hown hK hP 0 rfl rfl 7 (by decide) (hts (.fieldLink R_Mo 160 "ShaderMachineModel" "told" "I") (List.mem_cons_of_mem _ tw_735)) (fun _ h9 => h9) rfl d_Mo_more_279 ?_
    refine lv_imul hx hb d_Mo_more_282 ?_
    refine lv_iload_n hx hb d_Mo_more_283 rfl (lv_at hl 5 rfl) ?_
    refine lv_iadd hx hb d_Mo_more_284 ?_
    obtain ⟨c_53, h⟩ := ch_ite h
    refine va_iald hx hb hK hP 2 0 rfl rfl (ch_in c_53) d_Mo_more_285 ?_
    refine lv_iload_n hx hb d_Mo_more_286 rfl (lv_at hl 5 rfl) ?_
    refine lv_iconst (v := 2) hx hb d_Mo_more_287 (by decide) ?_
    refine lv_icmp_ge (tgt := 300) hx hb d_Mo_more_288 (by decide) (fun c_54 => ?_) (fun c_54 => ?_)
    · rw [if_pos c_54] at h
      refine lv_iload_n hx hb d_Mo_more_300 rfl (lv_at hl 5 rfl) ?_
      refine lv_iconst (v := 2) hx hb d_Mo_more_301 (by decide) ?_
      refine lv_icmp_ne (tgt := 320) hx hb d_Mo_more_302 (by decide) (fun c_55 => ?_) (fun c_55 => ?_)
      · rw [if_neg c_55] at h
        refine lv_iconst (v := 0) hx hb d_Mo_more_320 (by decide) ?_
        refine lv_iadd hx hb d_Mo_more_321 ?_
        cases h
        exact ck_iret hx hb hr hlk hK hP hD hS d_Mo_more_322
      · rw [if_pos c_55] at h
        refine lv_iload_n hx hb d_Mo_more_305 rfl (lv_at hl 4 rfl) ?_
        refine lv_bipush (v := 33) hx hb d_Mo_more_306 (by decide) ?_
        refine lv_icmp_ne (tgt := 320) hx hb d_Mo_more_308 (by decide) (fun c_56 => ?_) (fun c_56 => ?_)
        · rw [if_neg c_56] at h
          refine lv_iconst (v := 0) hx hb d_Mo_more_320 (by decide) ?_
          refine lv_iadd hx hb d_Mo_more_321 ?_
          cases h
          exact ck_iret hx hb hr hlk hK hP hD hS d_Mo_more_322
        · rw [if_pos c_56] at h
          refine lv_aload_n hx hb d_Mo_more_311 rfl (lv_at hl 3 rfl) ?_
          refine va_get (D := (dC, dI)) (ci := 7) (v := .ref q_o_read) (C := R_Mo) (T := T_Mo) (N := 18) hx hb hts (iw_Mo _) hown hK hP 0 rfl rfl 13 (by decide) (hts (.fieldLink R_Mo 38 "ShaderMachineModel" "read" "[I") (List.mem_cons_of_mem _ tw_741)) (fun _ h9 => h9) rfl d_Mo_more_312 ?_
          refine lv_iconst (v := 2) hx hb d_Mo_more_315 (by decide) ?_
          obtain ⟨c_57, h⟩ := ch_ite h
          refine va_iald hx hb hK hP 1 0 rfl rfl (ch_in c_57) d_Mo_more_316 ?_
          refine lv_goto (tgt := 321) hx hb d_Mo_more_317 (by decide) ?_
          refine lv_iadd hx hb d_Mo_more_321 ?_
          cases h
          exact ck_iret hx hb hr hlk hK hP hD hS d_Mo_more_322
    · rw [if_neg c_54] at h
      refine lv_aload_n hx hb d_Mo_more_291 rfl (lv_at hl 3 rfl) ?_
      refine va_get (D := (dC, dI)) (ci := 7) (v := .ref q_o_read) (C := R_Mo) (T := T_Mo) (N := 18) hx hb hts (iw_Mo _) hown hK hP 0 rfl rfl 13 (by decide) (hts (.fieldLink R_Mo 38 "ShaderMachineModel" "read" "[I") (List.mem_cons_of_mem _ tw_741)) (fun _ h9 => h9) rfl d_Mo_more_292 ?_
      refine lv_iload_n hx hb d_Mo_more_295 rfl (lv_at hl 5 rfl) ?_
      refine va_iald hx hb hK hP 1 0 rfl rfl (ch_in c_1) d_Mo_more_296 ?_
      refine lv_goto (tgt := 321) hx hb d_Mo_more_297 (by decide) ?_
      refine lv_iadd hx hb d_Mo_more_321 ?_
      cases h
      exact ck_iret hx hb hr hlk hK hP hD hS d_Mo_more_322
  rw [if_neg c_52] at h
  by_cases c_58 : p1 = 36
  · rw [if_pos c_58] at h
    refine lv_tableIn (tgt := 273) hx hb d_Mo_more_29 (by rw [c_58]; decide) (by rw [c_58]; decide) (by rw [c_58]; rfl) (by decide) ?_
    refine lv_aload_n hx hb d_Mo_more_273 rfl (lv_at hl 3 rfl) ?_
    refine va_get (D := (dC, dI)) (ci := 7) (v := .ref q_o_textures) (C := R_Mo) (T := T_Mo) (N := 18) hx hb hts (iw_Mo _) hown hK hP 0 rfl rfl 12 (by decide) (hts (.fieldLink R_Mo 35 "ShaderMachineModel" "textures" "[I") (List.mem_cons_of_mem _ tw_740)) (fun _ h9 => h9) rfl d_Mo_more_274 ?_
    refine lv_iconst (v := 4) hx hb d_Mo_more_277 (by decide) ?_
    refine lv_aload_n hx hb d_Mo_more_278 rfl (lv_at hl 3 rfl) ?_
    refine va_get (D := (dC, dI)) (ci := 7) (v := .int o_told) (C := R_Mo) (T := T_Mo) (N := 18) hx hb hts (iw_Mo _) hown hK hP 0 rfl rfl 7 (by decide) (hts (.fieldLink R_Mo 160 "ShaderMachineModel" "told" "I") (List.mem_cons_of_mem _ tw_735)) (fun _ h9 => h9) rfl d_Mo_more_279 ?_
    refine lv_imul hx hb d_Mo_more_282 ?_
    refine lv_iload_n hx hb d_Mo_more_283 rfl (lv_at hl 5 rfl) ?_
    refine lv_iadd hx hb d_Mo_more_284 ?_
    obtain ⟨c_59, h⟩ := ch_ite h
    refine va_iald hx hb hK hP 2 0 rfl rfl (ch_in c_59) d_Mo_more_285 ?_
    refine lv_iload_n hx hb d_Mo_more_286 rfl (lv_at hl 5 rfl) ?_
    refine lv_iconst (v := 2) hx hb d_Mo_more_287 (by decide) ?_
    refine lv_icmp_ge (tgt := 300) hx hb d_Mo_more_288 (by decide) (fun c_60 => ?_) (fun c_60 => ?_)
    · rw [if_pos c_60] at h
      refine lv_iload_n hx hb d_Mo_more_300 rfl (lv_at hl 5 rfl) ?_
      refine lv_iconst (v := 2) hx hb d_Mo_more_301 (by decide) ?_
      refine lv_icmp_ne (tgt := 320) hx hb d_Mo_more_302 (by decide) (fun c_61 => ?_) (fun c_61 => ?_)
      · rw [if_neg c_61] at h
        refine lv_iconst (v := 0) hx hb d_Mo_more_320 (by decide) ?_
        refine lv_iadd hx hb d_Mo_more_321 ?_
        cases h
        exact ck_iret hx hb hr hlk hK hP hD hS d_Mo_more_322
      · rw [if_pos c_61] at h
        refine lv_iload_n hx hb d_Mo_more_305 rfl (lv_at hl 4 rfl) ?_
        refine lv_bipush (v := 33) hx hb d_Mo_more_306 (by decide) ?_
        refine lv_icmp_ne (tgt := 320) hx hb d_Mo_more_308 (by decide) (fun c_62 => ?_) (fun c_62 => ?_)
        · rw [if_neg c_62] at h
          refine lv_iconst (v := 0) hx hb d_Mo_more_320 (by decide) ?_
          refine lv_iadd hx hb d_Mo_more_321 ?_
          cases h
          exact ck_iret hx hb hr hlk hK hP hD hS d_Mo_more_322
        · rw [if_pos c_62] at h
          refine lv_aload_n hx hb d_Mo_more_311 rfl (lv_at hl 3 rfl) ?_
          refine va_get (D := (dC, dI)) (ci := 7) (v := .ref q_o_read) (C := R_Mo) (T := T_Mo) (N := 18) hx hb hts (iw_Mo _) hown hK hP 0 rfl rfl 13 (by decide) (hts (.fieldLink R_Mo 38 "ShaderMachineModel" "read" "[I") (List.mem_cons_of_mem _ tw_741)) (fun _ h9 => h9) rfl d_Mo_more_312 ?_
          refine lv_iconst (v := 2) hx hb d_Mo_more_315 (by decide) ?_
          obtain ⟨c_63, h⟩ := ch_ite h
          refine va_iald hx hb hK hP 1 0 rfl rfl (ch_in c_63) d_Mo_more_316 ?_
          refine lv_goto (tgt := 321) hx hb d_Mo_more_317 (by decide) ?_
          refine lv_iadd hx hb d_Mo_more_321 ?_
          cases h
          exact ck_iret hx hb hr hlk hK hP hD hS d_Mo_more_322
    · rw [if_neg c_60] at h
      refine lv_aload_n hx hb d_Mo_more_291 rfl (lv_at hl 3 rfl) ?_
      refine va_get (D := (dC, dI)) (ci := 7) (v := .ref q_o_read) (C := R_Mo) (T := T_Mo) (N := 18) hx hb hts (iw_Mo _) hown hK hP 0 rfl rfl 13 (by decide) (hts (.fieldLink R_Mo 38 "ShaderMachineModel" "read" "[I") (List.mem_cons_of_mem _ tw_741)) (fun _ h9 => h9) rfl d_Mo_more_292 ?_
      refine lv_iload_n hx hb d_Mo_more_295 rfl (lv_at hl 5 rfl) ?_
      refine va_iald hx hb hK hP 1 0 rfl rfl (ch_in c_1) d_Mo_more_296 ?_
      refine lv_goto (tgt := 321) hx hb d_Mo_more_297 (by decide) ?_
      refine lv_iadd hx hb d_Mo_more_321 ?_
      cases h
      exact ck_iret hx hb hr hlk hK hP hD hS d_Mo_more_322
  rw [if_neg c_58] at h
  by_cases c_64 : p1 = 37
  · rw [if_pos c_64] at h
    refine lv_tableIn (tgt := 273) hx hb d_Mo_more_29 (by rw [c_64]; decide) (by rw [c_64]; decide) (by rw [c_64]; rfl) (by decide) ?_
    refine lv_aload_n hx hb d_Mo_more_273 rfl (lv_at hl 3 rfl) ?_
    refine va_get (D := (dC, dI)) (ci := 7) (v := .ref q_o_textures) (C := R_Mo) (T := T_Mo) (N := 18) hx hb hts (iw_Mo _) hown hK hP 0 rfl rfl 12 (by decide) (hts (.fieldLink R_Mo 35 "ShaderMachineModel" "textures" "[I") (List.mem_cons_of_mem _ tw_740)) (fun _ h9 => h9) rfl d_Mo_more_274 ?_
    refine lv_iconst (v := 4) hx hb d_Mo_more_277 (by decide) ?_
    refine lv_aload_n hx hb d_Mo_more_278 rfl (lv_at hl 3 rfl) ?_
    refine va_get (D := (dC, dI)) (ci := 7) (v := .int o_told) (C := R_Mo) (T := T_Mo) (N := 18) hx hb hts (iw_Mo _) hown hK hP 0 rfl rfl 7 (by decide) (hts (.fieldLink R_Mo 160 "ShaderMachineModel" "told" "I") (List.mem_cons_of_mem _ tw_735)) (fun _ h9 => h9) rfl d_Mo_more_279 ?_
    refine lv_imul hx hb d_Mo_more_282 ?_
    refine lv_iload_n hx hb d_Mo_more_283 rfl (lv_at hl 5 rfl) ?_
    refine lv_iadd hx hb d_Mo_more_284 ?_
    obtain ⟨c_65, h⟩ := ch_ite h
    refine va_iald hx hb hK hP 2 0 rfl rfl (ch_in c_65) d_Mo_more_285 ?_
    refine lv_iload_n hx hb d_Mo_more_286 rfl (lv_at hl 5 rfl) ?_
    refine lv_iconst (v := 2) hx hb d_Mo_more_287 (by decide) ?_
    refine lv_icmp_ge (tgt := 300) hx hb d_Mo_more_288 (by decide) (fun c_66 => ?_) (fun c_66 => ?_)
    · rw [if_pos c_66] at h
      refine lv_iload_n hx hb d_Mo_more_300 rfl (lv_at hl 5 rfl) ?_
      refine lv_iconst (v := 2) hx hb d_Mo_more_301 (by decide) ?_
      refine lv_icmp_ne (tgt := 320) hx hb d_Mo_more_302 (by decide) (fun c_67 => ?_) (fun c_67 => ?_)
      · rw [if_neg c_67] at h
        refine lv_iconst (v := 0) hx hb d_Mo_more_320 (by decide) ?_
        refine lv_iadd hx hb d_Mo_more_321 ?_
        cases h
        exact ck_iret hx hb hr hlk hK hP hD hS d_Mo_more_322
      · rw [if_pos c_67] at h
        refine lv_iload_n hx hb d_Mo_more_305 rfl (lv_at hl 4 rfl) ?_
        refine lv_bipush (v := 33) hx hb d_Mo_more_306 (by decide) ?_
        refine lv_icmp_ne (tgt := 320) hx hb d_Mo_more_308 (by decide) (fun c_68 => ?_) (fun c_68 => ?_)
        · rw [if_neg c_68] at h
          refine lv_iconst (v := 0) hx hb d_Mo_more_320 (by decide) ?_
          refine lv_iadd hx hb d_Mo_more_321 ?_
          cases h
          exact ck_iret hx hb hr hlk hK hP hD hS d_Mo_more_322
        · rw [if_pos c_68] at h
          refine lv_aload_n hx hb d_Mo_more_311 rfl (lv_at hl 3 rfl) ?_
          refine va_get (D := (dC, dI)) (ci := 7) (v := .ref q_o_read) (C := R_Mo) (T := T_Mo) (N := 18) hx hb hts (iw_Mo _) hown hK hP 0 rfl rfl 13 (by decide) (hts (.fieldLink R_Mo 38 "ShaderMachineModel" "read" "[I") (List.mem_cons_of_mem _ tw_741)) (fun _ h9 => h9) rfl d_Mo_more_312 ?_
          refine lv_iconst (v := 2) hx hb d_Mo_more_315 (by decide) ?_
          obtain ⟨c_69, h⟩ := ch_ite h
          refine va_iald hx hb hK hP 1 0 rfl rfl (ch_in c_69) d_Mo_more_316 ?_
          refine lv_goto (tgt := 321) hx hb d_Mo_more_317 (by decide) ?_
          refine lv_iadd hx hb d_Mo_more_321 ?_
          cases h
          exact ck_iret hx hb hr hlk hK hP hD hS d_Mo_more_322
    · rw [if_neg c_66] at h
      refine lv_aload_n hx hb d_Mo_more_291 rfl (lv_at hl 3 rfl) ?_
      refine va_get (D := (dC, dI)) (ci := 7) (v := .ref q_o_read) (C := R_Mo) (T := T_Mo) (N := 18) hx hb hts (iw_Mo _) hown hK hP 0 rfl rfl 13 (by decide) (hts (.fieldLink R_Mo 38 "ShaderMachineModel" "read" "[I") (List.mem_cons_of_mem _ tw_741)) (fun _ h9 => h9) rfl d_Mo_more_292 ?_
      refine lv_iload_n hx hb d_Mo_more_295 rfl (lv_at hl 5 rfl) ?_
      refine va_iald hx hb hK hP 1 0 rfl rfl (ch_in c_1) d_Mo_more_296 ?_
      refine lv_goto (tgt := 321) hx hb d_Mo_more_297 (by decide) ?_
      refine lv_iadd hx hb d_Mo_more_321 ?_
      cases h
      exact ck_iret hx hb hr hlk hK hP hD hS d_Mo_more_322
  rw [if_neg c_64] at h
  by_cases c_70 : p1 = 38
  · rw [if_pos c_70] at h
    refine lv_tableIn (tgt := 273) hx hb d_Mo_more_29 (by rw [c_70]; decide) (by rw [c_70]; decide) (by rw [c_70]; rfl) (by decide) ?_
    refine lv_aload_n hx hb d_Mo_more_273 rfl (lv_at hl 3 rfl) ?_
    refine va_get (D := (dC, dI)) (ci := 7) (v := .ref q_o_textures) (C := R_Mo) (T := T_Mo) (N := 18) hx hb hts (iw_Mo _) hown hK hP 0 rfl rfl 12 (by decide) (hts (.fieldLink R_Mo 35 "ShaderMachineModel" "textures" "[I") (List.mem_cons_of_mem _ tw_740)) (fun _ h9 => h9) rfl d_Mo_more_274 ?_
    refine lv_iconst (v := 4) hx hb d_Mo_more_277 (by decide) ?_
    refine lv_aload_n hx hb d_Mo_more_278 rfl (lv_at hl 3 rfl) ?_
    refine va_get (D := (dC, dI)) (ci := 7) (v := .int o_told) (C := R_Mo) (T := T_Mo) (N := 18) hx hb hts (iw_Mo _) hown hK hP 0 rfl rfl 7 (by decide) (hts (.fieldLink R_Mo 160 "ShaderMachineModel" "told" "I") (List.mem_cons_of_mem _ tw_735)) (fun _ h9 => h9) rfl d_Mo_more_279 ?_
    refine lv_imul hx hb d_Mo_more_282 ?_
    refine lv_iload_n hx hb d_Mo_more_283 rfl (lv_at hl 5 rfl) ?_
    refine lv_iadd hx hb d_Mo_more_284 ?_
    obtain ⟨c_71, h⟩ := ch_ite h
    refine va_iald hx hb hK hP 2 0 rfl rfl (ch_in c_71) d_Mo_more_285 ?_
    refine lv_iload_n hx hb d_Mo_more_286 rfl (lv_at hl 5 rfl) ?_
    refine lv_iconst (v := 2) hx hb d_Mo_more_287 (by decide) ?_
    refine lv_icmp_ge (tgt := 300) hx hb d_Mo_more_288 (by decide) (fun c_72 => ?_) (fun c_72 => ?_)
    · rw [if_pos c_72] at h
      refine lv_iload_n hx hb d_Mo_more_300 rfl (lv_at hl 5 rfl) ?_
      refine lv_iconst (v := 2) hx hb d_Mo_more_301 (by decide) ?_
      refine lv_icmp_ne (tgt := 320) hx hb d_Mo_more_302 (by decide) (fun c_73 => ?_) (fun c_73 => ?_)
      · rw [if_neg c_73] at h
        refine lv_iconst (v := 0) hx hb d_Mo_more_320 (by decide) ?_
        refine lv_iadd hx hb d_Mo_more_321 ?_
        cases h
        exact ck_iret hx hb hr hlk hK hP hD hS d_Mo_more_322
      · rw [if_pos c_73] at h
        refine lv_iload_n hx hb d_Mo_more_305 rfl (lv_at hl 4 rfl) ?_
        refine lv_bipush (v := 33) hx hb d_Mo_more_306 (by decide) ?_
        refine lv_icmp_ne (tgt := 320) hx hb d_Mo_more_308 (by decide) (fun c_74 => ?_) (fun c_74 => ?_)
        · rw [if_neg c_74] at h
          refine lv_iconst (v := 0) hx hb d_Mo_more_320 (by decide) ?_
          refine lv_iadd hx hb d_Mo_more_321 ?_
          cases h
          exact ck_iret hx hb hr hlk hK hP hD hS d_Mo_more_322
        · rw [if_pos c_74] at h
          refine lv_aload_n hx hb d_Mo_more_311 rfl (lv_at hl 3 rfl) ?_
          refine va_get (D := (dC, dI)) (ci := 7) (v := .ref q_o_read) (C := R_Mo) (T := T_Mo) (N := 18) hx hb hts (iw_Mo _) hown hK hP 0 rfl rfl 13 (by decide) (hts (.fieldLink R_Mo 38 "ShaderMachineModel" "read" "[I") (List.mem_cons_of_mem _ tw_741)) (fun _ h9 => h9) rfl d_Mo_more_312 ?_
          refine lv_iconst (v := 2) hx hb d_Mo_more_315 (by decide) ?_
          obtain ⟨c_75, h⟩ := ch_ite h
          refine va_iald hx hb hK hP 1 0 rfl rfl (ch_in c_75) d_Mo_more_316 ?_
          refine lv_goto (tgt := 321) hx hb d_Mo_more_317 (by decide) ?_
          refine lv_iadd hx hb d_Mo_more_321 ?_
          cases h
          exact ck_iret hx hb hr hlk hK hP hD hS d_Mo_more_322
    · rw [if_neg c_72] at h
      refine lv_aload_n hx hb d_Mo_more_291 rfl (lv_at hl 3 rfl) ?_
      refine va_get (D := (dC, dI)) (ci := 7) (v := .ref q_o_read) (C := R_Mo) (T := T_Mo) (N := 18) hx hb hts (iw_Mo _) hown hK hP 0 rfl rfl 13 (by decide) (hts (.fieldLink R_Mo 38 "ShaderMachineModel" "read" "[I") (List.mem_cons_of_mem _ tw_741)) (fun _ h9 => h9) rfl d_Mo_more_292 ?_
      refine lv_iload_n hx hb d_Mo_more_295 rfl (lv_at hl 5 rfl) ?_
      refine va_iald hx hb hK hP 1 0 rfl rfl (ch_in c_1) d_Mo_more_296 ?_
      refine lv_goto (tgt := 321) hx hb d_Mo_more_297 (by decide) ?_
      refine lv_iadd hx hb d_Mo_more_321 ?_
      cases h
      exact ck_iret hx hb hr hlk hK hP hD hS d_Mo_more_322
  rw [if_neg c_70] at h
  by_cases c_76 : p1 = 39
  · rw [if_pos c_76] at h
    refine lv_tableIn (tgt := 263) hx hb d_Mo_more_29 (by rw [c_76]; decide) (by rw [c_76]; decide) (by rw [c_76]; rfl) (by decide) ?_
    refine lv_iload_n hx hb d_Mo_more_263 rfl (lv_at hl 2 rfl) ?_
    refine lv_bipush (v := 16) hx hb d_Mo_more_264 (by decide) ?_
    refine lv_ishr hx hb d_Mo_more_266 ?_
    cases h
    exact ck_iret hx hb hr hlk hK hP hD hS d_Mo_more_267
  rw [if_neg c_76] at h
  by_cases c_77 : p1 = 40
  · rw [if_pos c_77] at h
    refine lv_tableIn (tgt := 268) hx hb d_Mo_more_29 (by rw [c_77]; decide) (by rw [c_77]; decide) (by rw [c_77]; rfl) (by decide) ?_
    refine lv_iload_n hx hb d_Mo_more_268 rfl (lv_at hl 2 rfl) ?_
    refine lv_bipush (v := 16) hx hb d_Mo_more_269 (by decide) ?_
    refine lv_ishl hx hb d_Mo_more_271 ?_
    cases h
    exact ck_iret hx hb hr hlk hK hP hD hS d_Mo_more_272
  rw [if_neg c_77] at h
  cases h
