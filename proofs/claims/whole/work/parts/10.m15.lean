def pf_Mo_load_128 (fu : Nat) (n_o_program : Nat) (n_o_opening : Nat) : Nat → Int32 → Int32 → Int32 → Int32 → Int32 → Int32 → (Nat → Int32) → (Nat → Int32) → (Nat → Int32) → Option (Int32 × Int32 × Int32 × Int32 × Int32 × (Nat → Int32) × (Nat → Int32) × (Nat → Int32))
  | 0, _, _, _, _, _, _, _, _, _ => none
  | n + 1, x2, x4, g_o_thrown, g_o_hasProgram, g_o_fault, g_o_place, g_f_o_fresh, g_f_o_program, g_f_o_opening =>
    if x2 ≤ x4 then
      Option.bind (pf_Mo_steps fu x2 n_o_program g_f_o_program) (fun r_38 => 
      some (r_38.toInt32, g_o_thrown, (1 : Int32), g_o_fault, g_o_place, g_f_o_fresh, g_f_o_program, g_f_o_opening))
    else
      Option.bind (pf_Mo_around fu x4 n_o_program g_f_o_program) (fun r_40 => 
      if (0 : Int32) ≤ x4 ∧ x4.toNatClampNeg < n_o_opening then (
      pf_Mo_load_128 fu n_o_program n_o_opening n x2 (x4 + 1) g_o_thrown g_o_hasProgram g_o_fault g_o_place g_f_o_fresh g_f_o_program (upd g_f_o_opening x4.toNatClampNeg r_40)) else none)
def pf_Mo_load_97 (fu : Nat) (n_o_fresh : Nat) (n_o_program : Nat) (n_o_opening : Nat) : Nat → Int32 → Int32 → Int32 → Int32 → Int32 → Int32 → (Nat → Int32) → (Nat → Int32) → (Nat → Int32) → Option (Int32 × Int32 × Int32 × Int32 × Int32 × (Nat → Int32) × (Nat → Int32) × (Nat → Int32))
  | 0, _, _, _, _, _, _, _, _, _ => none
  | n + 1, x2, x4, g_o_thrown, g_o_hasProgram, g_o_fault, g_o_place, g_f_o_fresh, g_f_o_program, g_f_o_opening =>
    if ((3 : Int32) * x2) ≤ x4 then
      pf_Mo_load_128 fu n_o_program n_o_opening fu x2 (0 : Int32) g_o_thrown g_o_hasProgram g_o_fault g_o_place g_f_o_fresh g_f_o_program g_f_o_opening
    else
      if (0 : Int32) ≤ x4 ∧ x4.toNatClampNeg < n_o_fresh then (
      if (0 : Int32) ≤ x4 ∧ x4.toNatClampNeg < n_o_program then (
      pf_Mo_load_97 fu n_o_fresh n_o_program n_o_opening n x2 (x4 + 1) g_o_thrown g_o_hasProgram g_o_fault g_o_place g_f_o_fresh (upd g_f_o_program x4.toNatClampNeg (g_f_o_fresh x4.toNatClampNeg)) g_f_o_opening) else none) else none
def pf_Mo_load_44 (fu : Nat) (n_o_fresh : Nat) (n_o_memory : Nat) (f_o_memory : Nat → Int32) (n_o_program : Nat) (n_o_opening : Nat) : Nat → Int32 → Int32 → Int32 → Int32 → Int32 → Int32 → Int32 → Int32 → (Nat → Int32) → (Nat → Int32) → (Nat → Int32) → Option (Int32 × Int32 × Int32 × Int32 × Int32 × (Nat → Int32) × (Nat → Int32) × (Nat → Int32))
  | 0, _, _, _, _, _, _, _, _, _, _, _ => none
  | n + 1, x1, x2, x3, x4, g_o_thrown, g_o_hasProgram, g_o_fault, g_o_place, g_f_o_fresh, g_f_o_program, g_f_o_opening =>
    if ((3 : Int32) * x2) ≤ x4 then
      Option.bind (pf_Mo_check fu x2 x3 n_o_fresh g_f_o_fresh g_o_fault g_o_place) (fun (r_27, w_28, w_29) => 
      if r_27 ≤ 0 then
        pf_Mo_load_97 fu n_o_fresh n_o_program n_o_opening fu x2 (0 : Int32) g_o_thrown g_o_hasProgram w_28 w_29 g_f_o_fresh g_f_o_program g_f_o_opening
      else
        some ((0 : Int32), (2 : Int32), g_o_hasProgram, w_28, w_29, g_f_o_fresh, g_f_o_program, g_f_o_opening))
    else
      if (0 : Int32) ≤ (x1 + x4) ∧ (x1 + x4).toNatClampNeg < n_o_memory then (
      if (0 : Int32) ≤ x4 ∧ x4.toNatClampNeg < n_o_fresh then (
      pf_Mo_load_44 fu n_o_fresh n_o_memory f_o_memory n_o_program n_o_opening n x1 x2 x3 (x4 + 1) g_o_thrown g_o_hasProgram g_o_fault g_o_place (upd g_f_o_fresh x4.toNatClampNeg (f_o_memory (x1 + x4).toNatClampNeg)) g_f_o_program g_f_o_opening) else none) else none
def pf_Mo_load (fu : Nat) (p1 : Int32) (p2 : Int32) (p3 : Int32) (o_hasProgram : Int32) (o_fault : Int32) (o_place : Int32) (n_o_fresh : Nat) (f_o_fresh : Nat → Int32) (n_o_memory : Nat) (f_o_memory : Nat → Int32) (n_o_program : Nat) (f_o_program : Nat → Int32) (n_o_opening : Nat) (f_o_opening : Nat → Int32) : Option (Int32 × Int32 × Int32 × Int32 × Int32 × (Nat → Int32) × (Nat → Int32) × (Nat → Int32)) :=
  if p2 < (1 : Int32) then
    Option.bind (pf_Mo_refuse (1 : Int32)) (fun (r_3, w_4) => 
    if r_3 = 0 then
      pf_Mo_load_44 fu n_o_fresh n_o_memory f_o_memory n_o_program n_o_opening fu p1 p2 p3 (0 : Int32) w_4 o_hasProgram o_fault o_place f_o_fresh f_o_program f_o_opening
    else
      some ((0 : Int32), w_4, o_hasProgram, o_fault, o_place, f_o_fresh, f_o_program, f_o_opening))
  else
    if (256 : Int32) < p2 then
      Option.bind (pf_Mo_refuse (1 : Int32)) (fun (r_8, w_9) => 
      if r_8 = 0 then
        pf_Mo_load_44 fu n_o_fresh n_o_memory f_o_memory n_o_program n_o_opening fu p1 p2 p3 (0 : Int32) w_9 o_hasProgram o_fault o_place f_o_fresh f_o_program f_o_opening
      else
        some ((0 : Int32), w_9, o_hasProgram, o_fault, o_place, f_o_fresh, f_o_program, f_o_opening))
    else
      if p1 < 0 then
        Option.bind (pf_Mo_refuse (1 : Int32)) (fun (r_13, w_14) => 
        if r_13 = 0 then
          pf_Mo_load_44 fu n_o_fresh n_o_memory f_o_memory n_o_program n_o_opening fu p1 p2 p3 (0 : Int32) w_14 o_hasProgram o_fault o_place f_o_fresh f_o_program f_o_opening
        else
          some ((0 : Int32), w_14, o_hasProgram, o_fault, o_place, f_o_fresh, f_o_program, f_o_opening))
      else
        if p1 ≤ ((1024 : Int32) - ((3 : Int32) * p2)) then
          Option.bind (pf_Mo_refuse (0 : Int32)) (fun (r_18, w_19) => 
          if r_18 = 0 then
            pf_Mo_load_44 fu n_o_fresh n_o_memory f_o_memory n_o_program n_o_opening fu p1 p2 p3 (0 : Int32) w_19 o_hasProgram o_fault o_place f_o_fresh f_o_program f_o_opening
          else
            some ((0 : Int32), w_19, o_hasProgram, o_fault, o_place, f_o_fresh, f_o_program, f_o_opening))
        else
          Option.bind (pf_Mo_refuse (1 : Int32)) (fun (r_22, w_23) => 
          if r_22 = 0 then
            pf_Mo_load_44 fu n_o_fresh n_o_memory f_o_memory n_o_program n_o_opening fu p1 p2 p3 (0 : Int32) w_23 o_hasProgram o_fault o_place f_o_fresh f_o_program f_o_opening
          else
            some ((0 : Int32), w_23, o_hasProgram, o_fault, o_place, f_o_fresh, f_o_program, f_o_opening))
set_option maxHeartbeats 4000000 in
set_option maxRecDepth 100000 in
theorem k_Mo_load (l : Launch) (dC : Nat → ClassId) (dI : Nat → Nat → Nat) (cI cJ : ClassId) (fu : Nat) (p1 : Int32) (p2 : Int32) (p3 : Int32) (o_thrown : Int32) (o_hasProgram : Int32) (o_fault : Int32) (o_place : Int32) (o_told : Int32) (o_killed : Int32) (n_o_fresh : Nat) (f_o_fresh : Nat → Int32) (n_o_memory : Nat) (f_o_memory : Nat → Int32) (n_o_program : Nat) (f_o_program : Nat → Int32) (n_o_opening : Nat) (f_o_opening : Nat → Int32) (q_o : Nat) (q_o_memory : Nat) (q_o_program : Nat) (q_o_fresh : Nat) (q_o_temporaries : Nat) (q_o_ins : Nat) (q_o_outs : Nat) (q_o_uniforms : Nat) (q_o_textures : Nat) (q_o_read : Nat) (q_o_result : Nat) (q_o_left : Nat) (q_o_opening : Nat) (r : Int32) (o_o_thrown : Int32) (o_o_hasProgram : Int32) (o_o_fault : Int32) (o_o_place : Int32) (o_f_o_fresh : Nat → Int32) (o_f_o_program : Nat → Int32) (o_f_o_opening : Nat → Int32) (h : pf_Mo_load fu p1 p2 p3 o_hasProgram o_fault o_place n_o_fresh f_o_fresh n_o_memory f_o_memory n_o_program f_o_program n_o_opening f_o_opening = some (r, o_o_thrown, o_o_hasProgram, o_o_fault, o_o_place, o_f_o_fresh, o_f_o_program, o_f_o_opening)) : ck_i l y_Mo_load wm_Mo_load ({ frames := 4, cells := 0, slots := 0, locals := 96 } : Room) [.ref q_o, .int p1, .int p2, .int p3] (dC, dI) [(cI, .int), (cJ, .long)] [(q_o, .inr (7, [.int o_thrown, .ref q_o_memory, .ref q_o_program, .ref q_o_fresh, .int o_hasProgram, .int o_fault, .int o_place, .int o_told, .ref q_o_temporaries, .ref q_o_ins, .ref q_o_outs, .ref q_o_uniforms, .ref q_o_textures, .ref q_o_read, .ref q_o_result, .int o_killed, .ref q_o_left, .ref q_o_opening])), (q_o_fresh, .inl (cI, n_o_fresh, .inl f_o_fresh)), (q_o_memory, .inl (cI, n_o_memory, .inl f_o_memory)), (q_o_program, .inl (cI, n_o_program, .inl f_o_program)), (q_o_opening, .inl (cI, n_o_opening, .inl f_o_opening))] r [(q_o, .inr (7, [.int o_o_thrown, .ref q_o_memory, .ref q_o_program, .ref q_o_fresh, .int o_o_hasProgram, .int o_o_fault, .int o_o_place, .int o_told, .ref q_o_temporaries, .ref q_o_ins, .ref q_o_outs, .ref q_o_uniforms, .ref q_o_textures, .ref q_o_read, .ref q_o_result, .int o_killed, .ref q_o_left, .ref q_o_opening])), (q_o_fresh, .inl (cI, n_o_fresh, .inl o_f_o_fresh)), (q_o_memory, .inl (cI, n_o_memory, .inl f_o_memory)), (q_o_program, .inl (cI, n_o_program, .inl o_f_o_program)), (q_o_opening, .inl (cI, n_o_opening, .inl o_f_o_opening))] := by
  refine ck_ofi (cc := c_Mo_load) (maxL := 5) (ret := (some .int)) (by decide +kernel) rfl ?_
  intro p e s m below meth c A C0 hK hP hD hS hE
  obtain ⟨hx, hb, hr, hml, hown, hts, hlk, hA, hin⟩ := C0
  have w_128 : ∀ (n_128 : Nat) (x2 : Int32) (x4 : Int32) (g_o_thrown : Int32) (g_o_hasProgram : Int32) (g_o_fault : Int32) (g_o_place : Int32) (g_f_o_fresh : Nat → Int32) (g_f_o_program : Nat → Int32) (g_f_o_opening : Nat → Int32), pf_Mo_load_128 fu n_o_program n_o_opening n_128 x2 x4 g_o_thrown g_o_hasProgram g_o_fault g_o_place g_f_o_fresh g_f_o_program g_f_o_opening = some (r, o_o_thrown, o_o_hasProgram, o_o_fault, o_o_place, o_f_o_fresh, o_f_o_program, o_f_o_opening) → ∀ (H : Heap) (locs : List Loc), va_P (dC, dI) vwCl [(q_o, .inr (7, [.int g_o_thrown, .ref q_o_memory, .ref q_o_program, .ref q_o_fresh, .int g_o_hasProgram, .int g_o_fault, .int g_o_place, .int o_told, .ref q_o_temporaries, .ref q_o_ins, .ref q_o_outs, .ref q_o_uniforms, .ref q_o_textures, .ref q_o_read, .ref q_o_result, .int o_killed, .ref q_o_left, .ref q_o_opening])), (q_o_fresh, .inl (cI, n_o_fresh, .inl g_f_o_fresh)), (q_o_memory, .inl (cI, n_o_memory, .inl f_o_memory)), (q_o_program, .inl (cI, n_o_program, .inl g_f_o_program)), (q_o_opening, .inl (cI, n_o_opening, .inl g_f_o_opening))] H → va_D A [(q_o, .inr (7, [.int g_o_thrown, .ref q_o_memory, .ref q_o_program, .ref q_o_fresh, .int g_o_hasProgram, .int g_o_fault, .int g_o_place, .int o_told, .ref q_o_temporaries, .ref q_o_ins, .ref q_o_outs, .ref q_o_uniforms, .ref q_o_textures, .ref q_o_read, .ref q_o_result, .int o_killed, .ref q_o_left, .ref q_o_opening])), (q_o_fresh, .inl (cI, n_o_fresh, .inl g_f_o_fresh)), (q_o_memory, .inl (cI, n_o_memory, .inl f_o_memory)), (q_o_program, .inl (cI, n_o_program, .inl g_f_o_program)), (q_o_opening, .inl (cI, n_o_opening, .inl g_f_o_opening))] → va_S A s.heap H locs → ∀ ls : Array Slot, lv_has ls 5 [(0, .ref q_o), (2, .int x2), (4, .int x4)] → W p l e ({ frames := 4, cells := 0, slots := 0, locals := 96 } : Room) s m ([.ref q_o, .int p1, .int p2, .int p3] : List Value).toArray below meth c H locs 0 0 (ck_Qi below (dC, dI) [(cI, .int), (cJ, .long)] A ([.ref q_o, .int p1, .int p2, .int p3] : List Value).toArray s r [(q_o, .inr (7, [.int o_o_thrown, .ref q_o_memory, .ref q_o_program, .ref q_o_fresh, .int o_o_hasProgram, .int o_o_fault, .int o_o_place, .int o_told, .ref q_o_temporaries, .ref q_o_ins, .ref q_o_outs, .ref q_o_uniforms, .ref q_o_textures, .ref q_o_read, .ref q_o_result, .int o_killed, .ref q_o_left, .ref q_o_opening])), (q_o_fresh, .inl (cI, n_o_fresh, .inl o_f_o_fresh)), (q_o_memory, .inl (cI, n_o_memory, .inl f_o_memory)), (q_o_program, .inl (cI, n_o_program, .inl o_f_o_program)), (q_o_opening, .inl (cI, n_o_opening, .inl o_f_o_opening))]) (F0 m 128 ls []) := by
    intro n_128
    induction n_128 with
    | zero =>
      intro x2 x4 g_o_thrown g_o_hasProgram g_o_fault g_o_place g_f_o_fresh g_f_o_program g_f_o_opening h
      cases h
    | succ n_128 ih_128 =>
      intro x2 x4 g_o_thrown g_o_hasProgram g_o_fault g_o_place g_f_o_fresh g_f_o_program g_f_o_opening h H locs hP hD hS ls hl
      rw [pf_Mo_load_128] at h
      refine lv_iload hx hb d_Mo_load_128 (lv_at hl 2 rfl) ?_
      refine lv_iload_n hx hb d_Mo_load_130 rfl (lv_at hl 1 rfl) ?_
      refine lv_icmp_ge (tgt := 156) hx hb d_Mo_load_131 (by decide) (fun c_36 => ?_) (fun c_36 => ?_)
      · rw [if_pos c_36] at h
        refine lv_aload_n hx hb d_Mo_load_156 rfl (lv_at hl 0 rfl) ?_
        refine lv_iconst (v := 1) hx hb d_Mo_load_157 (by decide) ?_
        refine va_put (D := (dC, dI)) (ci := 7) (v := .int (1 : Int32)) (ty := .boolean) (C := R_Mo) (T := T_Mo) (N := 18) hx hb hts (iw_Mo _) ty_Mo tk_Mo nd_Mo hown hK hP hD hS 0 rfl rfl 4 (by decide) (hts (.fieldLink R_Mo 122 "ShaderMachineModel" "hasProgram" "Z") (List.mem_cons_of_mem _ tw_732)) (fun _ h9 => h9) rfl (by decide +kernel) rfl rfl (Nat.le_of_ble_eq_true rfl) d_Mo_load_158 (fun H locs hP hD hS => ?_)
        have hP : va_P (dC, dI) vwCl [(q_o, .inr (7, [.int g_o_thrown, .ref q_o_memory, .ref q_o_program, .ref q_o_fresh, .int (1 : Int32), .int g_o_fault, .int g_o_place, .int o_told, .ref q_o_temporaries, .ref q_o_ins, .ref q_o_outs, .ref q_o_uniforms, .ref q_o_textures, .ref q_o_read, .ref q_o_result, .int o_killed, .ref q_o_left, .ref q_o_opening])), (q_o_fresh, .inl (cI, n_o_fresh, .inl g_f_o_fresh)), (q_o_memory, .inl (cI, n_o_memory, .inl f_o_memory)), (q_o_program, .inl (cI, n_o_program, .inl g_f_o_program)), (q_o_opening, .inl (cI, n_o_opening, .inl g_f_o_opening))] H := hP
        have hD : va_D A [(q_o, .inr (7, [.int g_o_thrown, .ref q_o_memory, .ref q_o_program, .ref q_o_fresh, .int (1 : Int32), .int g_o_fault, .int g_o_place, .int o_told, .ref q_o_temporaries, .ref q_o_ins, .ref q_o_outs, .ref q_o_uniforms, .ref q_o_textures, .ref q_o_read, .ref q_o_result, .int o_killed, .ref q_o_left, .ref q_o_opening])), (q_o_fresh, .inl (cI, n_o_fresh, .inl g_f_o_fresh)), (q_o_memory, .inl (cI, n_o_memory, .inl f_o_memory)), (q_o_program, .inl (cI, n_o_program, .inl g_f_o_program)), (q_o_opening, .inl (cI, n_o_opening, .inl g_f_o_opening))] := hD
        refine lv_aload_n hx hb d_Mo_load_161 rfl (lv_at hl 0 rfl) ?_
        refine va_get (D := (dC, dI)) (ci := 7) (v := .ref q_o_program) (C := R_Mo) (T := T_Mo) (N := 18) hx hb hts (iw_Mo _) hown hK hP 0 rfl rfl 2 (by decide) (hts (.fieldLink R_Mo 13 "ShaderMachineModel" "program" "[I") (List.mem_cons_of_mem _ tw_730)) (fun _ h9 => h9) rfl d_Mo_load_162 ?_
        refine lv_iload_n hx hb d_Mo_load_165 rfl (lv_at hl 1 rfl) ?_
        obtain ⟨r_38, h_37, h⟩ := ch_bind h
        try dsimp only at h
        refine ck_gol (wc := [(q_o_program, .inl (cI, n_o_program, .inl g_f_o_program))]) (wr := [(q_o, .inr (7, [.int g_o_thrown, .ref q_o_memory, .ref q_o_program, .ref q_o_fresh, .int (1 : Int32), .int g_o_fault, .int g_o_place, .int o_told, .ref q_o_temporaries, .ref q_o_ins, .ref q_o_outs, .ref q_o_uniforms, .ref q_o_textures, .ref q_o_read, .ref q_o_result, .int o_killed, .ref q_o_left, .ref q_o_opening])), (q_o_fresh, .inl (cI, n_o_fresh, .inl g_f_o_fresh)), (q_o_memory, .inl (cI, n_o_memory, .inl f_o_memory)), (q_o_opening, .inl (cI, n_o_opening, .inl g_f_o_opening))]) (w1 := [(q_o_program, .inl (cI, n_o_program, .inl g_f_o_program))]) (va_runS (As := [.ref q_o_program, .int x2]) (rest := []) ⟨hx, hb, hml, hown, hts⟩ (k_Mo_steps l dC dI cI cJ fu x2 n_o_program g_f_o_program q_o_program r_38 h_37 _) (va_cwS 2 hts (gw_S tw_847 tw_848 tw_9 tw_849) rfl rfl rfl (by decide +kernel) ⟨Nat.le_of_ble_eq_true rfl, Nat.le_of_ble_eq_true rfl⟩) (ck_preS (wc := [(q_o_program, .inl (cI, n_o_program, .inl g_f_o_program))]) hK hP hD hS hA hE [3] (by decide) rfl) rfl rfl hl.1 rfl (lv_room (Nat.le_of_ble_eq_true rfl)) d_Mo_load_166 ⟨Nat.le_of_ble_eq_true rfl, Nat.le_of_ble_eq_true rfl⟩) hP hD hS hA [3] [0, 1, 2, 4] rfl rfl (by decide) (by decide) (fun H locs hP hD hS => ?_)
        have hP : va_P (dC, dI) vwCl [(q_o, .inr (7, [.int g_o_thrown, .ref q_o_memory, .ref q_o_program, .ref q_o_fresh, .int (1 : Int32), .int g_o_fault, .int g_o_place, .int o_told, .ref q_o_temporaries, .ref q_o_ins, .ref q_o_outs, .ref q_o_uniforms, .ref q_o_textures, .ref q_o_read, .ref q_o_result, .int o_killed, .ref q_o_left, .ref q_o_opening])), (q_o_fresh, .inl (cI, n_o_fresh, .inl g_f_o_fresh)), (q_o_memory, .inl (cI, n_o_memory, .inl f_o_memory)), (q_o_program, .inl (cI, n_o_program, .inl g_f_o_program)), (q_o_opening, .inl (cI, n_o_opening, .inl g_f_o_opening))] H := hP.sub [0, 1, 2, 4, 3] rfl
        have hD : va_D A [(q_o, .inr (7, [.int g_o_thrown, .ref q_o_memory, .ref q_o_program, .ref q_o_fresh, .int (1 : Int32), .int g_o_fault, .int g_o_place, .int o_told, .ref q_o_temporaries, .ref q_o_ins, .ref q_o_outs, .ref q_o_uniforms, .ref q_o_textures, .ref q_o_read, .ref q_o_result, .int o_killed, .ref q_o_left, .ref q_o_opening])), (q_o_fresh, .inl (cI, n_o_fresh, .inl g_f_o_fresh)), (q_o_memory, .inl (cI, n_o_memory, .inl f_o_memory)), (q_o_program, .inl (cI, n_o_program, .inl g_f_o_program)), (q_o_opening, .inl (cI, n_o_opening, .inl g_f_o_opening))] := hD.sub [0, 1, 2, 4, 3] (by decide) rfl
        refine lv_l2i hx hb d_Mo_load_169 rfl ?_
        cases h
        exact ck_iret hx hb hr hlk hK hP hD hS d_Mo_load_170
      · rw [if_neg c_36] at h
        refine lv_aload_n hx hb d_Mo_load_134 rfl (lv_at hl 0 rfl) ?_
        refine va_get (D := (dC, dI)) (ci := 7) (v := .ref q_o_opening) (C := R_Mo) (T := T_Mo) (N := 18) hx hb hts (iw_Mo _) hown hK hP 0 rfl rfl 17 (by decide) (hts (.fieldLink R_Mo 47 "ShaderMachineModel" "opening" "[I") (List.mem_cons_of_mem _ tw_745)) (fun _ h9 => h9) rfl d_Mo_load_135 ?_
        refine lv_iload hx hb d_Mo_load_138 (lv_at hl 2 rfl) ?_
        refine lv_aload_n hx hb d_Mo_load_140 rfl (lv_at hl 0 rfl) ?_
        refine va_get (D := (dC, dI)) (ci := 7) (v := .ref q_o_program) (C := R_Mo) (T := T_Mo) (N := 18) hx hb hts (iw_Mo _) hown hK hP 0 rfl rfl 2 (by decide) (hts (.fieldLink R_Mo 13 "ShaderMachineModel" "program" "[I") (List.mem_cons_of_mem _ tw_730)) (fun _ h9 => h9) rfl d_Mo_load_141 ?_
        refine lv_iload hx hb d_Mo_load_144 (lv_at hl 2 rfl) ?_
        obtain ⟨r_40, h_39, h⟩ := ch_bind h
        try dsimp only at h
        refine ck_goi (wc := [(q_o_program, .inl (cI, n_o_program, .inl g_f_o_program))]) (wr := [(q_o, .inr (7, [.int g_o_thrown, .ref q_o_memory, .ref q_o_program, .ref q_o_fresh, .int g_o_hasProgram, .int g_o_fault, .int g_o_place, .int o_told, .ref q_o_temporaries, .ref q_o_ins, .ref q_o_outs, .ref q_o_uniforms, .ref q_o_textures, .ref q_o_read, .ref q_o_result, .int o_killed, .ref q_o_left, .ref q_o_opening])), (q_o_fresh, .inl (cI, n_o_fresh, .inl g_f_o_fresh)), (q_o_memory, .inl (cI, n_o_memory, .inl f_o_memory)), (q_o_opening, .inl (cI, n_o_opening, .inl g_f_o_opening))]) (w1 := [(q_o_program, .inl (cI, n_o_program, .inl g_f_o_program))]) (va_runS (As := [.ref q_o_program, .int x4]) (rest := [.int x4, .ref q_o_opening]) ⟨hx, hb, hml, hown, hts⟩ (k_Mo_around l dC dI cI cJ fu x4 n_o_program g_f_o_program q_o_program r_40 h_39 _) (va_cwS 2 hts (gw_S tw_844 tw_845 tw_9 tw_846) rfl rfl rfl (by decide +kernel) ⟨Nat.le_of_ble_eq_true rfl, Nat.le_of_ble_eq_true rfl⟩) (ck_preS (wc := [(q_o_program, .inl (cI, n_o_program, .inl g_f_o_program))]) hK hP hD hS hA hE [3] (by decide) rfl) rfl rfl hl.1 rfl (lv_room (Nat.le_of_ble_eq_true rfl)) d_Mo_load_146 ⟨Nat.le_of_ble_eq_true rfl, Nat.le_of_ble_eq_true rfl⟩) hP hD hS hA [3] [0, 1, 2, 4] rfl rfl (by decide) (by decide) (fun H locs hP hD hS => ?_)
        have hP : va_P (dC, dI) vwCl [(q_o, .inr (7, [.int g_o_thrown, .ref q_o_memory, .ref q_o_program, .ref q_o_fresh, .int g_o_hasProgram, .int g_o_fault, .int g_o_place, .int o_told, .ref q_o_temporaries, .ref q_o_ins, .ref q_o_outs, .ref q_o_uniforms, .ref q_o_textures, .ref q_o_read, .ref q_o_result, .int o_killed, .ref q_o_left, .ref q_o_opening])), (q_o_fresh, .inl (cI, n_o_fresh, .inl g_f_o_fresh)), (q_o_memory, .inl (cI, n_o_memory, .inl f_o_memory)), (q_o_program, .inl (cI, n_o_program, .inl g_f_o_program)), (q_o_opening, .inl (cI, n_o_opening, .inl g_f_o_opening))] H := hP.sub [0, 1, 2, 4, 3] rfl
        have hD : va_D A [(q_o, .inr (7, [.int g_o_thrown, .ref q_o_memory, .ref q_o_program, .ref q_o_fresh, .int g_o_hasProgram, .int g_o_fault, .int g_o_place, .int o_told, .ref q_o_temporaries, .ref q_o_ins, .ref q_o_outs, .ref q_o_uniforms, .ref q_o_textures, .ref q_o_read, .ref q_o_result, .int o_killed, .ref q_o_left, .ref q_o_opening])), (q_o_fresh, .inl (cI, n_o_fresh, .inl g_f_o_fresh)), (q_o_memory, .inl (cI, n_o_memory, .inl f_o_memory)), (q_o_program, .inl (cI, n_o_program, .inl g_f_o_program)), (q_o_opening, .inl (cI, n_o_opening, .inl g_f_o_opening))] := hD.sub [0, 1, 2, 4, 3] (by decide) rfl
        obtain ⟨c_41, h⟩ := ch_ite h
        refine va_iast hx hb hK hP hD hS 4 0 rfl rfl (ch_in c_41) d_Mo_load_149 (fun H locs hP hD hS => ?_)
        have hP : va_P (dC, dI) vwCl [(q_o, .inr (7, [.int g_o_thrown, .ref q_o_memory, .ref q_o_program, .ref q_o_fresh, .int g_o_hasProgram, .int g_o_fault, .int g_o_place, .int o_told, .ref q_o_temporaries, .ref q_o_ins, .ref q_o_outs, .ref q_o_uniforms, .ref q_o_textures, .ref q_o_read, .ref q_o_result, .int o_killed, .ref q_o_left, .ref q_o_opening])), (q_o_fresh, .inl (cI, n_o_fresh, .inl g_f_o_fresh)), (q_o_memory, .inl (cI, n_o_memory, .inl f_o_memory)), (q_o_program, .inl (cI, n_o_program, .inl g_f_o_program)), (q_o_opening, .inl (cI, n_o_opening, .inl (upd g_f_o_opening x4.toNatClampNeg r_40)))] H := hP
        have hD : va_D A [(q_o, .inr (7, [.int g_o_thrown, .ref q_o_memory, .ref q_o_program, .ref q_o_fresh, .int g_o_hasProgram, .int g_o_fault, .int g_o_place, .int o_told, .ref q_o_temporaries, .ref q_o_ins, .ref q_o_outs, .ref q_o_uniforms, .ref q_o_textures, .ref q_o_read, .ref q_o_result, .int o_killed, .ref q_o_left, .ref q_o_opening])), (q_o_fresh, .inl (cI, n_o_fresh, .inl g_f_o_fresh)), (q_o_memory, .inl (cI, n_o_memory, .inl f_o_memory)), (q_o_program, .inl (cI, n_o_program, .inl g_f_o_program)), (q_o_opening, .inl (cI, n_o_opening, .inl (upd g_f_o_opening x4.toNatClampNeg r_40)))] := hD
        refine lv_iinc (v := (x4 + 1)) (lv' := [(4, .int (x4 + 1)), (0, .ref q_o), (2, .int x2)]) hx hb d_Mo_load_150 hl (k := 2) rfl (by rfl) (by decide) rfl (fun ls hl => ?_)
        refine lv_goto (tgt := 128) hx hb d_Mo_load_153 (by decide) ?_
        exact ih_128 x2 (x4 + 1) g_o_thrown g_o_hasProgram g_o_fault g_o_place g_f_o_fresh g_f_o_program (upd g_f_o_opening x4.toNatClampNeg r_40) h _ _ hP hD hS _ (lv_sub hl [1, 2, 0] rfl)
  have w_97 : ∀ (n_97 : Nat) (x2 : Int32) (x4 : Int32) (g_o_thrown : Int32) (g_o_hasProgram : Int32) (g_o_fault : Int32) (g_o_place : Int32) (g_f_o_fresh : Nat → Int32) (g_f_o_program : Nat → Int32) (g_f_o_opening : Nat → Int32), pf_Mo_load_97 fu n_o_fresh n_o_program n_o_opening n_97 x2 x4 g_o_thrown g_o_hasProgram g_o_fault g_o_place g_f_o_fresh g_f_o_program g_f_o_opening = some (r, o_o_thrown, o_o_hasProgram, o_o_fault, o_o_place, o_f_o_fresh, o_f_o_program, o_f_o_opening) → ∀ (H : Heap) (locs : List Loc), va_P (dC, dI) vwCl [(q_o, .inr (7, [.int g_o_thrown, .ref q_o_memory, .ref q_o_program, .ref q_o_fresh, .int g_o_hasProgram, .int g_o_fault, .int g_o_place, .int o_told, .ref q_o_temporaries, .ref q_o_ins, .ref q_o_outs, .ref q_o_uniforms, .ref q_o_textures, .ref q_o_read, .ref q_o_result, .int o_killed, .ref q_o_left, .ref q_o_opening])), (q_o_fresh, .inl (cI, n_o_fresh, .inl g_f_o_fresh)), (q_o_memory, .inl (cI, n_o_memory, .inl f_o_memory)), (q_o_program, .inl (cI, n_o_program, .inl g_f_o_program)), (q_o_opening, .inl (cI, n_o_opening, .inl g_f_o_opening))] H → va_D A [(q_o, .inr (7, [.int g_o_thrown, .ref q_o_memory, .ref q_o_program, .ref q_o_fresh, .int g_o_hasProgram, .int g_o_fault, .int g_o_place, .int o_told, .ref q_o_temporaries, .ref q_o_ins, .ref q_o_outs, .ref q_o_uniforms, .ref q_o_textures, .ref q_o_read, .ref q_o_result, .int o_killed, .ref q_o_left, .ref q_o_opening])), (q_o_fresh, .inl (cI, n_o_fresh, .inl g_f_o_fresh)), (q_o_memory, .inl (cI, n_o_memory, .inl f_o_memory)), (q_o_program, .inl (cI, n_o_program, .inl g_f_o_program)), (q_o_opening, .inl (cI, n_o_opening, .inl g_f_o_opening))] → va_S A s.heap H locs → ∀ ls : Array Slot, lv_has ls 5 [(0, .ref q_o), (2, .int x2), (4, .int x4)] → W p l e ({ frames := 4, cells := 0, slots := 0, locals := 96 } : Room) s m ([.ref q_o, .int p1, .int p2, .int p3] : List Value).toArray below meth c H locs 0 0 (ck_Qi below (dC, dI) [(cI, .int), (cJ, .long)] A ([.ref q_o, .int p1, .int p2, .int p3] : List Value).toArray s r [(q_o, .inr (7, [.int o_o_thrown, .ref q_o_memory, .ref q_o_program, .ref q_o_fresh, .int o_o_hasProgram, .int o_o_fault, .int o_o_place, .int o_told, .ref q_o_temporaries, .ref q_o_ins, .ref q_o_outs, .ref q_o_uniforms, .ref q_o_textures, .ref q_o_read, .ref q_o_result, .int o_killed, .ref q_o_left, .ref q_o_opening])), (q_o_fresh, .inl (cI, n_o_fresh, .inl o_f_o_fresh)), (q_o_memory, .inl (cI, n_o_memory, .inl f_o_memory)), (q_o_program, .inl (cI, n_o_program, .inl o_f_o_program)), (q_o_opening, .inl (cI, n_o_opening, .inl o_f_o_opening))]) (F0 m 97 ls []) := by
    intro n_97
    induction n_97 with
    | zero =>
      intro x2 x4 g_o_thrown g_o_hasProgram g_o_fault g_o_place g_f_o_fresh g_f_o_program g_f_o_opening h
      cases h
    | succ n_97 ih_97 =>
      intro x2 x4 g_o_thrown g_o_hasProgram g_o_fault g_o_place g_f_o_fresh g_f_o_program g_f_o_opening h H locs hP hD hS ls hl
      rw [pf_Mo_load_97] at h
      refine lv_iload hx hb d_Mo_load_97 (lv_at hl 2 rfl) ?_
      refine lv_iconst (v := 3) hx hb d_Mo_load_99 (by decide) ?_
      refine lv_iload_n hx hb d_Mo_load_100 rfl (lv_at hl 1 rfl) ?_
      refine lv_imul hx hb d_Mo_load_101 ?_
      refine lv_icmp_ge (tgt := 125) hx hb d_Mo_load_102 (by decide) (fun c_33 => ?_) (fun c_33 => ?_)
      · rw [if_pos c_33] at h
        refine lv_iconst (v := 0) hx hb d_Mo_load_125 (by decide) ?_
        refine lv_istore (lv' := [(4, .int (0 : Int32)), (0, .ref q_o), (2, .int x2)]) hx hb d_Mo_load_126 hl (by decide) rfl (fun ls hl => ?_)
        exact w_128 fu x2 (0 : Int32) g_o_thrown g_o_hasProgram g_o_fault g_o_place g_f_o_fresh g_f_o_program g_f_o_opening h _ _ hP hD hS _ (lv_sub hl [1, 2, 0] rfl)
      · rw [if_neg c_33] at h
        refine lv_aload_n hx hb d_Mo_load_105 rfl (lv_at hl 0 rfl) ?_
        refine va_get (D := (dC, dI)) (ci := 7) (v := .ref q_o_program) (C := R_Mo) (T := T_Mo) (N := 18) hx hb hts (iw_Mo _) hown hK hP 0 rfl rfl 2 (by decide) (hts (.fieldLink R_Mo 13 "ShaderMachineModel" "program" "[I") (List.mem_cons_of_mem _ tw_730)) (fun _ h9 => h9) rfl d_Mo_load_106 ?_
        refine lv_iload hx hb d_Mo_load_109 (lv_at hl 2 rfl) ?_
        refine lv_aload_n hx hb d_Mo_load_111 rfl (lv_at hl 0 rfl) ?_
        refine va_get (D := (dC, dI)) (ci := 7) (v := .ref q_o_fresh) (C := R_Mo) (T := T_Mo) (N := 18) hx hb hts (iw_Mo _) hown hK hP 0 rfl rfl 3 (by decide) (hts (.fieldLink R_Mo 16 "ShaderMachineModel" "fresh" "[I") (List.mem_cons_of_mem _ tw_731)) (fun _ h9 => h9) rfl d_Mo_load_112 ?_
        refine lv_iload hx hb d_Mo_load_115 (lv_at hl 2 rfl) ?_
        obtain ⟨c_34, h⟩ := ch_ite h
        refine va_iald hx hb hK hP 1 0 rfl rfl (ch_in c_34) d_Mo_load_117 ?_
        obtain ⟨c_35, h⟩ := ch_ite h
        refine va_iast hx hb hK hP hD hS 3 0 rfl rfl (ch_in c_35) d_Mo_load_118 (fun H locs hP hD hS => ?_)
        have hP : va_P (dC, dI) vwCl [(q_o, .inr (7, [.int g_o_thrown, .ref q_o_memory, .ref q_o_program, .ref q_o_fresh, .int g_o_hasProgram, .int g_o_fault, .int g_o_place, .int o_told, .ref q_o_temporaries, .ref q_o_ins, .ref q_o_outs, .ref q_o_uniforms, .ref q_o_textures, .ref q_o_read, .ref q_o_result, .int o_killed, .ref q_o_left, .ref q_o_opening])), (q_o_fresh, .inl (cI, n_o_fresh, .inl g_f_o_fresh)), (q_o_memory, .inl (cI, n_o_memory, .inl f_o_memory)), (q_o_program, .inl (cI, n_o_program, .inl (upd g_f_o_program x4.toNatClampNeg (g_f_o_fresh x4.toNatClampNeg)))), (q_o_opening, .inl (cI, n_o_opening, .inl g_f_o_opening))] H := hP
        have hD : va_D A [(q_o, .inr (7, [.int g_o_thrown, .ref q_o_memory, .ref q_o_program, .ref q_o_fresh, .int g_o_hasProgram, .int g_o_fault, .int g_o_place, .int o_told, .ref q_o_temporaries, .ref q_o_ins, .ref q_o_outs, .ref q_o_uniforms, .ref q_o_textures, .ref q_o_read, .ref q_o_result, .int o_killed, .ref q_o_left, .ref q_o_opening])), (q_o_fresh, .inl (cI, n_o_fresh, .inl g_f_o_fresh)), (q_o_memory, .inl (cI, n_o_memory, .inl f_o_memory)), (q_o_program, .inl (cI, n_o_program, .inl (upd g_f_o_program x4.toNatClampNeg (g_f_o_fresh x4.toNatClampNeg)))), (q_o_opening, .inl (cI, n_o_opening, .inl g_f_o_opening))] := hD
        refine lv_iinc (v := (x4 + 1)) (lv' := [(4, .int (x4 + 1)), (0, .ref q_o), (2, .int x2)]) hx hb d_Mo_load_119 hl (k := 2) rfl (by rfl) (by decide) rfl (fun ls hl => ?_)
        refine lv_goto (tgt := 97) hx hb d_Mo_load_122 (by decide) ?_
        exact ih_97 x2 (x4 + 1) g_o_thrown g_o_hasProgram g_o_fault g_o_place g_f_o_fresh (upd g_f_o_program x4.toNatClampNeg (g_f_o_fresh x4.toNatClampNeg)) g_f_o_opening h _ _ hP hD hS _ (lv_sub hl [1, 2, 0] rfl)
  have w_44 : ∀ (n_44 : Nat) (x1 : Int32) (x2 : Int32) (x3 : Int32) (x4 : Int32) (g_o_thrown : Int32) (g_o_hasProgram : Int32) (g_o_fault : Int32) (g_o_place : Int32) (g_f_o_fresh : Nat → Int32) (g_f_o_program : Nat → Int32) (g_f_o_opening : Nat → Int32), pf_Mo_load_44 fu n_o_fresh n_o_memory f_o_memory n_o_program n_o_opening n_44 x1 x2 x3 x4 g_o_thrown g_o_hasProgram g_o_fault g_o_place g_f_o_fresh g_f_o_program g_f_o_opening = some (r, o_o_thrown, o_o_hasProgram, o_o_fault, o_o_place, o_f_o_fresh, o_f_o_program, o_f_o_opening) → ∀ (H : Heap) (locs : List Loc), va_P (dC, dI) vwCl [(q_o, .inr (7, [.int g_o_thrown, .ref q_o_memory, .ref q_o_program, .ref q_o_fresh, .int g_o_hasProgram, .int g_o_fault, .int g_o_place, .int o_told, .ref q_o_temporaries, .ref q_o_ins, .ref q_o_outs, .ref q_o_uniforms, .ref q_o_textures, .ref q_o_read, .ref q_o_result, .int o_killed, .ref q_o_left, .ref q_o_opening])), (q_o_fresh, .inl (cI, n_o_fresh, .inl g_f_o_fresh)), (q_o_memory, .inl (cI, n_o_memory, .inl f_o_memory)), (q_o_program, .inl (cI, n_o_program, .inl g_f_o_program)), (q_o_opening, .inl (cI, n_o_opening, .inl g_f_o_opening))] H → va_D A [(q_o, .inr (7, [.int g_o_thrown, .ref q_o_memory, .ref q_o_program, .ref q_o_fresh, .int g_o_hasProgram, .int g_o_fault, .int g_o_place, .int o_told, .ref q_o_temporaries, .ref q_o_ins, .ref q_o_outs, .ref q_o_uniforms, .ref q_o_textures, .ref q_o_read, .ref q_o_result, .int o_killed, .ref q_o_left, .ref q_o_opening])), (q_o_fresh, .inl (cI, n_o_fresh, .inl g_f_o_fresh)), (q_o_memory, .inl (cI, n_o_memory, .inl f_o_memory)), (q_o_program, .inl (cI, n_o_program, .inl g_f_o_program)), (q_o_opening, .inl (cI, n_o_opening, .inl g_f_o_opening))] → va_S A s.heap H locs → ∀ ls : Array Slot, lv_has ls 5 [(0, .ref q_o), (1, .int x1), (2, .int x2), (3, .int x3), (4, .int x4)] → W p l e ({ frames := 4, cells := 0, slots := 0, locals := 96 } : Room) s m ([.ref q_o, .int p1, .int p2, .int p3] : List Value).toArray below meth c H locs 0 0 (ck_Qi below (dC, dI) [(cI, .int), (cJ, .long)] A ([.ref q_o, .int p1, .int p2, .int p3] : List Value).toArray s r [(q_o, .inr (7, [.int o_o_thrown, .ref q_o_memory, .ref q_o_program, .ref q_o_fresh, .int o_o_hasProgram, .int o_o_fault, .int o_o_place, .int o_told, .ref q_o_temporaries, .ref q_o_ins, .ref q_o_outs, .ref q_o_uniforms, .ref q_o_textures, .ref q_o_read, .ref q_o_result, .int o_killed, .ref q_o_left, .ref q_o_opening])), (q_o_fresh, .inl (cI, n_o_fresh, .inl o_f_o_fresh)), (q_o_memory, .inl (cI, n_o_memory, .inl f_o_memory)), (q_o_program, .inl (cI, n_o_program, .inl o_f_o_program)), (q_o_opening, .inl (cI, n_o_opening, .inl o_f_o_opening))]) (F0 m 44 ls []) := by
    intro n_44
    induction n_44 with
    | zero =>
      intro x1 x2 x3 x4 g_o_thrown g_o_hasProgram g_o_fault g_o_place g_f_o_fresh g_f_o_program g_f_o_opening h
      cases h
    | succ n_44 ih_44 =>
      intro x1 x2 x3 x4 g_o_thrown g_o_hasProgram g_o_fault g_o_place g_f_o_fresh g_f_o_program g_f_o_opening h H locs hP hD hS ls hl
      rw [pf_Mo_load_44] at h
      refine lv_iload hx hb d_Mo_load_44 (lv_at hl 4 rfl) ?_
      refine lv_iconst (v := 3) hx hb d_Mo_load_46 (by decide) ?_
      refine lv_iload_n hx hb d_Mo_load_47 rfl (lv_at hl 2 rfl) ?_
      refine lv_imul hx hb d_Mo_load_48 ?_
      refine lv_icmp_ge (tgt := 74) hx hb d_Mo_load_49 (by decide) (fun c_25 => ?_) (fun c_25 => ?_)
      · rw [if_pos c_25] at h
        refine lv_aload_n hx hb d_Mo_load_74 rfl (lv_at hl 0 rfl) ?_
        refine lv_aload_n hx hb d_Mo_load_75 rfl (lv_at hl 0 rfl) ?_
        refine va_get (D := (dC, dI)) (ci := 7) (v := .ref q_o_fresh) (C := R_Mo) (T := T_Mo) (N := 18) hx hb hts (iw_Mo _) hown hK hP 0 rfl rfl 3 (by decide) (hts (.fieldLink R_Mo 16 "ShaderMachineModel" "fresh" "[I") (List.mem_cons_of_mem _ tw_731)) (fun _ h9 => h9) rfl d_Mo_load_76 ?_
        refine lv_iload_n hx hb d_Mo_load_79 rfl (lv_at hl 2 rfl) ?_
        refine lv_iload_n hx hb d_Mo_load_80 rfl (lv_at hl 3 rfl) ?_
        obtain ⟨⟨r_27, w_28, w_29⟩, h_26, h⟩ := ch_bind h
        try dsimp only at h
        refine ck_goi (wc := [(q_o_fresh, .inl (cI, n_o_fresh, .inl g_f_o_fresh)), (q_o, .inr (7, [.int g_o_thrown, .ref q_o_memory, .ref q_o_program, .ref q_o_fresh, .int g_o_hasProgram, .int g_o_fault, .int g_o_place, .int o_told, .ref q_o_temporaries, .ref q_o_ins, .ref q_o_outs, .ref q_o_uniforms, .ref q_o_textures, .ref q_o_read, .ref q_o_result, .int o_killed, .ref q_o_left, .ref q_o_opening]))]) (wr := [(q_o_memory, .inl (cI, n_o_memory, .inl f_o_memory)), (q_o_program, .inl (cI, n_o_program, .inl g_f_o_program)), (q_o_opening, .inl (cI, n_o_opening, .inl g_f_o_opening))]) (w1 := [(q_o_fresh, .inl (cI, n_o_fresh, .inl g_f_o_fresh)), (q_o, .inr (7, [.int g_o_thrown, .ref q_o_memory, .ref q_o_program, .ref q_o_fresh, .int g_o_hasProgram, .int w_28, .int w_29, .int o_told, .ref q_o_temporaries, .ref q_o_ins, .ref q_o_outs, .ref q_o_uniforms, .ref q_o_textures, .ref q_o_read, .ref q_o_result, .int o_killed, .ref q_o_left, .ref q_o_opening]))]) (va_runV (As := [.ref q_o_fresh, .int x2, .int x3]) (rest := []) ⟨hx, hb, hml, hown, hts⟩ (k_Mo_check l dC dI cI cJ fu x2 x3 n_o_fresh g_f_o_fresh g_o_thrown g_o_hasProgram g_o_fault g_o_place o_told o_killed q_o q_o_fresh q_o_memory q_o_program q_o_fresh q_o_temporaries q_o_ins q_o_outs q_o_uniforms q_o_textures q_o_read q_o_result q_o_left q_o_opening r_27 w_28 w_29 h_26 _) (cwV 3 hts (gw_V tw_799 tw_801 sw_400 tw_9 tw_802) rfl rfl rfl (by decide +kernel) ⟨Nat.le_of_ble_eq_true rfl, Nat.le_of_ble_eq_true rfl⟩) (ck_preV (wc := [(q_o_fresh, .inl (cI, n_o_fresh, .inl g_f_o_fresh)), (q_o, .inr (7, [.int g_o_thrown, .ref q_o_memory, .ref q_o_program, .ref q_o_fresh, .int g_o_hasProgram, .int g_o_fault, .int g_o_place, .int o_told, .ref q_o_temporaries, .ref q_o_ins, .ref q_o_outs, .ref q_o_uniforms, .ref q_o_textures, .ref q_o_read, .ref q_o_result, .int o_killed, .ref q_o_left, .ref q_o_opening]))]) hK hP hD hS hA hE 0 rfl rfl rfl [1, 0] (by decide) rfl) rfl rfl hl.1 rfl (lv_room (Nat.le_of_ble_eq_true rfl)) d_Mo_load_81 ⟨Nat.le_of_ble_eq_true rfl, Nat.le_of_ble_eq_true rfl⟩) hP hD hS hA [1, 0] [2, 3, 4] rfl rfl (by decide) (by decide) (fun H locs hP hD hS => ?_)
        have hP : va_P (dC, dI) vwCl [(q_o, .inr (7, [.int g_o_thrown, .ref q_o_memory, .ref q_o_program, .ref q_o_fresh, .int g_o_hasProgram, .int w_28, .int w_29, .int o_told, .ref q_o_temporaries, .ref q_o_ins, .ref q_o_outs, .ref q_o_uniforms, .ref q_o_textures, .ref q_o_read, .ref q_o_result, .int o_killed, .ref q_o_left, .ref q_o_opening])), (q_o_fresh, .inl (cI, n_o_fresh, .inl g_f_o_fresh)), (q_o_memory, .inl (cI, n_o_memory, .inl f_o_memory)), (q_o_program, .inl (cI, n_o_program, .inl g_f_o_program)), (q_o_opening, .inl (cI, n_o_opening, .inl g_f_o_opening))] H := hP.sub [4, 3, 0, 1, 2] rfl
        have hD : va_D A [(q_o, .inr (7, [.int g_o_thrown, .ref q_o_memory, .ref q_o_program, .ref q_o_fresh, .int g_o_hasProgram, .int w_28, .int w_29, .int o_told, .ref q_o_temporaries, .ref q_o_ins, .ref q_o_outs, .ref q_o_uniforms, .ref q_o_textures, .ref q_o_read, .ref q_o_result, .int o_killed, .ref q_o_left, .ref q_o_opening])), (q_o_fresh, .inl (cI, n_o_fresh, .inl g_f_o_fresh)), (q_o_memory, .inl (cI, n_o_memory, .inl f_o_memory)), (q_o_program, .inl (cI, n_o_program, .inl g_f_o_program)), (q_o_opening, .inl (cI, n_o_opening, .inl g_f_o_opening))] := hD.sub [4, 3, 0, 1, 2] (by decide) rfl
        refine lv_if_le (tgt := 94) hx hb d_Mo_load_84 (by decide) (fun c_30 => ?_) (fun c_30 => ?_)
        · rw [if_pos c_30] at h
          refine lv_iconst (v := 0) hx hb d_Mo_load_94 (by decide) ?_
          refine lv_istore (lv' := [(4, .int (0 : Int32)), (0, .ref q_o), (1, .int x1), (2, .int x2), (3, .int x3)]) hx hb d_Mo_load_95 hl (by decide) rfl (fun ls hl => ?_)
          exact w_97 fu x2 (0 : Int32) g_o_thrown g_o_hasProgram w_28 w_29 g_f_o_fresh g_f_o_program g_f_o_opening h _ _ hP hD hS _ (lv_sub hl [1, 3, 0] rfl)
        · rw [if_neg c_30] at h
          refine lv_aload_n hx hb d_Mo_load_87 rfl (lv_at hl 0 rfl) ?_
          refine lv_iconst (v := 2) hx hb d_Mo_load_88 (by decide) ?_
          refine va_put (D := (dC, dI)) (ci := 7) (v := .int (2 : Int32)) (ty := .int) (C := R_Mo) (T := T_Mo) (N := 18) hx hb hts (iw_Mo _) ty_Mo tk_Mo nd_Mo hown hK hP hD hS 0 rfl rfl 0 (by decide) (hts (.fieldLink R_Mo 50 "ShaderMachineModel" "thrown" "I") (List.mem_cons_of_mem _ tw_728)) (fun _ h9 => h9) rfl (by decide +kernel) rfl rfl (Nat.le_of_ble_eq_true rfl) d_Mo_load_89 (fun H locs hP hD hS => ?_)
          have hP : va_P (dC, dI) vwCl [(q_o, .inr (7, [.int (2 : Int32), .ref q_o_memory, .ref q_o_program, .ref q_o_fresh, .int g_o_hasProgram, .int w_28, .int w_29, .int o_told, .ref q_o_temporaries, .ref q_o_ins, .ref q_o_outs, .ref q_o_uniforms, .ref q_o_textures, .ref q_o_read, .ref q_o_result, .int o_killed, .ref q_o_left, .ref q_o_opening])), (q_o_fresh, .inl (cI, n_o_fresh, .inl g_f_o_fresh)), (q_o_memory, .inl (cI, n_o_memory, .inl f_o_memory)), (q_o_program, .inl (cI, n_o_program, .inl g_f_o_program)), (q_o_opening, .inl (cI, n_o_opening, .inl g_f_o_opening))] H := hP
          have hD : va_D A [(q_o, .inr (7, [.int (2 : Int32), .ref q_o_memory, .ref q_o_program, .ref q_o_fresh, .int g_o_hasProgram, .int w_28, .int w_29, .int o_told, .ref q_o_temporaries, .ref q_o_ins, .ref q_o_outs, .ref q_o_uniforms, .ref q_o_textures, .ref q_o_read, .ref q_o_result, .int o_killed, .ref q_o_left, .ref q_o_opening])), (q_o_fresh, .inl (cI, n_o_fresh, .inl g_f_o_fresh)), (q_o_memory, .inl (cI, n_o_memory, .inl f_o_memory)), (q_o_program, .inl (cI, n_o_program, .inl g_f_o_program)), (q_o_opening, .inl (cI, n_o_opening, .inl g_f_o_opening))] := hD
          refine lv_iconst (v := 0) hx hb d_Mo_load_92 (by decide) ?_
          cases h
          exact ck_iret hx hb hr hlk hK hP hD hS d_Mo_load_93
      · rw [if_neg c_25] at h
        refine lv_aload_n hx hb d_Mo_load_52 rfl (lv_at hl 0 rfl) ?_
        refine va_get (D := (dC, dI)) (ci := 7) (v := .ref q_o_fresh) (C := R_Mo) (T := T_Mo) (N := 18) hx hb hts (iw_Mo _) hown hK hP 0 rfl rfl 3 (by decide) (hts (.fieldLink R_Mo 16 "ShaderMachineModel" "fresh" "[I") (List.mem_cons_of_mem _ tw_731)) (fun _ h9 => h9) rfl d_Mo_load_53 ?_
        refine lv_iload hx hb d_Mo_load_56 (lv_at hl 4 rfl) ?_
        refine lv_aload_n hx hb d_Mo_load_58 rfl (lv_at hl 0 rfl) ?_
        refine va_get (D := (dC, dI)) (ci := 7) (v := .ref q_o_memory) (C := R_Mo) (T := T_Mo) (N := 18) hx hb hts (iw_Mo _) hown hK hP 0 rfl rfl 1 (by decide) (hts (.fieldLink R_Mo 7 "ShaderMachineModel" "memory" "[I") (List.mem_cons_of_mem _ tw_729)) (fun _ h9 => h9) rfl d_Mo_load_59 ?_
        refine lv_iload_n hx hb d_Mo_load_62 rfl (lv_at hl 1 rfl) ?_
        refine lv_iload hx hb d_Mo_load_63 (lv_at hl 4 rfl) ?_
        refine lv_iadd hx hb d_Mo_load_65 ?_
        obtain ⟨c_31, h⟩ := ch_ite h
        refine va_iald hx hb hK hP 2 0 rfl rfl (ch_in c_31) d_Mo_load_66 ?_
        obtain ⟨c_32, h⟩ := ch_ite h
        refine va_iast hx hb hK hP hD hS 1 0 rfl rfl (ch_in c_32) d_Mo_load_67 (fun H locs hP hD hS => ?_)
        have hP : va_P (dC, dI) vwCl [(q_o, .inr (7, [.int g_o_thrown, .ref q_o_memory, .ref q_o_program, .ref q_o_fresh, .int g_o_hasProgram, .int g_o_fault, .int g_o_place, .int o_told, .ref q_o_temporaries, .ref q_o_ins, .ref q_o_outs, .ref q_o_uniforms, .ref q_o_textures, .ref q_o_read, .ref q_o_result, .int o_killed, .ref q_o_left, .ref q_o_opening])), (q_o_fresh, .inl (cI, n_o_fresh, .inl (upd g_f_o_fresh x4.toNatClampNeg (f_o_memory (x1 + x4).toNatClampNeg)))), (q_o_memory, .inl (cI, n_o_memory, .inl f_o_memory)), (q_o_program, .inl (cI, n_o_program, .inl g_f_o_program)), (q_o_opening, .inl (cI, n_o_opening, .inl g_f_o_opening))] H := hP
        have hD : va_D A [(q_o, .inr (7, [.int g_o_thrown, .ref q_o_memory, .ref q_o_program, .ref q_o_fresh, .int g_o_hasProgram, .int g_o_fault, .int g_o_place, .int o_told, .ref q_o_temporaries, .ref q_o_ins, .ref q_o_outs, .ref q_o_uniforms, .ref q_o_textures, .ref q_o_read, .ref q_o_result, .int o_killed, .ref q_o_left, .ref q_o_opening])), (q_o_fresh, .inl (cI, n_o_fresh, .inl (upd g_f_o_fresh x4.toNatClampNeg (f_o_memory (x1 + x4).toNatClampNeg)))), (q_o_memory, .inl (cI, n_o_memory, .inl f_o_memory)), (q_o_program, .inl (cI, n_o_program, .inl g_f_o_program)), (q_o_opening, .inl (cI, n_o_opening, .inl g_f_o_opening))] := hD
        refine lv_iinc (v := (x4 + 1)) (lv' := [(4, .int (x4 + 1)), (0, .ref q_o), (1, .int x1), (2, .int x2), (3, .int x3)]) hx hb d_Mo_load_68 hl (k := 4) rfl (by rfl) (by decide) rfl (fun ls hl => ?_)
        refine lv_goto (tgt := 44) hx hb d_Mo_load_71 (by decide) ?_
        exact ih_44 x1 x2 x3 (x4 + 1) g_o_thrown g_o_hasProgram g_o_fault g_o_place (upd g_f_o_fresh x4.toNatClampNeg (f_o_memory (x1 + x4).toNatClampNeg)) g_f_o_program g_f_o_opening h _ _ hP hD hS _ (lv_sub hl [1, 2, 3, 4, 0] rfl)
  unfold pf_Mo_load at h
  have hl := lv_entry ([.ref q_o, .int p1, .int p2, .int p3]) (n := 5) (Nat.le_of_ble_eq_true rfl)
  rw [lg_entry_eq]
  generalize (lg_sl ([.ref q_o, .int p1, .int p2, .int p3]) ++ List.replicate (5 - (lg_sl ([.ref q_o, .int p1, .int p2, .int p3])).length) Slot.unset).toArray = ls at hl ⊢
  have hl : lv_has ls 5 [(0, .ref q_o), (1, .int p1), (2, .int p2), (3, .int p3)] := hl
  refine lv_aload_n hx hb d_Mo_load_0 rfl (lv_at hl 0 rfl) ?_
  refine lv_iload_n hx hb d_Mo_load_1 rfl (lv_at hl 2 rfl) ?_
  refine lv_iconst (v := 1) hx hb d_Mo_load_2 (by decide) ?_
  refine lv_icmp_lt (tgt := 28) hx hb d_Mo_load_3 (by decide) (fun c_1 => ?_) (fun c_1 => ?_)
  · rw [if_pos c_1] at h
    refine lv_iconst (v := 1) hx hb d_Mo_load_28 (by decide) ?_
    refine lv_goto (tgt := 33) hx hb d_Mo_load_29 (by decide) ?_
    obtain ⟨⟨r_3, w_4⟩, h_2, h⟩ := ch_bind h
    try dsimp only at h
    refine ck_goi (wc := [(q_o, .inr (7, [.int o_thrown, .ref q_o_memory, .ref q_o_program, .ref q_o_fresh, .int o_hasProgram, .int o_fault, .int o_place, .int o_told, .ref q_o_temporaries, .ref q_o_ins, .ref q_o_outs, .ref q_o_uniforms, .ref q_o_textures, .ref q_o_read, .ref q_o_result, .int o_killed, .ref q_o_left, .ref q_o_opening]))]) (wr := [(q_o_fresh, .inl (cI, n_o_fresh, .inl f_o_fresh)), (q_o_memory, .inl (cI, n_o_memory, .inl f_o_memory)), (q_o_program, .inl (cI, n_o_program, .inl f_o_program)), (q_o_opening, .inl (cI, n_o_opening, .inl f_o_opening))]) (w1 := [(q_o, .inr (7, [.int w_4, .ref q_o_memory, .ref q_o_program, .ref q_o_fresh, .int o_hasProgram, .int o_fault, .int o_place, .int o_told, .ref q_o_temporaries, .ref q_o_ins, .ref q_o_outs, .ref q_o_uniforms, .ref q_o_textures, .ref q_o_read, .ref q_o_result, .int o_killed, .ref q_o_left, .ref q_o_opening]))]) (va_runV (As := [.int (1 : Int32)]) (rest := []) ⟨hx, hb, hml, hown, hts⟩ (k_Mo_refuse l dC dI cI cJ (1 : Int32) o_thrown o_hasProgram o_fault o_place o_told o_killed q_o q_o_memory q_o_program q_o_fresh q_o_temporaries q_o_ins q_o_outs q_o_uniforms q_o_textures q_o_read q_o_result q_o_left q_o_opening r_3 w_4 h_2 _) (cwV 1 hts (gw_V tw_791 tw_793 sw_394 tw_9 tw_794) rfl rfl rfl (by decide +kernel) ⟨Nat.le_of_ble_eq_true rfl, Nat.le_of_ble_eq_true rfl⟩) (ck_preV (wc := [(q_o, .inr (7, [.int o_thrown, .ref q_o_memory, .ref q_o_program, .ref q_o_fresh, .int o_hasProgram, .int o_fault, .int o_place, .int o_told, .ref q_o_temporaries, .ref q_o_ins, .ref q_o_outs, .ref q_o_uniforms, .ref q_o_textures, .ref q_o_read, .ref q_o_result, .int o_killed, .ref q_o_left, .ref q_o_opening]))]) hK hP hD hS hA hE 0 rfl rfl rfl [0] (by decide) rfl) rfl rfl hl.1 rfl (lv_room (Nat.le_of_ble_eq_true rfl)) d_Mo_load_33 ⟨Nat.le_of_ble_eq_true rfl, Nat.le_of_ble_eq_true rfl⟩) hP hD hS hA [0] [1, 2, 3, 4] rfl rfl (by decide) (by decide) (fun H locs hP hD hS => ?_)
    have hP : va_P (dC, dI) vwCl [(q_o, .inr (7, [.int w_4, .ref q_o_memory, .ref q_o_program, .ref q_o_fresh, .int o_hasProgram, .int o_fault, .int o_place, .int o_told, .ref q_o_temporaries, .ref q_o_ins, .ref q_o_outs, .ref q_o_uniforms, .ref q_o_textures, .ref q_o_read, .ref q_o_result, .int o_killed, .ref q_o_left, .ref q_o_opening])), (q_o_fresh, .inl (cI, n_o_fresh, .inl f_o_fresh)), (q_o_memory, .inl (cI, n_o_memory, .inl f_o_memory)), (q_o_program, .inl (cI, n_o_program, .inl f_o_program)), (q_o_opening, .inl (cI, n_o_opening, .inl f_o_opening))] H := hP.sub [4, 0, 1, 2, 3] rfl
    have hD : va_D A [(q_o, .inr (7, [.int w_4, .ref q_o_memory, .ref q_o_program, .ref q_o_fresh, .int o_hasProgram, .int o_fault, .int o_place, .int o_told, .ref q_o_temporaries, .ref q_o_ins, .ref q_o_outs, .ref q_o_uniforms, .ref q_o_textures, .ref q_o_read, .ref q_o_result, .int o_killed, .ref q_o_left, .ref q_o_opening])), (q_o_fresh, .inl (cI, n_o_fresh, .inl f_o_fresh)), (q_o_memory, .inl (cI, n_o_memory, .inl f_o_memory)), (q_o_program, .inl (cI, n_o_program, .inl f_o_program)), (q_o_opening, .inl (cI, n_o_opening, .inl f_o_opening))] := hD.sub [4, 0, 1, 2, 3] (by decide) rfl
    refine lv_if_eq (tgt := 41) hx hb d_Mo_load_36 (by decide) (fun c_5 => ?_) (fun c_5 => ?_)
    · rw [if_pos c_5] at h
      refine lv_iconst (v := 0) hx hb d_Mo_load_41 (by decide) ?_
      refine lv_istore (lv' := [(4, .int (0 : Int32)), (0, .ref q_o), (1, .int p1), (2, .int p2), (3, .int p3)]) hx hb d_Mo_load_42 hl (by decide) rfl (fun ls hl => ?_)
      exact w_44 fu p1 p2 p3 (0 : Int32) w_4 o_hasProgram o_fault o_place f_o_fresh f_o_program f_o_opening h _ _ hP hD hS _ (lv_sub hl [1, 2, 3, 4, 0] rfl)
    · rw [if_neg c_5] at h
      refine lv_iconst (v := 0) hx hb d_Mo_load_39 (by decide) ?_
      cases h
      exact ck_iret hx hb hr hlk hK hP hD hS d_Mo_load_40
  · rw [if_neg c_1] at h
    refine lv_iload_n hx hb d_Mo_load_6 rfl (lv_at hl 2 rfl) ?_
    refine lv_sipush (v := 256) hx hb d_Mo_load_7 (by decide) ?_
    refine lv_icmp_gt (tgt := 28) hx hb d_Mo_load_10 (by decide) (fun c_6 => ?_) (fun c_6 => ?_)
    · rw [if_pos c_6] at h
      refine lv_iconst (v := 1) hx hb d_Mo_load_28 (by decide) ?_
      refine lv_goto (tgt := 33) hx hb d_Mo_load_29 (by decide) ?_
      obtain ⟨⟨r_8, w_9⟩, h_7, h⟩ := ch_bind h
      try dsimp only at h
      refine ck_goi (wc := [(q_o, .inr (7, [.int o_thrown, .ref q_o_memory, .ref q_o_program, .ref q_o_fresh, .int o_hasProgram, .int o_fault, .int o_place, .int o_told, .ref q_o_temporaries, .ref q_o_ins, .ref q_o_outs, .ref q_o_uniforms, .ref q_o_textures, .ref q_o_read, .ref q_o_result, .int o_killed, .ref q_o_left, .ref q_o_opening]))]) (wr := [(q_o_fresh, .inl (cI, n_o_fresh, .inl f_o_fresh)), (q_o_memory, .inl (cI, n_o_memory, .inl f_o_memory)), (q_o_program, .inl (cI, n_o_program, .inl f_o_program)), (q_o_opening, .inl (cI, n_o_opening, .inl f_o_opening))]) (w1 := [(q_o, .inr (7, [.int w_9, .ref q_o_memory, .ref q_o_program, .ref q_o_fresh, .int o_hasProgram, .int o_fault, .int o_place, .int o_told, .ref q_o_temporaries, .ref q_o_ins, .ref q_o_outs, .ref q_o_uniforms, .ref q_o_textures, .ref q_o_read, .ref q_o_result, .int o_killed, .ref q_o_left, .ref q_o_opening]))]) (va_runV (As := [.int (1 : Int32)]) (rest := []) ⟨hx, hb, hml, hown, hts⟩ (k_Mo_refuse l dC dI cI cJ (1 : Int32) o_thrown o_hasProgram o_fault o_place o_told o_killed q_o q_o_memory q_o_program q_o_fresh q_o_temporaries q_o_ins q_o_outs q_o_uniforms q_o_textures q_o_read q_o_result q_o_left q_o_opening r_8 w_9 h_7 _) (cwV 1 hts (gw_V tw_791 tw_793 sw_394 tw_9 tw_794) rfl rfl rfl (by decide +kernel) ⟨Nat.le_of_ble_eq_true rfl, Nat.le_of_ble_eq_true rfl⟩) (ck_preV (wc := [(q_o, .inr (7, [.int o_thrown, .ref q_o_memory, .ref q_o_program, .ref q_o_fresh, .int o_hasProgram, .int o_fault, .int o_place, .int o_told, .ref q_o_temporaries, .ref q_o_ins, .ref q_o_outs, .ref q_o_uniforms, .ref q_o_textures, .ref q_o_read, .ref q_o_result, .int o_killed, .ref q_o_left, .ref q_o_opening]))]) hK hP hD hS hA hE 0 rfl rfl rfl [0] (by decide) rfl) rfl rfl hl.1 rfl (lv_room (Nat.le_of_ble_eq_true rfl)) d_Mo_load_33 ⟨Nat.le_of_ble_eq_true rfl, Nat.le_of_ble_eq_true rfl⟩) hP hD hS hA [0] [1, 2, 3, 4] rfl rfl (by decide) (by decide) (fun H locs hP hD hS => ?_)
      have hP : va_P (dC, dI) vwCl [(q_o, .inr (7, [.int w_9, .ref q_o_memory, .ref q_o_program, .ref q_o_fresh, .int o_hasProgram, .int o_fault, .int o_place, .int o_told, .ref q_o_temporaries, .ref q_o_ins, .ref q_o_outs, .ref q_o_uniforms, .ref q_o_textures, .ref q_o_read, .ref q_o_result, .int o_killed, .ref q_o_left, .ref q_o_opening])), (q_o_fresh, .inl (cI, n_o_fresh, .inl f_o_fresh)), (q_o_memory, .inl (cI, n_o_memory, .inl f_o_memory)), (q_o_program, .inl (cI, n_o_program, .inl f_o_program)), (q_o_opening, .inl (cI, n_o_opening, .inl f_o_opening))] H := hP.sub [4, 0, 1, 2, 3] rfl
      have hD : va_D A [(q_o, .inr (7, [.int w_9, .ref q_o_memory, .ref q_o_program, .ref q_o_fresh, .int o_hasProgram, .int o_fault, .int o_place, .int o_told, .ref q_o_temporaries, .ref q_o_ins, .ref q_o_outs, .ref q_o_uniforms, .ref q_o_textures, .ref q_o_read, .ref q_o_result, .int o_killed, .ref q_o_left, .ref q_o_opening])), (q_o_fresh, .inl (cI, n_o_fresh, .inl f_o_fresh)), (q_o_memory, .inl (cI, n_o_memory, .inl f_o_memory)), (q_o_program, .inl (cI, n_o_program, .inl f_o_program)), (q_o_opening, .inl (cI, n_o_opening, .inl f_o_opening))] := hD.sub [4, 0, 1, 2, 3] (by decide) rfl
      refine lv_if_eq (tgt := 41) hx hb d_Mo_load_36 (by decide) (fun c_10 => ?_) (fun c_10 => ?_)
      · rw [if_pos c_10] at h
        refine lv_iconst (v := 0) hx hb d_Mo_load_41 (by decide) ?_
        refine lv_istore (lv' := [(4, .int (0 : Int32)), (0, .ref q_o), (1, .int p1), (2, .int p2), (3, .int p3)]) hx hb d_Mo_load_42 hl (by decide) rfl (fun ls hl => ?_)
        exact w_44 fu p1 p2 p3 (0 : Int32) w_9 o_hasProgram o_fault o_place f_o_fresh f_o_program f_o_opening h _ _ hP hD hS _ (lv_sub hl [1, 2, 3, 4, 0] rfl)
      · rw [if_neg c_10] at h
        refine lv_iconst (v := 0) hx hb d_Mo_load_39 (by decide) ?_
        cases h
        exact ck_iret hx hb hr hlk hK hP hD hS d_Mo_load_40
    · rw [if_neg c_6] at h
      refine lv_iload_n hx hb d_Mo_load_13 rfl (lv_at hl 1 rfl) ?_
      refine lv_if_lt (tgt := 28) hx hb d_Mo_load_14 (by decide) (fun c_11 => ?_) (fun c_11 => ?_)
      · rw [if_pos c_11] at h
        refine lv_iconst (v := 1) hx hb d_Mo_load_28 (by decide) ?_
        refine lv_goto (tgt := 33) hx hb d_Mo_load_29 (by decide) ?_
        obtain ⟨⟨r_13, w_14⟩, h_12, h⟩ := ch_bind h
        try dsimp only at h
        refine ck_goi (wc := [(q_o, .inr (7, [.int o_thrown, .ref q_o_memory, .ref q_o_program, .ref q_o_fresh, .int o_hasProgram, .int o_fault, .int o_place, .int o_told, .ref q_o_temporaries, .ref q_o_ins, .ref q_o_outs, .ref q_o_uniforms, .ref q_o_textures, .ref q_o_read, .ref q_o_result, .int o_killed, .ref q_o_left, .ref q_o_opening]))]) (wr := [(q_o_fresh, .inl (cI, n_o_fresh, .inl f_o_fresh)), (q_o_memory, .inl (cI, n_o_memory, .inl f_o_memory)), (q_o_program, .inl (cI, n_o_program, .inl f_o_program)), (q_o_opening, .inl (cI, n_o_opening, .inl f_o_opening))]) (w1 := [(q_o, .inr (7, [.int w_14, .ref q_o_memory, .ref q_o_program, .ref q_o_fresh, .int o_hasProgram, .int o_fault, .int o_place, .int o_told, .ref q_o_temporaries, .ref q_o_ins, .ref q_o_outs, .ref q_o_uniforms, .ref q_o_textures, .ref q_o_read, .ref q_o_result, .int o_killed, .ref q_o_left, .ref q_o_opening]))]) (va_runV (As := [.int (1 : Int32)]) (rest := []) ⟨hx, hb, hml, hown, hts⟩ (k_Mo_refuse l dC dI cI cJ (1 : Int32) o_thrown o_hasProgram o_fault o_place o_told o_killed q_o q_o_memory q_o_program q_o_fresh q_o_temporaries q_o_ins q_o_outs q_o_uniforms q_o_textures q_o_read q_o_result q_o_left q_o_opening r_13 w_14 h_12 _) (cwV 1 hts (gw_V tw_791 tw_793 sw_394 tw_9 tw_794) rfl rfl rfl (by decide +kernel) ⟨Nat.le_of_ble_eq_true rfl, Nat.le_of_ble_eq_true rfl⟩) (ck_preV (wc := [(q_o, .inr (7, [.int o_thrown, .ref q_o_memory, .ref q_o_program, .ref q_o_fresh, .int o_hasProgram, .int o_fault, .int o_place, .int o_told, .ref q_o_temporaries, .ref q_o_ins, .ref q_o_outs, .ref q_o_uniforms, .ref q_o_textures, .ref q_o_read, .ref q_o_result, .int o_killed, .ref q_o_left, .ref q_o_opening]))]) hK hP hD hS hA hE 0 rfl rfl rfl [0] (by decide) rfl) rfl rfl hl.1 rfl (lv_room (Nat.le_of_ble_eq_true rfl)) d_Mo_load_33 ⟨Nat.le_of_ble_eq_true rfl, Nat.le_of_ble_eq_true rfl⟩) hP hD hS hA [0] [1, 2, 3, 4] rfl rfl (by decide) (by decide) (fun H locs hP hD hS => ?_)
        have hP : va_P (dC, dI) vwCl [(q_o, .inr (7, [.int w_14, .ref q_o_memory, .ref q_o_program, .ref q_o_fresh, .int o_hasProgram, .int o_fault, .int o_place, .int o_told, .ref q_o_temporaries, .ref q_o_ins, .ref q_o_outs, .ref q_o_uniforms, .ref q_o_textures, .ref q_o_read, .ref q_o_result, .int o_killed, .ref q_o_left, .ref q_o_opening])), (q_o_fresh, .inl (cI, n_o_fresh, .inl f_o_fresh)), (q_o_memory, .inl (cI, n_o_memory, .inl f_o_memory)), (q_o_program, .inl (cI, n_o_program, .inl f_o_program)), (q_o_opening, .inl (cI, n_o_opening, .inl f_o_opening))] H := hP.sub [4, 0, 1, 2, 3] rfl
        have hD : va_D A [(q_o, .inr (7, [.int w_14, .ref q_o_memory, .ref q_o_program, .ref q_o_fresh, .int o_hasProgram, .int o_fault, .int o_place, .int o_told, .ref q_o_temporaries, .ref q_o_ins, .ref q_o_outs, .ref q_o_uniforms, .ref q_o_textures, .ref q_o_read, .ref q_o_result, .int o_killed, .ref q_o_left, .ref q_o_opening])), (q_o_fresh, .inl (cI, n_o_fresh, .inl f_o_fresh)), (q_o_memory, .inl (cI, n_o_memory, .inl f_o_memory)), (q_o_program, .inl (cI, n_o_program, .inl f_o_program)), (q_o_opening, .inl (cI, n_o_opening, .inl f_o_opening))] := hD.sub [4, 0, 1, 2, 3] (by decide) rfl
        refine lv_if_eq (tgt := 41) hx hb d_Mo_load_36 (by decide) (fun c_15 => ?_) (fun c_15 => ?_)
        · rw [if_pos c_15] at h
          refine lv_iconst (v := 0) hx hb d_Mo_load_41 (by decide) ?_
          refine lv_istore (lv' := [(4, .int (0 : Int32)), (0, .ref q_o), (1, .int p1), (2, .int p2), (3, .int p3)]) hx hb d_Mo_load_42 hl (by decide) rfl (fun ls hl => ?_)
          exact w_44 fu p1 p2 p3 (0 : Int32) w_14 o_hasProgram o_fault o_place f_o_fresh f_o_program f_o_opening h _ _ hP hD hS _ (lv_sub hl [1, 2, 3, 4, 0] rfl)
        · rw [if_neg c_15] at h
          refine lv_iconst (v := 0) hx hb d_Mo_load_39 (by decide) ?_
          cases h
          exact ck_iret hx hb hr hlk hK hP hD hS d_Mo_load_40
      · rw [if_neg c_11] at h
        refine lv_iload_n hx hb d_Mo_load_17 rfl (lv_at hl 1 rfl) ?_
        refine lv_sipush (v := 1024) hx hb d_Mo_load_18 (by decide) ?_
        refine lv_iconst (v := 3) hx hb d_Mo_load_21 (by decide) ?_
        refine lv_iload_n hx hb d_Mo_load_22 rfl (lv_at hl 2 rfl) ?_
        refine lv_imul hx hb d_Mo_load_23 ?_
        refine lv_isub hx hb d_Mo_load_24 ?_
        refine lv_icmp_le (tgt := 32) hx hb d_Mo_load_25 (by decide) (fun c_16 => ?_) (fun c_16 => ?_)
        · rw [if_pos c_16] at h
          refine lv_iconst (v := 0) hx hb d_Mo_load_32 (by decide) ?_
          obtain ⟨⟨r_18, w_19⟩, h_17, h⟩ := ch_bind h
          try dsimp only at h
          refine ck_goi (wc := [(q_o, .inr (7, [.int o_thrown, .ref q_o_memory, .ref q_o_program, .ref q_o_fresh, .int o_hasProgram, .int o_fault, .int o_place, .int o_told, .ref q_o_temporaries, .ref q_o_ins, .ref q_o_outs, .ref q_o_uniforms, .ref q_o_textures, .ref q_o_read, .ref q_o_result, .int o_killed, .ref q_o_left, .ref q_o_opening]))]) (wr := [(q_o_fresh, .inl (cI, n_o_fresh, .inl f_o_fresh)), (q_o_memory, .inl (cI, n_o_memory, .inl f_o_memory)), (q_o_program, .inl (cI, n_o_program, .inl f_o_program)), (q_o_opening, .inl (cI, n_o_opening, .inl f_o_opening))]) (w1 := [(q_o, .inr (7, [.int w_19, .ref q_o_memory, .ref q_o_program, .ref q_o_fresh, .int o_hasProgram, .int o_fault, .int o_place, .int o_told, .ref q_o_temporaries, .ref q_o_ins, .ref q_o_outs, .ref q_o_uniforms, .ref q_o_textures, .ref q_o_read, .ref q_o_result, .int o_killed, .ref q_o_left, .ref q_o_opening]))]) (va_runV (As := [.int (0 : Int32)]) (rest := []) ⟨hx, hb, hml, hown, hts⟩ (k_Mo_refuse l dC dI cI cJ (0 : Int32) o_thrown o_hasProgram o_fault o_place o_told o_killed q_o q_o_memory q_o_program q_o_fresh q_o_temporaries q_o_ins q_o_outs q_o_uniforms q_o_textures q_o_read q_o_result q_o_left q_o_opening r_18 w_19 h_17 _) (cwV 1 hts (gw_V tw_791 tw_793 sw_394 tw_9 tw_794) rfl rfl rfl (by decide +kernel) ⟨Nat.le_of_ble_eq_true rfl, Nat.le_of_ble_eq_true rfl⟩) (ck_preV (wc := [(q_o, .inr (7, [.int o_thrown, .ref q_o_memory, .ref q_o_program, .ref q_o_fresh, .int o_hasProgram, .int o_fault, .int o_place, .int o_told, .ref q_o_temporaries, .ref q_o_ins, .ref q_o_outs, .ref q_o_uniforms, .ref q_o_textures, .ref q_o_read, .ref q_o_result, .int o_killed, .ref q_o_left, .ref q_o_opening]))]) hK hP hD hS hA hE 0 rfl rfl rfl [0] (by decide) rfl) rfl rfl hl.1 rfl (lv_room (Nat.le_of_ble_eq_true rfl)) d_Mo_load_33 ⟨Nat.le_of_ble_eq_true rfl, Nat.le_of_ble_eq_true rfl⟩) hP hD hS hA [0] [1, 2, 3, 4] rfl rfl (by decide) (by decide) (fun H locs hP hD hS => ?_)
          have hP : va_P (dC, dI) vwCl [(q_o, .inr (7, [.int w_19, .ref q_o_memory, .ref q_o_program, .ref q_o_fresh, .int o_hasProgram, .int o_fault, .int o_place, .int o_told, .ref q_o_temporaries, .ref q_o_ins, .ref q_o_outs, .ref q_o_uniforms, .ref q_o_textures, .ref q_o_read, .ref q_o_result, .int o_killed, .ref q_o_left, .ref q_o_opening])), (q_o_fresh, .inl (cI, n_o_fresh, .inl f_o_fresh)), (q_o_memory, .inl (cI, n_o_memory, .inl f_o_memory)), (q_o_program, .inl (cI, n_o_program, .inl f_o_program)), (q_o_opening, .inl (cI, n_o_opening, .inl f_o_opening))] H := hP.sub [4, 0, 1, 2, 3] rfl
          have hD : va_D A [(q_o, .inr (7, [.int w_19, .ref q_o_memory, .ref q_o_program, .ref q_o_fresh, .int o_hasProgram, .int o_fault, .int o_place, .int o_told, .ref q_o_temporaries, .ref q_o_ins, .ref q_o_outs, .ref q_o_uniforms, .ref q_o_textures, .ref q_o_read, .ref q_o_result, .int o_killed, .ref q_o_left, .ref q_o_opening])), (q_o_fresh, .inl (cI, n_o_fresh, .inl f_o_fresh)), (q_o_memory, .inl (cI, n_o_memory, .inl f_o_memory)), (q_o_program, .inl (cI, n_o_program, .inl f_o_program)), (q_o_opening, .inl (cI, n_o_opening, .inl f_o_opening))] := hD.sub [4, 0, 1, 2, 3] (by decide) rfl
          refine lv_if_eq (tgt := 41) hx hb d_Mo_load_36 (by decide) (fun c_20 => ?_) (fun c_20 => ?_)
          · rw [if_pos c_20] at h
            refine lv_iconst (v := 0) hx hb d_Mo_load_41 (by decide) ?_
            refine lv_istore (lv' := [(4, .int (0 : Int32)), (0, .ref q_o), (1, .int p1), (2, .int p2), (3, .int p3)]) hx hb d_Mo_load_42 hl (by decide) rfl (fun ls hl => ?_)
            exact w_44 fu p1 p2 p3 (0 : Int32) w_19 o_hasProgram o_fault o_place f_o_fresh f_o_program f_o_opening h _ _ hP hD hS _ (lv_sub hl [1, 2, 3, 4, 0] rfl)
          · rw [if_neg c_20] at h
            refine lv_iconst (v := 0) hx hb d_Mo_load_39 (by decide) ?_
            cases h
            exact ck_iret hx hb hr hlk hK hP hD hS d_Mo_load_40
        · rw [if_neg c_16] at h
          refine lv_iconst (v := 1) hx hb d_Mo_load_28 (by decide) ?_
          refine lv_goto (tgt := 33) hx hb d_Mo_load_29 (by decide) ?_
          obtain ⟨⟨r_22, w_23⟩, h_21, h⟩ := ch_bind h
          try dsimp only at h
          refine ck_goi (wc := [(q_o, .inr (7, [.int o_thrown, .ref q_o_memory, .ref q_o_program, .ref q_o_fresh, .int o_hasProgram, .int o_fault, .int o_place, .int o_told, .ref q_o_temporaries, .ref q_o_ins, .ref q_o_outs, .ref q_o_uniforms, .ref q_o_textures, .ref q_o_read, .ref q_o_result, .int o_killed, .ref q_o_left, .ref q_o_opening]))]) (wr := [(q_o_fresh, .inl (cI, n_o_fresh, .inl f_o_fresh)), (q_o_memory, .inl (cI, n_o_memory, .inl f_o_memory)), (q_o_program, .inl (cI, n_o_program, .inl f_o_program)), (q_o_opening, .inl (cI, n_o_opening, .inl f_o_opening))]) (w1 := [(q_o, .inr (7, [.int w_23, .ref q_o_memory, .ref q_o_program, .ref q_o_fresh, .int o_hasProgram, .int o_fault, .int o_place, .int o_told, .ref q_o_temporaries, .ref q_o_ins, .ref q_o_outs, .ref q_o_uniforms, .ref q_o_textures, .ref q_o_read, .ref q_o_result, .int o_killed, .ref q_o_left, .ref q_o_opening]))]) (va_runV (As := [.int (1 : Int32)]) (rest := []) ⟨hx, hb, hml, hown, hts⟩ (k_Mo_refuse l dC dI cI cJ (1 : Int32) o_thrown o_hasProgram o_fault o_place o_told o_killed q_o q_o_memory q_o_program q_o_fresh q_o_temporaries q_o_ins q_o_outs q_o_uniforms q_o_textures q_o_read q_o_result q_o_left q_o_opening r_22 w_23 h_21 _) (cwV 1 hts (gw_V tw_791 tw_793 sw_394 tw_9 tw_794) rfl rfl rfl (by decide +kernel) ⟨Nat.le_of_ble_eq_true rfl, Nat.le_of_ble_eq_true rfl⟩) (ck_preV (wc := [(q_o, .inr (7, [.int o_thrown, .ref q_o_memory, .ref q_o_program, .ref q_o_fresh, .int o_hasProgram, .int o_fault, .int o_place, .int o_told, .ref q_o_temporaries, .ref q_o_ins, .ref q_o_outs, .ref q_o_uniforms, .ref q_o_textures, .ref q_o_read, .ref q_o_result, .int o_killed, .ref q_o_left, .ref q_o_opening]))]) hK hP hD hS hA hE 0 rfl rfl rfl [0] (by decide) rfl) rfl rfl hl.1 rfl (lv_room (Nat.le_of_ble_eq_true rfl)) d_Mo_load_33 ⟨Nat.le_of_ble_eq_true rfl, Nat.le_of_ble_eq_true rfl⟩) hP hD hS hA [0] [1, 2, 3, 4] rfl rfl (by decide) (by decide) (fun H locs hP hD hS => ?_)
          have hP : va_P (dC, dI) vwCl [(q_o, .inr (7, [.int w_23, .ref q_o_memory, .ref q_o_program, .ref q_o_fresh, .int o_hasProgram, .int o_fault, .int o_place, .int o_told, .ref q_o_temporaries, .ref q_o_ins, .ref q_o_outs, .ref q_o_uniforms, .ref q_o_textures, .ref q_o_read, .ref q_o_result, .int o_killed, .ref q_o_left, .ref q_o_opening])), (q_o_fresh, .inl (cI, n_o_fresh, .inl f_o_fresh)), (q_o_memory, .inl (cI, n_o_memory, .inl f_o_memory)), (q_o_program, .inl (cI, n_o_program, .inl f_o_program)), (q_o_opening, .inl (cI, n_o_opening, .inl f_o_opening))] H := hP.sub [4, 0, 1, 2, 3] rfl
          have hD : va_D A [(q_o, .inr (7, [.int w_23, .ref q_o_memory, .ref q_o_program, .ref q_o_fresh, .int o_hasProgram, .int o_fault, .int o_place, .int o_told, .ref q_o_temporaries, .ref q_o_ins, .ref q_o_outs, .ref q_o_uniforms, .ref q_o_textures, .ref q_o_read, .ref q_o_result, .int o_killed, .ref q_o_left, .ref q_o_opening])), (q_o_fresh, .inl (cI, n_o_fresh, .inl f_o_fresh)), (q_o_memory, .inl (cI, n_o_memory, .inl f_o_memory)), (q_o_program, .inl (cI, n_o_program, .inl f_o_program)), (q_o_opening, .inl (cI, n_o_opening, .inl f_o_opening))] := hD.sub [4, 0, 1, 2, 3] (by decide) rfl
          refine lv_if_eq (tgt := 41) hx hb d_Mo_load_36 (by decide) (fun c_24 => ?_) (fun c_24 => ?_)
          · rw [if_pos c_24] at h
            refine lv_iconst (v := 0) hx hb d_Mo_load_41 (by decide) ?_
            refine lv_istore (lv' := [(4, .int (0 : Int32)), (0, .ref q_o), (1, .int p1), (2, .int p2), (3, .int p3)]) hx hb d_Mo_load_42 hl (by decide) rfl (fun ls hl => ?_)
            exact w_44 fu p1 p2 p3 (0 : Int32) w_23 o_hasProgram o_fault o_place f_o_fresh f_o_program f_o_opening h _ _ hP hD hS _ (lv_sub hl [1, 2, 3, 4, 0] rfl)
          · rw [if_neg c_24] at h
            refine lv_iconst (v := 0) hx hb d_Mo_load_39 (by decide) ?_
            cases h
            exact ck_iret hx hb hr hlk hK hP hD hS d_Mo_load_40
def pf_Mo_fault (p1 : Int32) (o_fault : Int32) (o_place : Int32) : Option (Int32 × Int32) :=
  if p1 = 0 then
    some (o_fault, (0 : Int32))
  else
    if p1 = (1 : Int32) then
      some (o_place, (0 : Int32))
    else
      some ((-1 : Int32), (0 : Int32))
set_option maxHeartbeats 4000000 in
set_option maxRecDepth 100000 in
theorem k_Mo_fault (l : Launch) (dC : Nat → ClassId) (dI : Nat → Nat → Nat) (cI cJ : ClassId) (p1 : Int32) (o_thrown : Int32) (o_hasProgram : Int32) (o_fault : Int32) (o_place : Int32) (o_told : Int32) (o_killed : Int32) (q_o : Nat) (q_o_memory : Nat) (q_o_program : Nat) (q_o_fresh : Nat) (q_o_temporaries : Nat) (q_o_ins : Nat) (q_o_outs : Nat) (q_o_uniforms : Nat) (q_o_textures : Nat) (q_o_read : Nat) (q_o_result : Nat) (q_o_left : Nat) (q_o_opening : Nat) (r : Int32) (o_o_thrown : Int32) (h : pf_Mo_fault p1 o_fault o_place = some (r, o_o_thrown)) : ck_i l y_Mo_fault wm_Mo_fault ({ frames := 0, cells := 0, slots := 0, locals := 0 } : Room) [.ref q_o, .int p1] (dC, dI) [(cI, .int), (cJ, .long)] [(q_o, .inr (7, [.int o_thrown, .ref q_o_memory, .ref q_o_program, .ref q_o_fresh, .int o_hasProgram, .int o_fault, .int o_place, .int o_told, .ref q_o_temporaries, .ref q_o_ins, .ref q_o_outs, .ref q_o_uniforms, .ref q_o_textures, .ref q_o_read, .ref q_o_result, .int o_killed, .ref q_o_left, .ref q_o_opening]))] r [(q_o, .inr (7, [.int o_o_thrown, .ref q_o_memory, .ref q_o_program, .ref q_o_fresh, .int o_hasProgram, .int o_fault, .int o_place, .int o_told, .ref q_o_temporaries, .ref q_o_ins, .ref q_o_outs, .ref q_o_uniforms, .ref q_o_textures, .ref q_o_read, .ref q_o_result, .int o_killed, .ref q_o_left, .ref q_o_opening]))] := by
  refine ck_ofi (cc := c_Mo_fault) (maxL := 2) (ret := (some .int)) (by decide +kernel) rfl ?_
  intro p e s m below meth c A C0 hK hP hD hS hE
  obtain ⟨hx, hb, hr, hml, hown, hts, hlk, hA, hin⟩ := C0
  unfold pf_Mo_fault at h
  have hl := lv_entry ([.ref q_o, .int p1]) (n := 2) (Nat.le_of_ble_eq_true rfl)
  rw [lg_entry_eq]
  generalize (lg_sl ([.ref q_o, .int p1]) ++ List.replicate (2 - (lg_sl ([.ref q_o, .int p1])).length) Slot.unset).toArray = ls at hl ⊢
  have hl : lv_has ls 2 [(0, .ref q_o), (1, .int p1)] := hl
  refine lv_aload_n hx hb d_Mo_fault_0 rfl (lv_at hl 0 rfl) ?_
  refine lv_iconst (v := 0) hx hb d_Mo_fault_1 (by decide) ?_
  refine va_put (D := (dC, dI)) (ci := 7) (v := .int (0 : Int32)) (ty := .int) (C := R_Mo) (T := T_Mo) (N := 18) hx hb hts (iw_Mo _) ty_Mo tk_Mo nd_Mo hown hK hP hD hS 0 rfl rfl 0 (by decide) (hts (.fieldLink R_Mo 50 "ShaderMachineModel" "thrown" "I") (List.mem_cons_of_mem _ tw_728)) (fun _ h9 => h9) rfl (by decide +kernel) rfl rfl (Nat.le_of_ble_eq_true rfl) d_Mo_fault_2 (fun H locs hP hD hS => ?_)
  have hP : va_P (dC, dI) vwCl [(q_o, .inr (7, [.int (0 : Int32), .ref q_o_memory, .ref q_o_program, .ref q_o_fresh, .int o_hasProgram, .int o_fault, .int o_place, .int o_told, .ref q_o_temporaries, .ref q_o_ins, .ref q_o_outs, .ref q_o_uniforms, .ref q_o_textures, .ref q_o_read, .ref q_o_result, .int o_killed, .ref q_o_left, .ref q_o_opening]))] H := hP
  have hD : va_D A [(q_o, .inr (7, [.int (0 : Int32), .ref q_o_memory, .ref q_o_program, .ref q_o_fresh, .int o_hasProgram, .int o_fault, .int o_place, .int o_told, .ref q_o_temporaries, .ref q_o_ins, .ref q_o_outs, .ref q_o_uniforms, .ref q_o_textures, .ref q_o_read, .ref q_o_result, .int o_killed, .ref q_o_left, .ref q_o_opening]))] := hD
  refine lv_iload_n hx hb d_Mo_fault_5 rfl (lv_at hl 1 rfl) ?_
  refine lv_if_ne (tgt := 16) hx hb d_Mo_fault_6 (by decide) (fun c_1 => ?_) (fun c_1 => ?_)
  · rw [if_neg c_1] at h
    refine lv_iload_n hx hb d_Mo_fault_16 rfl (lv_at hl 1 rfl) ?_
    refine lv_iconst (v := 1) hx hb d_Mo_fault_17 (by decide) ?_
    refine lv_icmp_ne (tgt := 28) hx hb d_Mo_fault_18 (by decide) (fun c_2 => ?_) (fun c_2 => ?_)
    · rw [if_neg c_2] at h
      refine lv_iconst (v := -1) hx hb d_Mo_fault_28 (by decide) ?_
      cases h
      exact ck_iret hx hb hr hlk hK hP hD hS d_Mo_fault_29
    · rw [if_pos c_2] at h
      refine lv_aload_n hx hb d_Mo_fault_21 rfl (lv_at hl 0 rfl) ?_
      refine va_get (D := (dC, dI)) (ci := 7) (v := .int o_place) (C := R_Mo) (T := T_Mo) (N := 18) hx hb hts (iw_Mo _) hown hK hP 0 rfl rfl 6 (by decide) (hts (.fieldLink R_Mo 19 "ShaderMachineModel" "place" "I") (List.mem_cons_of_mem _ tw_734)) (fun _ h9 => h9) rfl d_Mo_fault_22 ?_
      refine lv_goto (tgt := 29) hx hb d_Mo_fault_25 (by decide) ?_
      cases h
      exact ck_iret hx hb hr hlk hK hP hD hS d_Mo_fault_29
  · rw [if_pos c_1] at h
    refine lv_aload_n hx hb d_Mo_fault_9 rfl (lv_at hl 0 rfl) ?_
    refine va_get (D := (dC, dI)) (ci := 7) (v := .int o_fault) (C := R_Mo) (T := T_Mo) (N := 18) hx hb hts (iw_Mo _) hown hK hP 0 rfl rfl 5 (by decide) (hts (.fieldLink R_Mo 94 "ShaderMachineModel" "fault" "I") (List.mem_cons_of_mem _ tw_733)) (fun _ h9 => h9) rfl d_Mo_fault_10 ?_
    refine lv_goto (tgt := 29) hx hb d_Mo_fault_13 (by decide) ?_
    cases h
    exact ck_iret hx hb hr hlk hK hP hD hS d_Mo_fault_29
def pf_Mo_set (p2 : Int32) (p3 : Int32) (p4 : Int32) (p5 : Int32) (p6 : Int32) (n_p1 : Nat) (f_p1 : Nat → Int32) : Option ((Nat → Int32)) :=
  if (0 : Int32) ≤ ((4 : Int32) * p2) ∧ ((4 : Int32) * p2).toNatClampNeg < n_p1 then (
  if (0 : Int32) ≤ (((4 : Int32) * p2) + (1 : Int32)) ∧ (((4 : Int32) * p2) + (1 : Int32)).toNatClampNeg < n_p1 then (
  if (0 : Int32) ≤ (((4 : Int32) * p2) + (2 : Int32)) ∧ (((4 : Int32) * p2) + (2 : Int32)).toNatClampNeg < n_p1 then (
  if (0 : Int32) ≤ (((4 : Int32) * p2) + (3 : Int32)) ∧ (((4 : Int32) * p2) + (3 : Int32)).toNatClampNeg < n_p1 then (
  some (upd (upd (upd (upd f_p1 ((4 : Int32) * p2).toNatClampNeg p3) (((4 : Int32) * p2) + (1 : Int32)).toNatClampNeg p4) (((4 : Int32) * p2) + (2 : Int32)).toNatClampNeg p5) (((4 : Int32) * p2) + (3 : Int32)).toNatClampNeg p6)) else none) else none) else none) else none
set_option maxHeartbeats 4000000 in
set_option maxRecDepth 100000 in
theorem k_Mo_set (l : Launch) (dC : Nat → ClassId) (dI : Nat → Nat → Nat) (cI cJ : ClassId) (p2 : Int32) (p3 : Int32) (p4 : Int32) (p5 : Int32) (p6 : Int32) (n_p1 : Nat) (f_p1 : Nat → Int32) (q_o : Nat) (q_p1 : Nat) (o_f_p1 : Nat → Int32) (h : pf_Mo_set p2 p3 p4 p5 p6 n_p1 f_p1 = some o_f_p1) : ck_v l y_Mo_set wm_Mo_set ({ frames := 0, cells := 0, slots := 0, locals := 0 } : Room) [.ref q_o, .ref q_p1, .int p2, .int p3, .int p4, .int p5, .int p6] (dC, dI) [(cI, .int), (cJ, .long)] [(q_p1, .inl (cI, n_p1, .inl f_p1))] [(q_p1, .inl (cI, n_p1, .inl o_f_p1))] := by
  refine ck_ofv (cc := c_Mo_set) (maxL := 7) (ret := none) (by decide +kernel) rfl ?_
  intro p e s m below meth c A C0 hK hP hD hS hE
  obtain ⟨hx, hb, hr, hml, hown, hts, hlk, hA, hin⟩ := C0
  unfold pf_Mo_set at h
  have hl := lv_entry ([.ref q_o, .ref q_p1, .int p2, .int p3, .int p4, .int p5, .int p6]) (n := 7) (Nat.le_of_ble_eq_true rfl)
  rw [lg_entry_eq]
  generalize (lg_sl ([.ref q_o, .ref q_p1, .int p2, .int p3, .int p4, .int p5, .int p6]) ++ List.replicate (7 - (lg_sl ([.ref q_o, .ref q_p1, .int p2, .int p3, .int p4, .int p5, .int p6])).length) Slot.unset).toArray = ls at hl ⊢
  have hl : lv_has ls 7 [(0, .ref q_o), (1, .ref q_p1), (2, .int p2), (3, .int p3), (4, .int p4), (5, .int p5), (6, .int p6)] := hl
  refine lv_aload_n hx hb d_Mo_set_0 rfl (lv_at hl 1 rfl) ?_
  refine lv_iconst (v := 4) hx hb d_Mo_set_1 (by decide) ?_
  refine lv_iload_n hx hb d_Mo_set_2 rfl (lv_at hl 2 rfl) ?_
  refine lv_imul hx hb d_Mo_set_3 ?_
  refine lv_iload_n hx hb d_Mo_set_4 rfl (lv_at hl 3 rfl) ?_
  obtain ⟨c_1, h⟩ := ch_ite h
  refine va_iast hx hb hK hP hD hS 0 0 rfl rfl (ch_in c_1) d_Mo_set_5 (fun H locs hP hD hS => ?_)
  have hP : va_P (dC, dI) vwCl [(q_p1, .inl (cI, n_p1, .inl (upd f_p1 ((4 : Int32) * p2).toNatClampNeg p3)))] H := hP
  have hD : va_D A [(q_p1, .inl (cI, n_p1, .inl (upd f_p1 ((4 : Int32) * p2).toNatClampNeg p3)))] := hD
  refine lv_aload_n hx hb d_Mo_set_6 rfl (lv_at hl 1 rfl) ?_
  refine lv_iconst (v := 4) hx hb d_Mo_set_7 (by decide) ?_
  refine lv_iload_n hx hb d_Mo_set_8 rfl (lv_at hl 2 rfl) ?_
  refine lv_imul hx hb d_Mo_set_9 ?_
  refine lv_iconst (v := 1) hx hb d_Mo_set_10 (by decide) ?_
  refine lv_iadd hx hb d_Mo_set_11 ?_
  refine lv_iload hx hb d_Mo_set_12 (lv_at hl 4 rfl) ?_
  obtain ⟨c_2, h⟩ := ch_ite h
  refine va_iast hx hb hK hP hD hS 0 0 rfl rfl (ch_in c_2) d_Mo_set_14 (fun H locs hP hD hS => ?_)
  have hP : va_P (dC, dI) vwCl [(q_p1, .inl (cI, n_p1, .inl (upd (upd f_p1 ((4 : Int32) * p2).toNatClampNeg p3) (((4 : Int32) * p2) + (1 : Int32)).toNatClampNeg p4)))] H := hP
  have hD : va_D A [(q_p1, .inl (cI, n_p1, .inl (upd (upd f_p1 ((4 : Int32) * p2).toNatClampNeg p3) (((4 : Int32) * p2) + (1 : Int32)).toNatClampNeg p4)))] := hD
  refine lv_aload_n hx hb d_Mo_set_15 rfl (lv_at hl 1 rfl) ?_
  refine lv_iconst (v := 4) hx hb d_Mo_set_16 (by decide) ?_
  refine lv_iload_n hx hb d_Mo_set_17 rfl (lv_at hl 2 rfl) ?_
  refine lv_imul hx hb d_Mo_set_18 ?_
  refine lv_iconst (v := 2) hx hb d_Mo_set_19 (by decide) ?_
  refine lv_iadd hx hb d_Mo_set_20 ?_
  refine lv_iload hx hb d_Mo_set_21 (lv_at hl 5 rfl) ?_
  obtain ⟨c_3, h⟩ := ch_ite h
  refine va_iast hx hb hK hP hD hS 0 0 rfl rfl (ch_in c_3) d_Mo_set_23 (fun H locs hP hD hS => ?_)
  have hP : va_P (dC, dI) vwCl [(q_p1, .inl (cI, n_p1, .inl (upd (upd (upd f_p1 ((4 : Int32) * p2).toNatClampNeg p3) (((4 : Int32) * p2) + (1 : Int32)).toNatClampNeg p4) (((4 : Int32) * p2) + (2 : Int32)).toNatClampNeg p5)))] H := hP
  have hD : va_D A [(q_p1, .inl (cI, n_p1, .inl (upd (upd (upd f_p1 ((4 : Int32) * p2).toNatClampNeg p3) (((4 : Int32) * p2) + (1 : Int32)).toNatClampNeg p4) (((4 : Int32) * p2) + (2 : Int32)).toNatClampNeg p5)))] := hD
  refine lv_aload_n hx hb d_Mo_set_24 rfl (lv_at hl 1 rfl) ?_
  refine lv_iconst (v := 4) hx hb d_Mo_set_25 (by decide) ?_
  refine lv_iload_n hx hb d_Mo_set_26 rfl (lv_at hl 2 rfl) ?_
  refine lv_imul hx hb d_Mo_set_27 ?_
  refine lv_iconst (v := 3) hx hb d_Mo_set_28 (by decide) ?_
  refine lv_iadd hx hb d_Mo_set_29 ?_
  refine lv_iload hx hb d_Mo_set_30 (lv_at hl 6 rfl) ?_
  obtain ⟨c_4, h⟩ := ch_ite h
  refine va_iast hx hb hK hP hD hS 0 0 rfl rfl (ch_in c_4) d_Mo_set_32 (fun H locs hP hD hS => ?_)
  have hP : va_P (dC, dI) vwCl [(q_p1, .inl (cI, n_p1, .inl (upd (upd (upd (upd f_p1 ((4 : Int32) * p2).toNatClampNeg p3) (((4 : Int32) * p2) + (1 : Int32)).toNatClampNeg p4) (((4 : Int32) * p2) + (2 : Int32)).toNatClampNeg p5) (((4 : Int32) * p2) + (3 : Int32)).toNatClampNeg p6)))] H := hP
  have hD : va_D A [(q_p1, .inl (cI, n_p1, .inl (upd (upd (upd (upd f_p1 ((4 : Int32) * p2).toNatClampNeg p3) (((4 : Int32) * p2) + (1 : Int32)).toNatClampNeg p4) (((4 : Int32) * p2) + (2 : Int32)).toNatClampNeg p5) (((4 : Int32) * p2) + (3 : Int32)).toNatClampNeg p6)))] := hD
  cases h
  exact ck_vret hx hb hr hlk hK hP hD hS d_Mo_set_33
def pf_Mo_in (p1 : Int32) (p2 : Int32) (p3 : Int32) (p4 : Int32) (p5 : Int32) (n_o_ins : Nat) (f_o_ins : Nat → Int32) : Option (Int32 × (Nat → Int32)) :=
  if p1 < 0 then
    Option.bind (pf_Mo_refuse (1 : Int32)) (fun (r_3, w_4) => 
    if r_3 = 0 then
      Option.bind (pf_Mo_set p1 p2 p3 p4 p5 n_o_ins f_o_ins) (fun w_7 => 
      some (w_4, w_7))
    else
      some (w_4, f_o_ins))
  else
    if p1 ≤ (7 : Int32) then
      Option.bind (pf_Mo_refuse (0 : Int32)) (fun (r_10, w_11) => 
      if r_10 = 0 then
        Option.bind (pf_Mo_set p1 p2 p3 p4 p5 n_o_ins f_o_ins) (fun w_14 => 
        some (w_11, w_14))
      else
        some (w_11, f_o_ins))
    else
      Option.bind (pf_Mo_refuse (1 : Int32)) (fun (r_16, w_17) => 
      if r_16 = 0 then
        Option.bind (pf_Mo_set p1 p2 p3 p4 p5 n_o_ins f_o_ins) (fun w_20 => 
        some (w_17, w_20))
      else
        some (w_17, f_o_ins))
set_option maxHeartbeats 4000000 in
set_option maxRecDepth 100000 in
theorem k_Mo_in (l : Launch) (dC : Nat → ClassId) (dI : Nat → Nat → Nat) (cI cJ : ClassId) (p1 : Int32) (p2 : Int32) (p3 : Int32) (p4 : Int32) (p5 : Int32) (o_thrown : Int32) (o_hasProgram : Int32) (o_fault : Int32) (o_place : Int32) (o_told : Int32) (o_killed : Int32) (n_o_ins : Nat) (f_o_ins : Nat → Int32) (q_o : Nat) (q_o_memory : Nat) (q_o_program : Nat) (q_o_fresh : Nat) (q_o_temporaries : Nat) (q_o_ins : Nat) (q_o_outs : Nat) (q_o_uniforms : Nat) (q_o_textures : Nat) (q_o_read : Nat) (q_o_result : Nat) (q_o_left : Nat) (q_o_opening : Nat) (o_o_thrown : Int32) (o_f_o_ins : Nat → Int32) (h : pf_Mo_in p1 p2 p3 p4 p5 n_o_ins f_o_ins = some (o_o_thrown, o_f_o_ins)) : ck_v l y_Mo_in wm_Mo_in ({ frames := 1, cells := 0, slots := 0, locals := 26 } : Room) [.ref q_o, .int p1, .int p2, .int p3, .int p4, .int p5] (dC, dI) [(cI, .int), (cJ, .long)] [(q_o, .inr (7, [.int o_thrown, .ref q_o_memory, .ref q_o_program, .ref q_o_fresh, .int o_hasProgram, .int o_fault, .int o_place, .int o_told, .ref q_o_temporaries, .ref q_o_ins, .ref q_o_outs, .ref q_o_uniforms, .ref q_o_textures, .ref q_o_read, .ref q_o_result, .int o_killed, .ref q_o_left, .ref q_o_opening])), (q_o_ins, .inl (cI, n_o_ins, .inl f_o_ins))] [(q_o, .inr (7, [.int o_o_thrown, .ref q_o_memory, .ref q_o_program, .ref q_o_fresh, .int o_hasProgram, .int o_fault, .int o_place, .int o_told, .ref q_o_temporaries, .ref q_o_ins, .ref q_o_outs, .ref q_o_uniforms, .ref q_o_textures, .ref q_o_read, .ref q_o_result, .int o_killed, .ref q_o_left, .ref q_o_opening])), (q_o_ins, .inl (cI, n_o_ins, .inl o_f_o_ins))] := by
  refine ck_ofv (cc := c_Mo_in) (maxL := 6) (ret := none) (by decide +kernel) rfl ?_
  intro p e s m below meth c A C0 hK hP hD hS hE
  obtain ⟨hx, hb, hr, hml, hown, hts, hlk, hA, hin⟩ := C0
  unfold pf_Mo_in at h
  have hl := lv_entry ([.ref q_o, .int p1, .int p2, .int p3, .int p4, .int p5]) (n := 6) (Nat.le_of_ble_eq_true rfl)
  rw [lg_entry_eq]
  generalize (lg_sl ([.ref q_o, .int p1, .int p2, .int p3, .int p4, .int p5]) ++ List.replicate (6 - (lg_sl ([.ref q_o, .int p1, .int p2, .int p3, .int p4, .int p5])).length) Slot.unset).toArray = ls at hl ⊢
  have hl : lv_has ls 6 [(0, .ref q_o), (1, .int p1), (2, .int p2), (3, .int p3), (4, .int p4), (5, .int p5)] := hl
  refine lv_aload_n hx hb d_Mo_in_0 rfl (lv_at hl 0 rfl) ?_
  refine lv_iload_n hx hb d_Mo_in_1 rfl (lv_at hl 1 rfl) ?_
  refine lv_if_lt (tgt := 11) hx hb d_Mo_in_2 (by decide) (fun c_1 => ?_) (fun c_1 => ?_)
  · rw [if_pos c_1] at h
    refine lv_iconst (v := 1) hx hb d_Mo_in_11 (by decide) ?_
    refine lv_goto (tgt := 16) hx hb d_Mo_in_12 (by decide) ?_
    obtain ⟨⟨r_3, w_4⟩, h_2, h⟩ := ch_bind h
    try dsimp only at h
    refine ck_goi (wc := [(q_o, .inr (7, [.int o_thrown, .ref q_o_memory, .ref q_o_program, .ref q_o_fresh, .int o_hasProgram, .int o_fault, .int o_place, .int o_told, .ref q_o_temporaries, .ref q_o_ins, .ref q_o_outs, .ref q_o_uniforms, .ref q_o_textures, .ref q_o_read, .ref q_o_result, .int o_killed, .ref q_o_left, .ref q_o_opening]))]) (wr := [(q_o_ins, .inl (cI, n_o_ins, .inl f_o_ins))]) (w1 := [(q_o, .inr (7, [.int w_4, .ref q_o_memory, .ref q_o_program, .ref q_o_fresh, .int o_hasProgram, .int o_fault, .int o_place, .int o_told, .ref q_o_temporaries, .ref q_o_ins, .ref q_o_outs, .ref q_o_uniforms, .ref q_o_textures, .ref q_o_read, .ref q_o_result, .int o_killed, .ref q_o_left, .ref q_o_opening]))]) (va_runV (As := [.int (1 : Int32)]) (rest := []) ⟨hx, hb, hml, hown, hts⟩ (k_Mo_refuse l dC dI cI cJ (1 : Int32) o_thrown o_hasProgram o_fault o_place o_told o_killed q_o q_o_memory q_o_program q_o_fresh q_o_temporaries q_o_ins q_o_outs q_o_uniforms q_o_textures q_o_read q_o_result q_o_left q_o_opening r_3 w_4 h_2 _) (cwV 1 hts (gw_V tw_791 tw_793 sw_394 tw_9 tw_794) rfl rfl rfl (by decide +kernel) ⟨Nat.le_of_ble_eq_true rfl, Nat.le_of_ble_eq_true rfl⟩) (ck_preV (wc := [(q_o, .inr (7, [.int o_thrown, .ref q_o_memory, .ref q_o_program, .ref q_o_fresh, .int o_hasProgram, .int o_fault, .int o_place, .int o_told, .ref q_o_temporaries, .ref q_o_ins, .ref q_o_outs, .ref q_o_uniforms, .ref q_o_textures, .ref q_o_read, .ref q_o_result, .int o_killed, .ref q_o_left, .ref q_o_opening]))]) hK hP hD hS hA hE 0 rfl rfl rfl [0] (by decide) rfl) rfl rfl hl.1 rfl (lv_room (Nat.le_of_ble_eq_true rfl)) d_Mo_in_16 ⟨Nat.le_of_ble_eq_true rfl, Nat.le_of_ble_eq_true rfl⟩) hP hD hS hA [0] [1] rfl rfl (by decide) (by decide) (fun H locs hP hD hS => ?_)
    have hP : va_P (dC, dI) vwCl [(q_o, .inr (7, [.int w_4, .ref q_o_memory, .ref q_o_program, .ref q_o_fresh, .int o_hasProgram, .int o_fault, .int o_place, .int o_told, .ref q_o_temporaries, .ref q_o_ins, .ref q_o_outs, .ref q_o_uniforms, .ref q_o_textures, .ref q_o_read, .ref q_o_result, .int o_killed, .ref q_o_left, .ref q_o_opening])), (q_o_ins, .inl (cI, n_o_ins, .inl f_o_ins))] H := hP.sub [1, 0] rfl
    have hD : va_D A [(q_o, .inr (7, [.int w_4, .ref q_o_memory, .ref q_o_program, .ref q_o_fresh, .int o_hasProgram, .int o_fault, .int o_place, .int o_told, .ref q_o_temporaries, .ref q_o_ins, .ref q_o_outs, .ref q_o_uniforms, .ref q_o_textures, .ref q_o_read, .ref q_o_result, .int o_killed, .ref q_o_left, .ref q_o_opening])), (q_o_ins, .inl (cI, n_o_ins, .inl f_o_ins))] := hD.sub [1, 0] (by decide) rfl
    refine lv_if_ne (tgt := 37) hx hb d_Mo_in_19 (by decide) (fun c_5 => ?_) (fun c_5 => ?_)
    · rw [if_neg c_5] at h
      cases h
      exact ck_vret hx hb hr hlk hK hP hD hS d_Mo_in_37
    · rw [if_pos c_5] at h
      refine lv_aload_n hx hb d_Mo_in_22 rfl (lv_at hl 0 rfl) ?_
      refine lv_aload_n hx hb d_Mo_in_23 rfl (lv_at hl 0 rfl) ?_
      refine va_get (D := (dC, dI)) (ci := 7) (v := .ref q_o_ins) (C := R_Mo) (T := T_Mo) (N := 18) hx hb hts (iw_Mo _) hown hK hP 0 rfl rfl 9 (by decide) (hts (.fieldLink R_Mo 26 "ShaderMachineModel" "ins" "[I") (List.mem_cons_of_mem _ tw_737)) (fun _ h9 => h9) rfl d_Mo_in_24 ?_
      refine lv_iload_n hx hb d_Mo_in_27 rfl (lv_at hl 1 rfl) ?_
      refine lv_iload_n hx hb d_Mo_in_28 rfl (lv_at hl 2 rfl) ?_
      refine lv_iload_n hx hb d_Mo_in_29 rfl (lv_at hl 3 rfl) ?_
      refine lv_iload hx hb d_Mo_in_30 (lv_at hl 4 rfl) ?_
      refine lv_iload hx hb d_Mo_in_32 (lv_at hl 5 rfl) ?_
      obtain ⟨w_7, h_6, h⟩ := ch_bind h
      try dsimp only at h
      refine ck_gov (wc := [(q_o_ins, .inl (cI, n_o_ins, .inl f_o_ins))]) (wr := [(q_o, .inr (7, [.int w_4, .ref q_o_memory, .ref q_o_program, .ref q_o_fresh, .int o_hasProgram, .int o_fault, .int o_place, .int o_told, .ref q_o_temporaries, .ref q_o_ins, .ref q_o_outs, .ref q_o_uniforms, .ref q_o_textures, .ref q_o_read, .ref q_o_result, .int o_killed, .ref q_o_left, .ref q_o_opening]))]) (w1 := [(q_o_ins, .inl (cI, n_o_ins, .inl w_7))]) (va_runV (As := [.ref q_o_ins, .int p1, .int p2, .int p3, .int p4, .int p5]) (rest := []) ⟨hx, hb, hml, hown, hts⟩ (k_Mo_set l dC dI cI cJ p1 p2 p3 p4 p5 n_o_ins f_o_ins q_o q_o_ins w_7 h_6 _) (cwV 6 hts (gw_V tw_859 tw_861 sw_408 tw_9 tw_862) rfl rfl rfl (by decide +kernel) ⟨Nat.le_of_ble_eq_true rfl, Nat.le_of_ble_eq_true rfl⟩) (ck_preV (wc := [(q_o_ins, .inl (cI, n_o_ins, .inl f_o_ins))]) hK hP hD hS hA hE 0 rfl rfl rfl [1] (by decide) rfl) rfl rfl hl.1 rfl (lv_room (Nat.le_of_ble_eq_true rfl)) d_Mo_in_34 ⟨Nat.le_of_ble_eq_true rfl, Nat.le_of_ble_eq_true rfl⟩) hP hD hS hA [1] [0] rfl rfl (by decide) (by decide) (fun H locs hP hD hS => ?_)
      have hP : va_P (dC, dI) vwCl [(q_o, .inr (7, [.int w_4, .ref q_o_memory, .ref q_o_program, .ref q_o_fresh, .int o_hasProgram, .int o_fault, .int o_place, .int o_told, .ref q_o_temporaries, .ref q_o_ins, .ref q_o_outs, .ref q_o_uniforms, .ref q_o_textures, .ref q_o_read, .ref q_o_result, .int o_killed, .ref q_o_left, .ref q_o_opening])), (q_o_ins, .inl (cI, n_o_ins, .inl w_7))] H := hP.sub [0, 1] rfl
      have hD : va_D A [(q_o, .inr (7, [.int w_4, .ref q_o_memory, .ref q_o_program, .ref q_o_fresh, .int o_hasProgram, .int o_fault, .int o_place, .int o_told, .ref q_o_temporaries, .ref q_o_ins, .ref q_o_outs, .ref q_o_uniforms, .ref q_o_textures, .ref q_o_read, .ref q_o_result, .int o_killed, .ref q_o_left, .ref q_o_opening])), (q_o_ins, .inl (cI, n_o_ins, .inl w_7))] := hD.sub [0, 1] (by decide) rfl
      cases h
      exact ck_vret hx hb hr hlk hK hP hD hS d_Mo_in_37
  · rw [if_neg c_1] at h
    refine lv_iload_n hx hb d_Mo_in_5 rfl (lv_at hl 1 rfl) ?_
    refine lv_bipush (v := 7) hx hb d_Mo_in_6 (by decide) ?_
    refine lv_icmp_le (tgt := 15) hx hb d_Mo_in_8 (by decide) (fun c_8 => ?_) (fun c_8 => ?_)
    · rw [if_pos c_8] at h
      refine lv_iconst (v := 0) hx hb d_Mo_in_15 (by decide) ?_
      obtain ⟨⟨r_10, w_11⟩, h_9, h⟩ := ch_bind h
      try dsimp only at h
      refine ck_goi (wc := [(q_o, .inr (7, [.int o_thrown, .ref q_o_memory, .ref q_o_program, .ref q_o_fresh, .int o_hasProgram, .int o_fault, .int o_place, .int o_told, .ref q_o_temporaries, .ref q_o_ins, .ref q_o_outs, .ref q_o_uniforms, .ref q_o_textures, .ref q_o_read, .ref q_o_result, .int o_killed, .ref q_o_left, .ref q_o_opening]))]) (wr := [(q_o_ins, .inl (cI, n_o_ins, .inl f_o_ins))]) (w1 := [(q_o, .inr (7, [.int w_11, .ref q_o_memory, .ref q_o_program, .ref q_o_fresh, .int o_hasProgram, .int o_fault, .int o_place, .int o_told, .ref q_o_temporaries, .ref q_o_ins, .ref q_o_outs, .ref q_o_uniforms, .ref q_o_textures, .ref q_o_read, .ref q_o_result, .int o_killed, .ref q_o_left, .ref q_o_opening]))]) (va_runV (As := [.int (0 : Int32)]) (rest := []) ⟨hx, hb, hml, hown, hts⟩ (k_Mo_refuse l dC dI cI cJ (0 : Int32) o_thrown o_hasProgram o_fault o_place o_told o_killed q_o q_o_memory q_o_program q_o_fresh q_o_temporaries q_o_ins q_o_outs q_o_uniforms q_o_textures q_o_read q_o_result q_o_left q_o_opening r_10 w_11 h_9 _) (cwV 1 hts (gw_V tw_791 tw_793 sw_394 tw_9 tw_794) rfl rfl rfl (by decide +kernel) ⟨Nat.le_of_ble_eq_true rfl, Nat.le_of_ble_eq_true rfl⟩) (ck_preV (wc := [(q_o, .inr (7, [.int o_thrown, .ref q_o_memory, .ref q_o_program, .ref q_o_fresh, .int o_hasProgram, .int o_fault, .int o_place, .int o_told, .ref q_o_temporaries, .ref q_o_ins, .ref q_o_outs, .ref q_o_uniforms, .ref q_o_textures, .ref q_o_read, .ref q_o_result, .int o_killed, .ref q_o_left, .ref q_o_opening]))]) hK hP hD hS hA hE 0 rfl rfl rfl [0] (by decide) rfl) rfl rfl hl.1 rfl (lv_room (Nat.le_of_ble_eq_true rfl)) d_Mo_in_16 ⟨Nat.le_of_ble_eq_true rfl, Nat.le_of_ble_eq_true rfl⟩) hP hD hS hA [0] [1] rfl rfl (by decide) (by decide) (fun H locs hP hD hS => ?_)
      have hP : va_P (dC, dI) vwCl [(q_o, .inr (7, [.int w_11, .ref q_o_memory, .ref q_o_program, .ref q_o_fresh, .int o_hasProgram, .int o_fault, .int o_place, .int o_told, .ref q_o_temporaries, .ref q_o_ins, .ref q_o_outs, .ref q_o_uniforms, .ref q_o_textures, .ref q_o_read, .ref q_o_result, .int o_killed, .ref q_o_left, .ref q_o_opening])), (q_o_ins, .inl (cI, n_o_ins, .inl f_o_ins))] H := hP.sub [1, 0] rfl
      have hD : va_D A [(q_o, .inr (7, [.int w_11, .ref q_o_memory, .ref q_o_program, .ref q_o_fresh, .int o_hasProgram, .int o_fault, .int o_place, .int o_told, .ref q_o_temporaries, .ref q_o_ins, .ref q_o_outs, .ref q_o_uniforms, .ref q_o_textures, .ref q_o_read, .ref q_o_result, .int o_killed, .ref q_o_left, .ref q_o_opening])), (q_o_ins, .inl (cI, n_o_ins, .inl f_o_ins))] := hD.sub [1, 0] (by decide) rfl
      refine lv_if_ne (tgt := 37) hx hb d_Mo_in_19 (by decide) (fun c_12 => ?_) (fun c_12 => ?_)
      · rw [if_neg c_12] at h
        cases h
        exact ck_vret hx hb hr hlk hK hP hD hS d_Mo_in_37
      · rw [if_pos c_12] at h
        refine lv_aload_n hx hb d_Mo_in_22 rfl (lv_at hl 0 rfl) ?_
        refine lv_aload_n hx hb d_Mo_in_23 rfl (lv_at hl 0 rfl) ?_
        refine va_get (D := (dC, dI)) (ci := 7) (v := .ref q_o_ins) (C := R_Mo) (T := T_Mo) (N := 18) hx hb hts (iw_Mo _) hown hK hP 0 rfl rfl 9 (by decide) (hts (.fieldLink R_Mo 26 "ShaderMachineModel" "ins" "[I") (List.mem_cons_of_mem _ tw_737)) (fun _ h9 => h9) rfl d_Mo_in_24 ?_
        refine lv_iload_n hx hb d_Mo_in_27 rfl (lv_at hl 1 rfl) ?_
        refine lv_iload_n hx hb d_Mo_in_28 rfl (lv_at hl 2 rfl) ?_
        refine lv_iload_n hx hb d_Mo_in_29 rfl (lv_at hl 3 rfl) ?_
        refine lv_iload hx hb d_Mo_in_30 (lv_at hl 4 rfl) ?_
        refine lv_iload hx hb d_Mo_in_32 (lv_at hl 5 rfl) ?_
        obtain ⟨w_14, h_13, h⟩ := ch_bind h
        try dsimp only at h
        refine ck_gov (wc := [(q_o_ins, .inl (cI, n_o_ins, .inl f_o_ins))]) (wr := [(q_o, .inr (7, [.int w_11, .ref q_o_memory, .ref q_o_program, .ref q_o_fresh, .int o_hasProgram, .int o_fault, .int o_place, .int o_told, .ref q_o_temporaries, .ref q_o_ins, .ref q_o_outs, .ref q_o_uniforms, .ref q_o_textures, .ref q_o_read, .ref q_o_result, .int o_killed, .ref q_o_left, .ref q_o_opening]))]) (w1 := [(q_o_ins, .inl (cI, n_o_ins, .inl w_14))]) (va_runV (As := [.ref q_o_ins, .int p1, .int p2, .int p3, .int p4, .int p5]) (rest := []) ⟨hx, hb, hml, hown, hts⟩ (k_Mo_set l dC dI cI cJ p1 p2 p3 p4 p5 n_o_ins f_o_ins q_o q_o_ins w_14 h_13 _) (cwV 6 hts (gw_V tw_859 tw_861 sw_408 tw_9 tw_862) rfl rfl rfl (by decide +kernel) ⟨Nat.le_of_ble_eq_true rfl, Nat.le_of_ble_eq_true rfl⟩) (ck_preV (wc := [(q_o_ins, .inl (cI, n_o_ins, .inl f_o_ins))]) hK hP hD hS hA hE 0 rfl rfl rfl [1] (by decide) rfl) rfl rfl hl.1 rfl (lv_room (Nat.le_of_ble_eq_true rfl)) d_Mo_in_34 ⟨Nat.le_of_ble_eq_true rfl, Nat.le_of_ble_eq_true rfl⟩) hP hD hS hA [1] [0] rfl rfl (by decide) (by decide) (fun H locs hP hD hS => ?_)
        have hP : va_P (dC, dI) vwCl [(q_o, .inr (7, [.int w_11, .ref q_o_memory, .ref q_o_program, .ref q_o_fresh, .int o_hasProgram, .int o_fault, .int o_place, .int o_told, .ref q_o_temporaries, .ref q_o_ins, .ref q_o_outs, .ref q_o_uniforms, .ref q_o_textures, .ref q_o_read, .ref q_o_result, .int o_killed, .ref q_o_left, .ref q_o_opening])), (q_o_ins, .inl (cI, n_o_ins, .inl w_14))] H := hP.sub [0, 1] rfl
        have hD : va_D A [(q_o, .inr (7, [.int w_11, .ref q_o_memory, .ref q_o_program, .ref q_o_fresh, .int o_hasProgram, .int o_fault, .int o_place, .int o_told, .ref q_o_temporaries, .ref q_o_ins, .ref q_o_outs, .ref q_o_uniforms, .ref q_o_textures, .ref q_o_read, .ref q_o_result, .int o_killed, .ref q_o_left, .ref q_o_opening])), (q_o_ins, .inl (cI, n_o_ins, .inl w_14))] := hD.sub [0, 1] (by decide) rfl
        cases h
        exact ck_vret hx hb hr hlk hK hP hD hS d_Mo_in_37
    · rw [if_neg c_8] at h
      refine lv_iconst (v := 1) hx hb d_Mo_in_11 (by decide) ?_
      refine lv_goto (tgt := 16) hx hb d_Mo_in_12 (by decide) ?_
      obtain ⟨⟨r_16, w_17⟩, h_15, h⟩ := ch_bind h
      try dsimp only at h
      refine ck_goi (wc := [(q_o, .inr (7, [.int o_thrown, .ref q_o_memory, .ref q_o_program, .ref q_o_fresh, .int o_hasProgram, .int o_fault, .int o_place, .int o_told, .ref q_o_temporaries, .ref q_o_ins, .ref q_o_outs, .ref q_o_uniforms, .ref q_o_textures, .ref q_o_read, .ref q_o_result, .int o_killed, .ref q_o_left, .ref q_o_opening]))]) (wr := [(q_o_ins, .inl (cI, n_o_ins, .inl f_o_ins))]) (w1 := [(q_o, .inr (7, [.int w_17, .ref q_o_memory, .ref q_o_program, .ref q_o_fresh, .int o_hasProgram, .int o_fault, .int o_place, .int o_told, .ref q_o_temporaries, .ref q_o_ins, .ref q_o_outs, .ref q_o_uniforms, .ref q_o_textures, .ref q_o_read, .ref q_o_result, .int o_killed, .ref q_o_left, .ref q_o_opening]))]) (va_runV (As := [.int (1 : Int32)]) (rest := []) ⟨hx, hb, hml, hown, hts⟩ (k_Mo_refuse l dC dI cI cJ (1 : Int32) o_thrown o_hasProgram o_fault o_place o_told o_killed q_o q_o_memory q_o_program q_o_fresh q_o_temporaries q_o_ins q_o_outs q_o_uniforms q_o_textures q_o_read q_o_result q_o_left q_o_opening r_16 w_17 h_15 _) (cwV 1 hts (gw_V tw_791 tw_793 sw_394 tw_9 tw_794) rfl rfl rfl (by decide +kernel) ⟨Nat.le_of_ble_eq_true rfl, Nat.le_of_ble_eq_true rfl⟩) (ck_preV (wc := [(q_o, .inr (7, [.int o_thrown, .ref q_o_memory, .ref q_o_program, .ref q_o_fresh, .int o_hasProgram, .int o_fault, .int o_place, .int o_told, .ref q_o_temporaries, .ref q_o_ins, .ref q_o_outs, .ref q_o_uniforms, .ref q_o_textures, .ref q_o_read, .ref q_o_result, .int o_killed, .ref q_o_left, .ref q_o_opening]))]) hK hP hD hS hA hE 0 rfl rfl rfl [0] (by decide) rfl) rfl rfl hl.1 rfl (lv_room (Nat.le_of_ble_eq_true rfl)) d_Mo_in_16 ⟨Nat.le_of_ble_eq_true rfl, Nat.le_of_ble_eq_true rfl⟩) hP hD hS hA [0] [1] rfl rfl (by decide) (by decide) (fun H locs hP hD hS => ?_)
      have hP : va_P (dC, dI) vwCl [(q_o, .inr (7, [.int w_17, .ref q_o_memory, .ref q_o_program, .ref q_o_fresh, .int o_hasProgram, .int o_fault, .int o_place, .int o_told, .ref q_o_temporaries, .ref q_o_ins, .ref q_o_outs, .ref q_o_uniforms, .ref q_o_textures, .ref q_o_read, .ref q_o_result, .int o_killed, .ref q_o_left, .ref q_o_opening])), (q_o_ins, .inl (cI, n_o_ins, .inl f_o_ins))] H := hP.sub [1, 0] rfl
      have hD : va_D A [(q_o, .inr (7, [.int w_17, .ref q_o_memory, .ref q_o_program, .ref q_o_fresh, .int o_hasProgram, .int o_fault, .int o_place, .int o_told, .ref q_o_temporaries, .ref q_o_ins, .ref q_o_outs, .ref q_o_uniforms, .ref q_o_textures, .ref q_o_read, .ref q_o_result, .int o_killed, .ref q_o_left, .ref q_o_opening])), (q_o_ins, .inl (cI, n_o_ins, .inl f_o_ins))] := hD.sub [1, 0] (by decide) rfl
      refine lv_if_ne (tgt := 37) hx hb d_Mo_in_19 (by decide) (fun c_18 => ?_) (fun c_18 => ?_)
      · rw [if_neg c_18] at h
        cases h
        exact ck_vret hx hb hr hlk hK hP hD hS d_Mo_in_37
      · rw [if_pos c_18] at h
        refine lv_aload_n hx hb d_Mo_in_22 rfl (lv_at hl 0 rfl) ?_
        refine lv_aload_n hx hb d_Mo_in_23 rfl (lv_at hl 0 rfl) ?_
        refine va_get (D := (dC, dI)) (ci := 7) (v := .ref q_o_ins) (C := R_Mo) (T := T_Mo) (N := 18) hx hb hts (iw_Mo _) hown hK hP 0 rfl rfl 9 (by decide) (hts (.fieldLink R_Mo 26 "ShaderMachineModel" "ins" "[I") (List.mem_cons_of_mem _ tw_737)) (fun _ h9 => h9) rfl d_Mo_in_24 ?_
        refine lv_iload_n hx hb d_Mo_in_27 rfl (lv_at hl 1 rfl) ?_
        refine lv_iload_n hx hb d_Mo_in_28 rfl (lv_at hl 2 rfl) ?_
        refine lv_iload_n hx hb d_Mo_in_29 rfl (lv_at hl 3 rfl) ?_
        refine lv_iload hx hb d_Mo_in_30 (lv_at hl 4 rfl) ?_
        refine lv_iload hx hb d_Mo_in_32 (lv_at hl 5 rfl) ?_
        obtain ⟨w_20, h_19, h⟩ := ch_bind h
        try dsimp only at h
        refine ck_gov (wc := [(q_o_ins, .inl (cI, n_o_ins, .inl f_o_ins))]) (wr := [(q_o, .inr (7, [.int w_17, .ref q_o_memory, .ref q_o_program, .ref q_o_fresh, .int o_hasProgram, .int o_fault, .int o_place, .int o_told, .ref q_o_temporaries, .ref q_o_ins, .ref q_o_outs, .ref q_o_uniforms, .ref q_o_textures, .ref q_o_read, .ref q_o_result, .int o_killed, .ref q_o_left, .ref q_o_opening]))]) (w1 := [(q_o_ins, .inl (cI, n_o_ins, .inl w_20))]) (va_runV (As := [.ref q_o_ins, .int p1, .int p2, .int p3, .int p4, .int p5]) (rest := []) ⟨hx, hb, hml, hown, hts⟩ (k_Mo_set l dC dI cI cJ p1 p2 p3 p4 p5 n_o_ins f_o_ins q_o q_o_ins w_20 h_19 _) (cwV 6 hts (gw_V tw_859 tw_861 sw_408 tw_9 tw_862) rfl rfl rfl (by decide +kernel) ⟨Nat.le_of_ble_eq_true rfl, Nat.le_of_ble_eq_true rfl⟩) (ck_preV (wc := [(q_o_ins, .inl (cI, n_o_ins, .inl f_o_ins))]) hK hP hD hS hA hE 0 rfl rfl rfl [1] (by decide) rfl) rfl rfl hl.1 rfl (lv_room (Nat.le_of_ble_eq_true rfl)) d_Mo_in_34 ⟨Nat.le_of_ble_eq_true rfl, Nat.le_of_ble_eq_true rfl⟩) hP hD hS hA [1] [0] rfl rfl (by decide) (by decide) (fun H locs hP hD hS => ?_)
        have hP : va_P (dC, dI) vwCl [(q_o, .inr (7, [.int w_17, .ref q_o_memory, .ref q_o_program, .ref q_o_fresh, .int o_hasProgram, .int o_fault, .int o_place, .int o_told, .ref q_o_temporaries, .ref q_o_ins, .ref q_o_outs, .ref q_o_uniforms, .ref q_o_textures, .ref q_o_read, .ref q_o_result, .int o_killed, .ref q_o_left, .ref q_o_opening])), (q_o_ins, .inl (cI, n_o_ins, .inl w_20))] H := hP.sub [0, 1] rfl
        have hD : va_D A [(q_o, .inr (7, [.int w_17, .ref q_o_memory, .ref q_o_program, .ref q_o_fresh, .int o_hasProgram, .int o_fault, .int o_place, .int o_told, .ref q_o_temporaries, .ref q_o_ins, .ref q_o_outs, .ref q_o_uniforms, .ref q_o_textures, .ref q_o_read, .ref q_o_result, .int o_killed, .ref q_o_left, .ref q_o_opening])), (q_o_ins, .inl (cI, n_o_ins, .inl w_20))] := hD.sub [0, 1] (by decide) rfl
        cases h
        exact ck_vret hx hb hr hlk hK hP hD hS d_Mo_in_37
