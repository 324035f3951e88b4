def pf_Mo_steps_22 (fu : Nat) (n_p1 : Nat) (f_p1 : Nat → Int32) (K5 : Int32 → Int64 → Int32 → Option (Int64)) : Nat → Int32 → Int64 → Int32 → Int64 → Int32 → Option (Int64)
  | 0, _, _, _, _, _ => none
  | n + 1, x1, x2, x4, x5, x7 =>
    if x7 < 0 then
      K5 x1 (x2 + x5) (x4 + 1)
    else
      Option.bind (pf_Mo_numberOf x7 n_p1 f_p1) (fun r_6 => 
      Option.bind (pf_Mo_around fu x7 n_p1 f_p1) (fun r_8 => 
      pf_Mo_steps_22 fu n_p1 f_p1 K5 n x1 x2 x4 (x5 * r_6.toInt64) r_8))
def pf_Mo_steps_5 (fu : Nat) (n_p1 : Nat) (f_p1 : Nat → Int32) : Nat → Int32 → Int64 → Int32 → Option (Int64)
  | 0, _, _, _ => none
  | n + 1, x1, x2, x4 =>
    if x1 ≤ x4 then
      some x2
    else
      Option.bind (pf_Mo_around fu x4 n_p1 f_p1) (fun r_3 => 
      pf_Mo_steps_22 fu n_p1 f_p1 (pf_Mo_steps_5 fu n_p1 f_p1 n) fu x1 x2 x4 (1 : Int64) r_3)
def pf_Mo_steps (fu : Nat) (p2 : Int32) (n_p1 : Nat) (f_p1 : Nat → Int32) : Option (Int64) :=
  pf_Mo_steps_5 fu n_p1 f_p1 fu p2 (0 : Int64) (0 : Int32)
set_option maxHeartbeats 4000000 in
set_option maxRecDepth 100000 in
theorem k_Mo_steps (l : Launch) (dC : Nat → ClassId) (dI : Nat → Nat → Nat) (cI cJ : ClassId) (fu : Nat) (p2 : Int32) (n_p1 : Nat) (f_p1 : Nat → Int32) (q_p1 : Nat) (r : Int64) (h : pf_Mo_steps fu p2 n_p1 f_p1 = some r) : ck_l l y_Mo_steps wm_Mo_steps ({ frames := 2, cells := 0, slots := 0, locals := 44 } : Room) [.ref q_p1, .int p2] (dC, dI) [(cI, .int), (cJ, .long)] [(q_p1, .inl (cI, n_p1, .inl f_p1))] r [(q_p1, .inl (cI, n_p1, .inl f_p1))] := by
  refine ck_ofl (cc := c_Mo_steps) (maxL := 8) (ret := (some .long)) (by decide +kernel) rfl ?_
  intro p e s m below meth c A C0 hK hP hD hS hE
  obtain ⟨hx, hb, hr, hml, hown, hts, hlk, hA, hin⟩ := C0
  have w_5 : ∀ (n_5 : Nat) (x1 : Int32) (x2 : Int64) (x4 : Int32), pf_Mo_steps_5 fu n_p1 f_p1 n_5 x1 x2 x4 = some r → ∀ (H : Heap) (locs : List Loc), va_P (dC, dI) vwCl [(q_p1, .inl (cI, n_p1, .inl f_p1))] H → va_D A [(q_p1, .inl (cI, n_p1, .inl f_p1))] → va_S A s.heap H locs → ∀ ls : Array Slot, lv_has ls 8 [(0, .ref q_p1), (1, .int x1), (2, .long x2), (4, .int x4)] → W p l e ({ frames := 2, cells := 0, slots := 0, locals := 44 } : Room) s m ([.ref q_p1, .int p2] : List Value).toArray below meth c H locs 0 0 (ck_Ql below (dC, dI) [(cI, .int), (cJ, .long)] A ([.ref q_p1, .int p2] : List Value).toArray s r [(q_p1, .inl (cI, n_p1, .inl f_p1))]) (F0 m 5 ls []) := by
    intro n_5
    induction n_5 with
    | zero =>
      intro x1 x2 x4 h
      cases h
    | succ n_5 ih_5 =>
      have w_22 : ∀ (n_22 : Nat) (x1 : Int32) (x2 : Int64) (x4 : Int32) (x5 : Int64) (x7 : Int32), pf_Mo_steps_22 fu n_p1 f_p1 (pf_Mo_steps_5 fu n_p1 f_p1 n_5) n_22 x1 x2 x4 x5 x7 = some r → ∀ (H : Heap) (locs : List Loc), va_P (dC, dI) vwCl [(q_p1, .inl (cI, n_p1, .inl f_p1))] H → va_D A [(q_p1, .inl (cI, n_p1, .inl f_p1))] → va_S A s.heap H locs → ∀ ls : Array Slot, lv_has ls 8 [(0, .ref q_p1), (1, .int x1), (2, .long x2), (4, .int x4), (5, .long x5), (7, .int x7)] → W p l e ({ frames := 2, cells := 0, slots := 0, locals := 44 } : Room) s m ([.ref q_p1, .int p2] : List Value).toArray below meth c H locs 0 0 (ck_Ql below (dC, dI) [(cI, .int), (cJ, .long)] A ([.ref q_p1, .int p2] : List Value).toArray s r [(q_p1, .inl (cI, n_p1, .inl f_p1))]) (F0 m 22 ls []) := by
        intro n_22
        induction n_22 with
        | zero =>
          intro x1 x2 x4 x5 x7 h
          cases h
        | succ n_22 ih_22 =>
          intro x1 x2 x4 x5 x7 h H locs hP hD hS ls hl
          rw [pf_Mo_steps_22] at h
          refine lv_iload hx hb d_Mo_steps_22 (lv_at hl 5 rfl) ?_
          refine lv_if_lt (tgt := 50) hx hb d_Mo_steps_24 (by decide) (fun c_4 => ?_) (fun c_4 => ?_)
          · rw [if_pos c_4] at h
            refine lv_lload_n hx hb d_Mo_steps_50 rfl (lv_at hl 2 rfl) ?_
            refine lv_lload hx hb d_Mo_steps_51 (lv_at hl 4 rfl) ?_
            refine lv_ladd hx hb d_Mo_steps_53 ?_
            refine lv_lstore_n (lv' := [(2, .long (x2 + x5)), (0, .ref q_p1), (1, .int x1), (4, .int x4), (5, .long x5), (7, .int x7)]) hx hb d_Mo_steps_54 rfl hl (by decide) rfl (fun ls hl => ?_)
            refine lv_iinc (v := (x4 + 1)) (lv' := [(4, .int (x4 + 1)), (2, .long (x2 + x5)), (0, .ref q_p1), (1, .int x1), (5, .long x5), (7, .int x7)]) hx hb d_Mo_steps_55 hl (k := 3) rfl (by rfl) (by decide) rfl (fun ls hl => ?_)
            refine lv_goto (tgt := 5) hx hb d_Mo_steps_58 (by decide) ?_
            exact ih_5 x1 (x2 + x5) (x4 + 1) h _ _ hP hD hS _ (lv_sub hl [2, 3, 1, 0] rfl)
          · rw [if_neg c_4] at h
            refine lv_lload hx hb d_Mo_steps_27 (lv_at hl 4 rfl) ?_
            refine lv_aload_n hx hb d_Mo_steps_29 rfl (lv_at hl 0 rfl) ?_
            refine lv_iload hx hb d_Mo_steps_30 (lv_at hl 5 rfl) ?_
            obtain ⟨r_6, h_5, h⟩ := ch_bind h
            try dsimp only at h
            refine ck_goi (wc := [(q_p1, .inl (cI, n_p1, .inl f_p1))]) (wr := []) (w1 := [(q_p1, .inl (cI, n_p1, .inl f_p1))]) (va_runS (As := [.ref q_p1, .int x7]) (rest := [.long x5]) ⟨hx, hb, hml, hown, hts⟩ (k_Mo_numberOf l dC dI cI cJ x7 n_p1 f_p1 q_p1 r_6 h_5 _) (va_cwS 2 hts (gw_S tw_831 tw_832 tw_9 tw_833) rfl rfl rfl (by decide +kernel) ⟨Nat.le_of_ble_eq_true rfl, Nat.le_of_ble_eq_true rfl⟩) (ck_preS (wc := [(q_p1, .inl (cI, n_p1, .inl f_p1))]) hK hP hD hS hA hE [0] (by decide) rfl) rfl rfl hl.1 rfl (lv_room (Nat.le_of_ble_eq_true rfl)) d_Mo_steps_32 ⟨Nat.le_of_ble_eq_true rfl, Nat.le_of_ble_eq_true rfl⟩) hP hD hS hA [0] [] rfl rfl (by decide) (by decide) (fun H locs hP hD hS => ?_)
            have hP : va_P (dC, dI) vwCl [(q_p1, .inl (cI, n_p1, .inl f_p1))] H := hP.sub [0] rfl
            have hD : va_D A [(q_p1, .inl (cI, n_p1, .inl f_p1))] := hD.sub [0] (by decide) rfl
            refine lv_i2l hx hb d_Mo_steps_35 rfl ?_
            refine lv_lmul hx hb d_Mo_steps_36 ?_
            refine lv_lstore (lv' := [(5, .long (x5 * r_6.toInt64)), (0, .ref q_p1), (1, .int x1), (2, .long x2), (4, .int x4), (7, .int x7)]) hx hb d_Mo_steps_37 hl (by decide) rfl (fun ls hl => ?_)
            refine lv_aload_n hx hb d_Mo_steps_39 rfl (lv_at hl 1 rfl) ?_
            refine lv_iload hx hb d_Mo_steps_40 (lv_at hl 5 rfl) ?_
            obtain ⟨r_8, h_7, h⟩ := ch_bind h
            try dsimp only at h
            refine ck_goi (wc := [(q_p1, .inl (cI, n_p1, .inl f_p1))]) (wr := []) (w1 := [(q_p1, .inl (cI, n_p1, .inl f_p1))]) (va_runS (As := [.ref q_p1, .int x7]) (rest := []) ⟨hx, hb, hml, hown, hts⟩ (k_Mo_around l dC dI cI cJ fu x7 n_p1 f_p1 q_p1 r_8 h_7 _) (va_cwS 2 hts (gw_S tw_844 tw_845 tw_9 tw_846) rfl rfl rfl (by decide +kernel) ⟨Nat.le_of_ble_eq_true rfl, Nat.le_of_ble_eq_true rfl⟩) (ck_preS (wc := [(q_p1, .inl (cI, n_p1, .inl f_p1))]) hK hP hD hS hA hE [0] (by decide) rfl) rfl rfl hl.1 rfl (lv_room (Nat.le_of_ble_eq_true rfl)) d_Mo_steps_42 ⟨Nat.le_of_ble_eq_true rfl, Nat.le_of_ble_eq_true rfl⟩) hP hD hS hA [0] [] rfl rfl (by decide) (by decide) (fun H locs hP hD hS => ?_)
            have hP : va_P (dC, dI) vwCl [(q_p1, .inl (cI, n_p1, .inl f_p1))] H := hP.sub [0] rfl
            have hD : va_D A [(q_p1, .inl (cI, n_p1, .inl f_p1))] := hD.sub [0] (by decide) rfl
            refine lv_istore (lv' := [(7, .int r_8), (5, .long (x5 * r_6.toInt64)), (0, .ref q_p1), (1, .int x1), (2, .long x2), (4, .int x4)]) hx hb d_Mo_steps_45 hl (by decide) rfl (fun ls hl => ?_)
            refine lv_goto (tgt := 22) hx hb d_Mo_steps_47 (by decide) ?_
            exact ih_22 x1 x2 x4 (x5 * r_6.toInt64) r_8 h _ _ hP hD hS _ (lv_sub hl [2, 3, 4, 5, 1, 0] rfl)
      intro x1 x2 x4 h H locs hP hD hS ls hl
      rw [pf_Mo_steps_5] at h
      refine lv_iload hx hb d_Mo_steps_5 (lv_at hl 3 rfl) ?_
      refine lv_iload_n hx hb d_Mo_steps_7 rfl (lv_at hl 1 rfl) ?_
      refine lv_icmp_ge (tgt := 61) hx hb d_Mo_steps_8 (by decide) (fun c_1 => ?_) (fun c_1 => ?_)
      · rw [if_pos c_1] at h
        refine lv_lload_n hx hb d_Mo_steps_61 rfl (lv_at hl 2 rfl) ?_
        cases h
        exact ck_lret hx hb hr hlk hK hP hD hS d_Mo_steps_62
      · rw [if_neg c_1] at h
        refine lv_lconst (v := 1) hx hb d_Mo_steps_11 (by decide) ?_
        refine lv_lstore (lv' := [(5, .long (1 : Int64)), (0, .ref q_p1), (1, .int x1), (2, .long x2), (4, .int x4)]) hx hb d_Mo_steps_12 hl (by decide) rfl (fun ls hl => ?_)
        refine lv_aload_n hx hb d_Mo_steps_14 rfl (lv_at hl 1 rfl) ?_
        refine lv_iload hx hb d_Mo_steps_15 (lv_at hl 4 rfl) ?_
        obtain ⟨r_3, h_2, h⟩ := ch_bind h
        try dsimp only at h
        refine ck_goi (wc := [(q_p1, .inl (cI, n_p1, .inl f_p1))]) (wr := []) (w1 := [(q_p1, .inl (cI, n_p1, .inl f_p1))]) (va_runS (As := [.ref q_p1, .int x4]) (rest := []) ⟨hx, hb, hml, hown, hts⟩ (k_Mo_around l dC dI cI cJ fu x4 n_p1 f_p1 q_p1 r_3 h_2 _) (va_cwS 2 hts (gw_S tw_844 tw_845 tw_9 tw_846) rfl rfl rfl (by decide +kernel) ⟨Nat.le_of_ble_eq_true rfl, Nat.le_of_ble_eq_true rfl⟩) (ck_preS (wc := [(q_p1, .inl (cI, n_p1, .inl f_p1))]) hK hP hD hS hA hE [0] (by decide) rfl) rfl rfl hl.1 rfl (lv_room (Nat.le_of_ble_eq_true rfl)) d_Mo_steps_17 ⟨Nat.le_of_ble_eq_true rfl, Nat.le_of_ble_eq_true rfl⟩) hP hD hS hA [0] [] rfl rfl (by decide) (by decide) (fun H locs hP hD hS => ?_)
        have hP : va_P (dC, dI) vwCl [(q_p1, .inl (cI, n_p1, .inl f_p1))] H := hP.sub [0] rfl
        have hD : va_D A [(q_p1, .inl (cI, n_p1, .inl f_p1))] := hD.sub [0] (by decide) rfl
        refine lv_istore (lv' := [(7, .int r_3), (5, .long (1 : Int64)), (0, .ref q_p1), (1, .int x1), (2, .long x2), (4, .int x4)]) hx hb d_Mo_steps_20 hl (by decide) rfl (fun ls hl => ?_)
        exact w_22 fu x1 x2 x4 (1 : Int64) r_3 h _ _ hP hD hS _ (lv_sub hl [2, 3, 4, 5, 1, 0] rfl)
  unfold pf_Mo_steps at h
  have hl := lv_entry ([.ref q_p1, .int p2]) (n := 8) (Nat.le_of_ble_eq_true rfl)
  rw [lg_entry_eq]
  generalize (lg_sl ([.ref q_p1, .int p2]) ++ List.replicate (8 - (lg_sl ([.ref q_p1, .int p2])).length) Slot.unset).toArray = ls at hl ⊢
  have hl : lv_has ls 8 [(0, .ref q_p1), (1, .int p2)] := hl
  refine lv_lconst (v := 0) hx hb d_Mo_steps_0 (by decide) ?_
  refine lv_lstore_n (lv' := [(2, .long (0 : Int64)), (0, .ref q_p1), (1, .int p2)]) hx hb d_Mo_steps_1 rfl hl (by decide) rfl (fun ls hl => ?_)
  refine lv_iconst (v := 0) hx hb d_Mo_steps_2 (by decide) ?_
  refine lv_istore (lv' := [(4, .int (0 : Int32)), (2, .long (0 : Int64)), (0, .ref q_p1), (1, .int p2)]) hx hb d_Mo_steps_3 hl (by decide) rfl (fun ls hl => ?_)
  exact w_5 fu p2 (0 : Int64) (0 : Int32) h _ _ hP hD hS _ (lv_sub hl [2, 3, 1, 0] rfl)
def pf_Mo_no (p1 : Int32) (p2 : Int32) : Option (Int32 × Int32 × Int32) :=
  some (p1, p1, p2)
set_option maxHeartbeats 4000000 in
set_option maxRecDepth 100000 in
theorem k_Mo_no (l : Launch) (dC : Nat → ClassId) (dI : Nat → Nat → Nat) (cI cJ : ClassId) (p1 : Int32) (p2 : Int32) (o_thrown : Int32) (o_hasProgram : Int32) (o_fault : Int32) (o_place : Int32) (o_told : Int32) (o_killed : Int32) (q_o : Nat) (q_o_memory : Nat) (q_o_program : Nat) (q_o_fresh : Nat) (q_o_temporaries : Nat) (q_o_ins : Nat) (q_o_outs : Nat) (q_o_uniforms : Nat) (q_o_textures : Nat) (q_o_read : Nat) (q_o_result : Nat) (q_o_left : Nat) (q_o_opening : Nat) (r : Int32) (o_o_fault : Int32) (o_o_place : Int32) (h : pf_Mo_no p1 p2 = some (r, o_o_fault, o_o_place)) : ck_i l y_Mo_no wm_Mo_no ({ frames := 0, cells := 0, slots := 0, locals := 0 } : Room) [.ref q_o, .int p1, .int p2] (dC, dI) [(cI, .int), (cJ, .long)] [(q_o, .inr (7, [.int o_thrown, .ref q_o_memory, .ref q_o_program, .ref q_o_fresh, .int o_hasProgram, .int o_fault, .int o_place, .int o_told, .ref q_o_temporaries, .ref q_o_ins, .ref q_o_outs, .ref q_o_uniforms, .ref q_o_textures, .ref q_o_read, .ref q_o_result, .int o_killed, .ref q_o_left, .ref q_o_opening]))] r [(q_o, .inr (7, [.int o_thrown, .ref q_o_memory, .ref q_o_program, .ref q_o_fresh, .int o_hasProgram, .int o_o_fault, .int o_o_place, .int o_told, .ref q_o_temporaries, .ref q_o_ins, .ref q_o_outs, .ref q_o_uniforms, .ref q_o_textures, .ref q_o_read, .ref q_o_result, .int o_killed, .ref q_o_left, .ref q_o_opening]))] := by
  refine ck_ofi (cc := c_Mo_no) (maxL := 3) (ret := (some .int)) (by decide +kernel) rfl ?_
  intro p e s m below meth c A C0 hK hP hD hS hE
  obtain ⟨hx, hb, hr, hml, hown, hts, hlk, hA, hin⟩ := C0
  unfold pf_Mo_no at h
  have hl := lv_entry ([.ref q_o, .int p1, .int p2]) (n := 3) (Nat.le_of_ble_eq_true rfl)
  rw [lg_entry_eq]
  generalize (lg_sl ([.ref q_o, .int p1, .int p2]) ++ List.replicate (3 - (lg_sl ([.ref q_o, .int p1, .int p2])).length) Slot.unset).toArray = ls at hl ⊢
  have hl : lv_has ls 3 [(0, .ref q_o), (1, .int p1), (2, .int p2)] := hl
  refine lv_aload_n hx hb d_Mo_no_0 rfl (lv_at hl 0 rfl) ?_
  refine lv_iload_n hx hb d_Mo_no_1 rfl (lv_at hl 1 rfl) ?_
  refine va_put (D := (dC, dI)) (ci := 7) (v := .int p1) (ty := .int) (C := R_Mo) (T := T_Mo) (N := 18) hx hb hts (iw_Mo _) ty_Mo tk_Mo nd_Mo hown hK hP hD hS 0 rfl rfl 5 (by decide) (hts (.fieldLink R_Mo 94 "ShaderMachineModel" "fault" "I") (List.mem_cons_of_mem _ tw_733)) (fun _ h9 => h9) rfl (by decide +kernel) rfl rfl (Nat.le_of_ble_eq_true rfl) d_Mo_no_2 (fun H locs hP hD hS => ?_)
  have hP : va_P (dC, dI) vwCl [(q_o, .inr (7, [.int o_thrown, .ref q_o_memory, .ref q_o_program, .ref q_o_fresh, .int o_hasProgram, .int p1, .int o_place, .int o_told, .ref q_o_temporaries, .ref q_o_ins, .ref q_o_outs, .ref q_o_uniforms, .ref q_o_textures, .ref q_o_read, .ref q_o_result, .int o_killed, .ref q_o_left, .ref q_o_opening]))] H := hP
  have hD : va_D A [(q_o, .inr (7, [.int o_thrown, .ref q_o_memory, .ref q_o_program, .ref q_o_fresh, .int o_hasProgram, .int p1, .int o_place, .int o_told, .ref q_o_temporaries, .ref q_o_ins, .ref q_o_outs, .ref q_o_uniforms, .ref q_o_textures, .ref q_o_read, .ref q_o_result, .int o_killed, .ref q_o_left, .ref q_o_opening]))] := hD
  refine lv_aload_n hx hb d_Mo_no_5 rfl (lv_at hl 0 rfl) ?_
  refine lv_iload_n hx hb d_Mo_no_6 rfl (lv_at hl 2 rfl) ?_
  refine va_put (D := (dC, dI)) (ci := 7) (v := .int p2) (ty := .int) (C := R_Mo) (T := T_Mo) (N := 18) hx hb hts (iw_Mo _) ty_Mo tk_Mo nd_Mo hown hK hP hD hS 0 rfl rfl 6 (by decide) (hts (.fieldLink R_Mo 19 "ShaderMachineModel" "place" "I") (List.mem_cons_of_mem _ tw_734)) (fun _ h9 => h9) rfl (by decide +kernel) rfl rfl (Nat.le_of_ble_eq_true rfl) d_Mo_no_7 (fun H locs hP hD hS => ?_)
  have hP : va_P (dC, dI) vwCl [(q_o, .inr (7, [.int o_thrown, .ref q_o_memory, .ref q_o_program, .ref q_o_fresh, .int o_hasProgram, .int p1, .int p2, .int o_told, .ref q_o_temporaries, .ref q_o_ins, .ref q_o_outs, .ref q_o_uniforms, .ref q_o_textures, .ref q_o_read, .ref q_o_result, .int o_killed, .ref q_o_left, .ref q_o_opening]))] H := hP
  have hD : va_D A [(q_o, .inr (7, [.int o_thrown, .ref q_o_memory, .ref q_o_program, .ref q_o_fresh, .int o_hasProgram, .int p1, .int p2, .int o_told, .ref q_o_temporaries, .ref q_o_ins, .ref q_o_outs, .ref q_o_uniforms, .ref q_o_textures, .ref q_o_read, .ref q_o_result, .int o_killed, .ref q_o_left, .ref q_o_opening]))] := hD
  refine lv_iload_n hx hb d_Mo_no_10 rfl (lv_at hl 1 rfl) ?_
  cases h
  exact ck_iret hx hb hr hlk hK hP hD hS d_Mo_no_11
def pf_Mo_check_87 (fu : Nat) (n_p1 : Nat) (f_p1 : Nat → Int32) : Nat → Int32 → Int32 → Int32 → Int32 → Option (Int32 × Int32 × Int32)
  | 0, _, _, _, _ => none
  | n + 1, x2, x4, g_o_fault, g_o_place =>
    if x2 ≤ x4 then
      Option.bind (pf_Mo_steps fu x2 n_p1 f_p1) (fun r_22 => 
      if (lg_cmp r_22 (65536 : Int64)) ≤ 0 then
        Option.bind (pf_Mo_no (0 : Int32) (-1 : Int32)) (fun (r_25, w_26, w_27) => 
        some (r_25, w_26, w_27))
      else
        Option.bind (pf_Mo_no (8 : Int32) (-1 : Int32)) (fun (r_29, w_30, w_31) => 
        some (r_29, w_30, w_31)))
    else
      Option.bind (pf_Mo_kindOf x4 n_p1 f_p1) (fun r_33 => 
      if r_33 = (36 : Int32) then
        Option.bind (pf_Mo_around fu x4 n_p1 f_p1) (fun r_36 => 
        Option.bind (pf_Mo_numberOf x4 n_p1 f_p1) (fun r_38 => 
        Option.bind (pf_Mo_around fu r_38 n_p1 f_p1) (fun r_40 => 
        if r_36 = r_40 then
          pf_Mo_check_87 fu n_p1 f_p1 n x2 (x4 + 1) g_o_fault g_o_place
        else
          Option.bind (pf_Mo_no (5 : Int32) x4) (fun (r_43, w_44, w_45) => 
          some (r_43, w_44, w_45)))))
      else
        Option.bind (pf_Mo_kindOf x4 n_p1 f_p1) (fun r_47 => 
        if r_47 = (37 : Int32) then
          Option.bind (pf_Mo_around fu x4 n_p1 f_p1) (fun r_50 => 
          Option.bind (pf_Mo_numberOf x4 n_p1 f_p1) (fun r_52 => 
          Option.bind (pf_Mo_around fu r_52 n_p1 f_p1) (fun r_54 => 
          if r_50 = r_54 then
            pf_Mo_check_87 fu n_p1 f_p1 n x2 (x4 + 1) g_o_fault g_o_place
          else
            Option.bind (pf_Mo_no (5 : Int32) x4) (fun (r_57, w_58, w_59) => 
            some (r_57, w_58, w_59)))))
        else
          pf_Mo_check_87 fu n_p1 f_p1 n x2 (x4 + 1) g_o_fault g_o_place))
def pf_Mo_check_44 (fu : Nat) (n_p1 : Nat) (f_p1 : Nat → Int32) : Nat → Int32 → Int32 → Int32 → Int32 → Option (Int32 × Int32 × Int32)
  | 0, _, _, _, _ => none
  | n + 1, x2, x4, g_o_fault, g_o_place =>
    if x4 < 0 then
      pf_Mo_check_87 fu n_p1 f_p1 fu x2 (0 : Int32) g_o_fault g_o_place
    else
      Option.bind (pf_Mo_kindOf x4 n_p1 f_p1) (fun r_11 => 
      if r_11 = (34 : Int32) then
        Option.bind (pf_Mo_closing fu x4 x2 n_p1 f_p1) (fun r_14 => 
        if 0 ≤ r_14 then
          pf_Mo_check_44 fu n_p1 f_p1 n x2 (x4 + (-1)) g_o_fault g_o_place
        else
          Option.bind (pf_Mo_no (5 : Int32) x4) (fun (r_17, w_18, w_19) => 
          some (r_17, w_18, w_19)))
      else
        pf_Mo_check_44 fu n_p1 f_p1 n x2 (x4 + (-1)) g_o_fault g_o_place)
def pf_Mo_check_3 (fu : Nat) (n_p1 : Nat) (f_p1 : Nat → Int32) : Nat → Int32 → Int32 → Int32 → Int32 → Int32 → Option (Int32 × Int32 × Int32)
  | 0, _, _, _, _, _ => none
  | n + 1, x2, x3, x4, g_o_fault, g_o_place =>
    if x2 ≤ x4 then
      pf_Mo_check_44 fu n_p1 f_p1 fu x2 (x2 - (1 : Int32)) g_o_fault g_o_place
    else
      Option.bind (pf_Mo_faultOf fu x4 x2 x3 n_p1 f_p1) (fun r_3 => 
      if r_3 ≤ 0 then
        pf_Mo_check_3 fu n_p1 f_p1 n x2 x3 (x4 + 1) g_o_fault g_o_place
      else
        Option.bind (pf_Mo_no r_3 x4) (fun (r_6, w_7, w_8) => 
        some (r_6, w_7, w_8)))
def pf_Mo_check (fu : Nat) (p2 : Int32) (p3 : Int32) (n_p1 : Nat) (f_p1 : Nat → Int32) (o_fault : Int32) (o_place : Int32) : Option (Int32 × Int32 × Int32) :=
  pf_Mo_check_3 fu n_p1 f_p1 fu p2 p3 (0 : Int32) o_fault o_place
set_option maxHeartbeats 4000000 in
set_option maxRecDepth 100000 in
theorem k_Mo_check (l : Launch) (dC : Nat → ClassId) (dI : Nat → Nat → Nat) (cI cJ : ClassId) (fu : Nat) (p2 : Int32) (p3 : Int32) (n_p1 : Nat) (f_p1 : Nat → Int32) (o_thrown : Int32) (o_hasProgram : Int32) (o_fault : Int32) (o_place : Int32) (o_told : Int32) (o_killed : Int32) (q_o : Nat) (q_p1 : Nat) (q_o_memory : Nat) (q_o_program : Nat) (q_o_fresh : Nat) (q_o_temporaries : Nat) (q_o_ins : Nat) (q_o_outs : Nat) (q_o_uniforms : Nat) (q_o_textures : Nat) (q_o_read : Nat) (q_o_result : Nat) (q_o_left : Nat) (q_o_opening : Nat) (r : Int32) (o_o_fault : Int32) (o_o_place : Int32) (h : pf_Mo_check fu p2 p3 n_p1 f_p1 o_fault o_place = some (r, o_o_fault, o_o_place)) : ck_i l y_Mo_check wm_Mo_check ({ frames := 3, cells := 0, slots := 0, locals := 71 } : Room) [.ref q_o, .ref q_p1, .int p2, .int p3] (dC, dI) [(cI, .int), (cJ, .long)] [(q_p1, .inl (cI, n_p1, .inl f_p1)), (q_o, .inr (7, [.int o_thrown, .ref q_o_memory, .ref q_o_program, .ref q_o_fresh, .int o_hasProgram, .int o_fault, .int o_place, .int o_told, .ref q_o_temporaries, .ref q_o_ins, .ref q_o_outs, .ref q_o_uniforms, .ref q_o_textures, .ref q_o_read, .ref q_o_result, .int o_killed, .ref q_o_left, .ref q_o_opening]))] r [(q_p1, .inl (cI, n_p1, .inl f_p1)), (q_o, .inr (7, [.int o_thrown, .ref q_o_memory, .ref q_o_program, .ref q_o_fresh, .int o_hasProgram, .int o_o_fault, .int o_o_place, .int o_told, .ref q_o_temporaries, .ref q_o_ins, .ref q_o_outs, .ref q_o_uniforms, .ref q_o_textures, .ref q_o_read, .ref q_o_result, .int o_killed, .ref q_o_left, .ref q_o_opening]))] := by
  refine ck_ofi (cc := c_Mo_check) (maxL := 6) (ret := (some .int)) (by decide +kernel) rfl ?_
  intro p e s m below meth c A C0 hK hP hD hS hE
  obtain ⟨hx, hb, hr, hml, hown, hts, hlk, hA, hin⟩ := C0
  have w_87 : ∀ (n_87 : Nat) (x2 : Int32) (x4 : Int32) (g_o_fault : Int32) (g_o_place : Int32), pf_Mo_check_87 fu n_p1 f_p1 n_87 x2 x4 g_o_fault g_o_place = some (r, o_o_fault, o_o_place) → ∀ (H : Heap) (locs : List Loc), va_P (dC, dI) vwCl [(q_p1, .inl (cI, n_p1, .inl f_p1)), (q_o, .inr (7, [.int o_thrown, .ref q_o_memory, .ref q_o_program, .ref q_o_fresh, .int o_hasProgram, .int g_o_fault, .int g_o_place, .int o_told, .ref q_o_temporaries, .ref q_o_ins, .ref q_o_outs, .ref q_o_uniforms, .ref q_o_textures, .ref q_o_read, .ref q_o_result, .int o_killed, .ref q_o_left, .ref q_o_opening]))] H → va_D A [(q_p1, .inl (cI, n_p1, .inl f_p1)), (q_o, .inr (7, [.int o_thrown, .ref q_o_memory, .ref q_o_program, .ref q_o_fresh, .int o_hasProgram, .int g_o_fault, .int g_o_place, .int o_told, .ref q_o_temporaries, .ref q_o_ins, .ref q_o_outs, .ref q_o_uniforms, .ref q_o_textures, .ref q_o_read, .ref q_o_result, .int o_killed, .ref q_o_left, .ref q_o_opening]))] → va_S A s.heap H locs → ∀ ls : Array Slot, lv_has ls 6 [(0, .ref q_o), (1, .ref q_p1), (2, .int x2), (4, .int x4)] → W p l e ({ frames := 3, cells := 0, slots := 0, locals := 71 } : Room) s m ([.ref q_o, .ref q_p1, .int p2, .int p3] : List Value).toArray below meth c H locs 0 0 (ck_Qi below (dC, dI) [(cI, .int), (cJ, .long)] A ([.ref q_o, .ref q_p1, .int p2, .int p3] : List Value).toArray s r [(q_p1, .inl (cI, n_p1, .inl f_p1)), (q_o, .inr (7, [.int o_thrown, .ref q_o_memory, .ref q_o_program, .ref q_o_fresh, .int o_hasProgram, .int o_o_fault, .int o_o_place, .int o_told, .ref q_o_temporaries, .ref q_o_ins, .ref q_o_outs, .ref q_o_uniforms, .ref q_o_textures, .ref q_o_read, .ref q_o_result, .int o_killed, .ref q_o_left, .ref q_o_opening]))]) (F0 m 87 ls []) := by
    intro n_87
    induction n_87 with
    | zero =>
      intro x2 x4 g_o_fault g_o_place h
      cases h
    | succ n_87 ih_87 =>
      intro x2 x4 g_o_fault g_o_place h H locs hP hD hS ls hl
      rw [pf_Mo_check_87] at h
      refine lv_iload hx hb d_Mo_check_87 (lv_at hl 3 rfl) ?_
      refine lv_iload_n hx hb d_Mo_check_89 rfl (lv_at hl 2 rfl) ?_
      refine lv_icmp_ge (tgt := 160) hx hb d_Mo_check_90 (by decide) (fun c_20 => ?_) (fun c_20 => ?_)
      · rw [if_pos c_20] at h
        refine lv_aload_n hx hb d_Mo_check_160 rfl (lv_at hl 1 rfl) ?_
        refine lv_iload_n hx hb d_Mo_check_161 rfl (lv_at hl 2 rfl) ?_
        obtain ⟨r_22, h_21, h⟩ := ch_bind h
        try dsimp only at h
        refine ck_gol (wc := [(q_p1, .inl (cI, n_p1, .inl f_p1))]) (wr := [(q_o, .inr (7, [.int o_thrown, .ref q_o_memory, .ref q_o_program, .ref q_o_fresh, .int o_hasProgram, .int g_o_fault, .int g_o_place, .int o_told, .ref q_o_temporaries, .ref q_o_ins, .ref q_o_outs, .ref q_o_uniforms, .ref q_o_textures, .ref q_o_read, .ref q_o_result, .int o_killed, .ref q_o_left, .ref q_o_opening]))]) (w1 := [(q_p1, .inl (cI, n_p1, .inl f_p1))]) (va_runS (As := [.ref q_p1, .int x2]) (rest := []) ⟨hx, hb, hml, hown, hts⟩ (k_Mo_steps l dC dI cI cJ fu x2 n_p1 f_p1 q_p1 r_22 h_21 _) (va_cwS 2 hts (gw_S tw_847 tw_848 tw_9 tw_849) rfl rfl rfl (by decide +kernel) ⟨Nat.le_of_ble_eq_true rfl, Nat.le_of_ble_eq_true rfl⟩) (ck_preS (wc := [(q_p1, .inl (cI, n_p1, .inl f_p1))]) hK hP hD hS hA hE [0] (by decide) rfl) rfl rfl hl.1 rfl (lv_room (Nat.le_of_ble_eq_true rfl)) d_Mo_check_162 ⟨Nat.le_of_ble_eq_true rfl, Nat.le_of_ble_eq_true rfl⟩) hP hD hS hA [0] [1] rfl rfl (by decide) (by decide) (fun H locs hP hD hS => ?_)
        have hP : va_P (dC, dI) vwCl [(q_p1, .inl (cI, n_p1, .inl f_p1)), (q_o, .inr (7, [.int o_thrown, .ref q_o_memory, .ref q_o_program, .ref q_o_fresh, .int o_hasProgram, .int g_o_fault, .int g_o_place, .int o_told, .ref q_o_temporaries, .ref q_o_ins, .ref q_o_outs, .ref q_o_uniforms, .ref q_o_textures, .ref q_o_read, .ref q_o_result, .int o_killed, .ref q_o_left, .ref q_o_opening]))] H := hP.sub [1, 0] rfl
        have hD : va_D A [(q_p1, .inl (cI, n_p1, .inl f_p1)), (q_o, .inr (7, [.int o_thrown, .ref q_o_memory, .ref q_o_program, .ref q_o_fresh, .int o_hasProgram, .int g_o_fault, .int g_o_place, .int o_told, .ref q_o_temporaries, .ref q_o_ins, .ref q_o_outs, .ref q_o_uniforms, .ref q_o_textures, .ref q_o_read, .ref q_o_result, .int o_killed, .ref q_o_left, .ref q_o_opening]))] := hD.sub [1, 0] (by decide) rfl
        refine lv_ldc2 (v := 65536) hx hb hown (hts (.constantLong R_Mo 112 (65536)) (by decide +kernel)) d_Mo_check_165 ?_
        refine W.lcmp hx hb d_Mo_check_168 ?_
        refine lv_if_le (tgt := 182) hx hb d_Mo_check_169 (by decide) (fun c_23 => ?_) (fun c_23 => ?_)
        · rw [if_pos c_23] at h
          refine lv_aload_n hx hb d_Mo_check_182 rfl (lv_at hl 0 rfl) ?_
          refine lv_iconst (v := 0) hx hb d_Mo_check_183 (by decide) ?_
          refine lv_iconst (v := -1) hx hb d_Mo_check_184 (by decide) ?_
          obtain ⟨⟨r_25, w_26, w_27⟩, h_24, h⟩ := ch_bind h
          try dsimp only at h
          refine ck_goi (wc := [(q_o, .inr (7, [.int o_thrown, .ref q_o_memory, .ref q_o_program, .ref q_o_fresh, .int o_hasProgram, .int g_o_fault, .int g_o_place, .int o_told, .ref q_o_temporaries, .ref q_o_ins, .ref q_o_outs, .ref q_o_uniforms, .ref q_o_textures, .ref q_o_read, .ref q_o_result, .int o_killed, .ref q_o_left, .ref q_o_opening]))]) (wr := [(q_p1, .inl (cI, n_p1, .inl f_p1))]) (w1 := [(q_o, .inr (7, [.int o_thrown, .ref q_o_memory, .ref q_o_program, .ref q_o_fresh, .int o_hasProgram, .int w_26, .int w_27, .int o_told, .ref q_o_temporaries, .ref q_o_ins, .ref q_o_outs, .ref q_o_uniforms, .ref q_o_textures, .ref q_o_read, .ref q_o_result, .int o_killed, .ref q_o_left, .ref q_o_opening]))]) (va_runV (As := [.int (0 : Int32), .int (-1 : Int32)]) (rest := []) ⟨hx, hb, hml, hown, hts⟩ (k_Mo_no l dC dI cI cJ (0 : Int32) (-1 : Int32) o_thrown o_hasProgram g_o_fault g_o_place o_told o_killed q_o q_o_memory q_o_program q_o_fresh q_o_temporaries q_o_ins q_o_outs q_o_uniforms q_o_textures q_o_read q_o_result q_o_left q_o_opening r_25 w_26 w_27 h_24 _) (cwV 2 hts (gw_V tw_837 tw_839 sw_384 tw_9 tw_840) rfl rfl rfl (by decide +kernel) ⟨Nat.le_of_ble_eq_true rfl, Nat.le_of_ble_eq_true rfl⟩) (ck_preV (wc := [(q_o, .inr (7, [.int o_thrown, .ref q_o_memory, .ref q_o_program, .ref q_o_fresh, .int o_hasProgram, .int g_o_fault, .int g_o_place, .int o_told, .ref q_o_temporaries, .ref q_o_ins, .ref q_o_outs, .ref q_o_uniforms, .ref q_o_textures, .ref q_o_read, .ref q_o_result, .int o_killed, .ref q_o_left, .ref q_o_opening]))]) hK hP hD hS hA hE 1 rfl rfl rfl [1] (by decide) rfl) rfl rfl hl.1 rfl (lv_room (Nat.le_of_ble_eq_true rfl)) d_Mo_check_185 ⟨Nat.le_of_ble_eq_true rfl, Nat.le_of_ble_eq_true rfl⟩) hP hD hS hA [1] [0] rfl rfl (by decide) (by decide) (fun H locs hP hD hS => ?_)
          have hP : va_P (dC, dI) vwCl [(q_p1, .inl (cI, n_p1, .inl f_p1)), (q_o, .inr (7, [.int o_thrown, .ref q_o_memory, .ref q_o_program, .ref q_o_fresh, .int o_hasProgram, .int w_26, .int w_27, .int o_told, .ref q_o_temporaries, .ref q_o_ins, .ref q_o_outs, .ref q_o_uniforms, .ref q_o_textures, .ref q_o_read, .ref q_o_result, .int o_killed, .ref q_o_left, .ref q_o_opening]))] H := hP.sub [0, 1] rfl
          have hD : va_D A [(q_p1, .inl (cI, n_p1, .inl f_p1)), (q_o, .inr (7, [.int o_thrown, .ref q_o_memory, .ref q_o_program, .ref q_o_fresh, .int o_hasProgram, .int w_26, .int w_27, .int o_told, .ref q_o_temporaries, .ref q_o_ins, .ref q_o_outs, .ref q_o_uniforms, .ref q_o_textures, .ref q_o_read, .ref q_o_result, .int o_killed, .ref q_o_left, .ref q_o_opening]))] := hD.sub [0, 1] (by decide) rfl
          cases h
          exact ck_iret hx hb hr hlk hK hP hD hS d_Mo_check_188
        · rw [if_neg c_23] at h
          refine lv_aload_n hx hb d_Mo_check_172 rfl (lv_at hl 0 rfl) ?_
          refine lv_bipush (v := 8) hx hb d_Mo_check_173 (by decide) ?_
          refine lv_iconst (v := -1) hx hb d_Mo_check_175 (by decide) ?_
          obtain ⟨⟨r_29, w_30, w_31⟩, h_28, h⟩ := ch_bind h
          try dsimp only at h
          refine ck_goi (wc := [(q_o, .inr (7, [.int o_thrown, .ref q_o_memory, .ref q_o_program, .ref q_o_fresh, .int o_hasProgram, .int g_o_fault, .int g_o_place, .int o_told, .ref q_o_temporaries, .ref q_o_ins, .ref q_o_outs, .ref q_o_uniforms, .ref q_o_textures, .ref q_o_read, .ref q_o_result, .int o_killed, .ref q_o_left, .ref q_o_opening]))]) (wr := [(q_p1, .inl (cI, n_p1, .inl f_p1))]) (w1 := [(q_o, .inr (7, [.int o_thrown, .ref q_o_memory, .ref q_o_program, .ref q_o_fresh, .int o_hasProgram, .int w_30, .int w_31, .int o_told, .ref q_o_temporaries, .ref q_o_ins, .ref q_o_outs, .ref q_o_uniforms, .ref q_o_textures, .ref q_o_read, .ref q_o_result, .int o_killed, .ref q_o_left, .ref q_o_opening]))]) (va_runV (As := [.int (8 : Int32), .int (-1 : Int32)]) (rest := []) ⟨hx, hb, hml, hown, hts⟩ (k_Mo_no l dC dI cI cJ (8 : Int32) (-1 : Int32) o_thrown o_hasProgram g_o_fault g_o_place o_told o_killed q_o q_o_memory q_o_program q_o_fresh q_o_temporaries q_o_ins q_o_outs q_o_uniforms q_o_textures q_o_read q_o_result q_o_left q_o_opening r_29 w_30 w_31 h_28 _) (cwV 2 hts (gw_V tw_837 tw_839 sw_384 tw_9 tw_840) rfl rfl rfl (by decide +kernel) ⟨Nat.le_of_ble_eq_true rfl, Nat.le_of_ble_eq_true rfl⟩) (ck_preV (wc := [(q_o, .inr (7, [.int o_thrown, .ref q_o_memory, .ref q_o_program, .ref q_o_fresh, .int o_hasProgram, .int g_o_fault, .int g_o_place, .int o_told, .ref q_o_temporaries, .ref q_o_ins, .ref q_o_outs, .ref q_o_uniforms, .ref q_o_textures, .ref q_o_read, .ref q_o_result, .int o_killed, .ref q_o_left, .ref q_o_opening]))]) hK hP hD hS hA hE 1 rfl rfl rfl [1] (by decide) rfl) rfl rfl hl.1 rfl (lv_room (Nat.le_of_ble_eq_true rfl)) d_Mo_check_176 ⟨Nat.le_of_ble_eq_true rfl, Nat.le_of_ble_eq_true rfl⟩) hP hD hS hA [1] [0] rfl rfl (by decide) (by decide) (fun H locs hP hD hS => ?_)
          have hP : va_P (dC, dI) vwCl [(q_p1, .inl (cI, n_p1, .inl f_p1)), (q_o, .inr (7, [.int o_thrown, .ref q_o_memory, .ref q_o_program, .ref q_o_fresh, .int o_hasProgram, .int w_30, .int w_31, .int o_told, .ref q_o_temporaries, .ref q_o_ins, .ref q_o_outs, .ref q_o_uniforms, .ref q_o_textures, .ref q_o_read, .ref q_o_result, .int o_killed, .ref q_o_left, .ref q_o_opening]))] H := hP.sub [0, 1] rfl
          have hD : va_D A [(q_p1, .inl (cI, n_p1, .inl f_p1)), (q_o, .inr (7, [.int o_thrown, .ref q_o_memory, .ref q_o_program, .ref q_o_fresh, .int o_hasProgram, .int w_30, .int w_31, .int o_told, .ref q_o_temporaries, .ref q_o_ins, .ref q_o_outs, .ref q_o_uniforms, .ref q_o_textures, .ref q_o_read, .ref q_o_result, .int o_killed, .ref q_o_left, .ref q_o_opening]))] := hD.sub [0, 1] (by decide) rfl
          refine lv_goto (tgt := 188) hx hb d_Mo_check_179 (by decide) ?_
          cases h
          exact ck_iret hx hb hr hlk hK hP hD hS d_Mo_check_188
      · rw [if_neg c_20] at h
        refine lv_aload_n hx hb d_Mo_check_93 rfl (lv_at hl 1 rfl) ?_
        refine lv_iload hx hb d_Mo_check_94 (lv_at hl 3 rfl) ?_
        obtain ⟨r_33, h_32, h⟩ := ch_bind h
        try dsimp only at h
        refine ck_goi (wc := [(q_p1, .inl (cI, n_p1, .inl f_p1))]) (wr := [(q_o, .inr (7, [.int o_thrown, .ref q_o_memory, .ref q_o_program, .ref q_o_fresh, .int o_hasProgram, .int g_o_fault, .int g_o_place, .int o_told, .ref q_o_temporaries, .ref q_o_ins, .ref q_o_outs, .ref q_o_uniforms, .ref q_o_textures, .ref q_o_read, .ref q_o_result, .int o_killed, .ref q_o_left, .ref q_o_opening]))]) (w1 := [(q_p1, .inl (cI, n_p1, .inl f_p1))]) (va_runS (As := [.ref q_p1, .int x4]) (rest := []) ⟨hx, hb, hml, hown, hts⟩ (k_Mo_kindOf l dC dI cI cJ x4 n_p1 f_p1 q_p1 r_33 h_32 _) (va_cwS 2 hts (gw_S tw_806 tw_807 tw_9 tw_808) rfl rfl rfl (by decide +kernel) ⟨Nat.le_of_ble_eq_true rfl, Nat.le_of_ble_eq_true rfl⟩) (ck_preS (wc := [(q_p1, .inl (cI, n_p1, .inl f_p1))]) hK hP hD hS hA hE [0] (by decide) rfl) rfl rfl hl.1 rfl (lv_room (Nat.le_of_ble_eq_true rfl)) d_Mo_check_96 ⟨Nat.le_of_ble_eq_true rfl, Nat.le_of_ble_eq_true rfl⟩) hP hD hS hA [0] [1] rfl rfl (by decide) (by decide) (fun H locs hP hD hS => ?_)
        have hP : va_P (dC, dI) vwCl [(q_p1, .inl (cI, n_p1, .inl f_p1)), (q_o, .inr (7, [.int o_thrown, .ref q_o_memory, .ref q_o_program, .ref q_o_fresh, .int o_hasProgram, .int g_o_fault, .int g_o_place, .int o_told, .ref q_o_temporaries, .ref q_o_ins, .ref q_o_outs, .ref q_o_uniforms, .ref q_o_textures, .ref q_o_read, .ref q_o_result, .int o_killed, .ref q_o_left, .ref q_o_opening]))] H := hP.sub [1, 0] rfl
        have hD : va_D A [(q_p1, .inl (cI, n_p1, .inl f_p1)), (q_o, .inr (7, [.int o_thrown, .ref q_o_memory, .ref q_o_program, .ref q_o_fresh, .int o_hasProgram, .int g_o_fault, .int g_o_place, .int o_told, .ref q_o_temporaries, .ref q_o_ins, .ref q_o_outs, .ref q_o_uniforms, .ref q_o_textures, .ref q_o_read, .ref q_o_result, .int o_killed, .ref q_o_left, .ref q_o_opening]))] := hD.sub [1, 0] (by decide) rfl
        refine lv_bipush (v := 36) hx hb d_Mo_check_99 (by decide) ?_
        refine lv_icmp_eq (tgt := 115) hx hb d_Mo_check_101 (by decide) (fun c_34 => ?_) (fun c_34 => ?_)
        · rw [if_pos c_34] at h
          refine lv_iconst (v := 1) hx hb d_Mo_check_115 (by decide) ?_
          refine lv_goto (tgt := 120) hx hb d_Mo_check_116 (by decide) ?_
          refine lv_istore (lv' := [(5, .int (1 : Int32)), (0, .ref q_o), (1, .ref q_p1), (2, .int x2), (4, .int x4)]) hx hb d_Mo_check_120 hl (by decide) rfl (fun ls hl => ?_)
          refine lv_iload hx hb d_Mo_check_122 (lv_at hl 0 rfl) ?_
          refine lv_if_eq (tgt := 154) hx hb d_Mo_check_124 (by decide) (fun c9 => absurd c9 (by decide)) (fun _ => ?_)
          refine lv_aload_n hx hb d_Mo_check_127 rfl (lv_at hl 2 rfl) ?_
          refine lv_iload hx hb d_Mo_check_128 (lv_at hl 4 rfl) ?_
          obtain ⟨r_36, h_35, h⟩ := ch_bind h
          try dsimp only at h
          refine ck_goi (wc := [(q_p1, .inl (cI, n_p1, .inl f_p1))]) (wr := [(q_o, .inr (7, [.int o_thrown, .ref q_o_memory, .ref q_o_program, .ref q_o_fresh, .int o_hasProgram, .int g_o_fault, .int g_o_place, .int o_told, .ref q_o_temporaries, .ref q_o_ins, .ref q_o_outs, .ref q_o_uniforms, .ref q_o_textures, .ref q_o_read, .ref q_o_result, .int o_killed, .ref q_o_left, .ref q_o_opening]))]) (w1 := [(q_p1, .inl (cI, n_p1, .inl f_p1))]) (va_runS (As := [.ref q_p1, .int x4]) (rest := []) ⟨hx, hb, hml, hown, hts⟩ (k_Mo_around l dC dI cI cJ fu x4 n_p1 f_p1 q_p1 r_36 h_35 _) (va_cwS 2 hts (gw_S tw_844 tw_845 tw_9 tw_846) rfl rfl rfl (by decide +kernel) ⟨Nat.le_of_ble_eq_true rfl, Nat.le_of_ble_eq_true rfl⟩) (ck_preS (wc := [(q_p1, .inl (cI, n_p1, .inl f_p1))]) hK hP hD hS hA hE [0] (by decide) rfl) rfl rfl hl.1 rfl (lv_room (Nat.le_of_ble_eq_true rfl)) d_Mo_check_130 ⟨Nat.le_of_ble_eq_true rfl, Nat.le_of_ble_eq_true rfl⟩) hP hD hS hA [0] [1] rfl rfl (by decide) (by decide) (fun H locs hP hD hS => ?_)
          have hP : va_P (dC, dI) vwCl [(q_p1, .inl (cI, n_p1, .inl f_p1)), (q_o, .inr (7, [.int o_thrown, .ref q_o_memory, .ref q_o_program, .ref q_o_fresh, .int o_hasProgram, .int g_o_fault, .int g_o_place, .int o_told, .ref q_o_temporaries, .ref q_o_ins, .ref q_o_outs, .ref q_o_uniforms, .ref q_o_textures, .ref q_o_read, .ref q_o_result, .int o_killed, .ref q_o_left, .ref q_o_opening]))] H := hP.sub [1, 0] rfl
          have hD : va_D A [(q_p1, .inl (cI, n_p1, .inl f_p1)), (q_o, .inr (7, [.int o_thrown, .ref q_o_memory, .ref q_o_program, .ref q_o_fresh, .int o_hasProgram, .int g_o_fault, .int g_o_place, .int o_told, .ref q_o_temporaries, .ref q_o_ins, .ref q_o_outs, .ref q_o_uniforms, .ref q_o_textures, .ref q_o_read, .ref q_o_result, .int o_killed, .ref q_o_left, .ref q_o_opening]))] := hD.sub [1, 0] (by decide) rfl
          refine lv_aload_n hx hb d_Mo_check_133 rfl (lv_at hl 2 rfl) ?_
          refine lv_aload_n hx hb d_Mo_check_134 rfl (lv_at hl 2 rfl) ?_
          refine lv_iload hx hb d_Mo_check_135 (lv_at hl 4 rfl) ?_
          obtain ⟨r_38, h_37, h⟩ := ch_bind h
          try dsimp only at h
          refine ck_goi (wc := [(q_p1, .inl (cI, n_p1, .inl f_p1))]) (wr := [(q_o, .inr (7, [.int o_thrown, .ref q_o_memory, .ref q_o_program, .ref q_o_fresh, .int o_hasProgram, .int g_o_fault, .int g_o_place, .int o_told, .ref q_o_temporaries, .ref q_o_ins, .ref q_o_outs, .ref q_o_uniforms, .ref q_o_textures, .ref q_o_read, .ref q_o_result, .int o_killed, .ref q_o_left, .ref q_o_opening]))]) (w1 := [(q_p1, .inl (cI, n_p1, .inl f_p1))]) (va_runS (As := [.ref q_p1, .int x4]) (rest := [.ref q_p1, .int r_36]) ⟨hx, hb, hml, hown, hts⟩ (k_Mo_numberOf l dC dI cI cJ x4 n_p1 f_p1 q_p1 r_38 h_37 _) (va_cwS 2 hts (gw_S tw_831 tw_832 tw_9 tw_833) rfl rfl rfl (by decide +kernel) ⟨Nat.le_of_ble_eq_true rfl, Nat.le_of_ble_eq_true rfl⟩) (ck_preS (wc := [(q_p1, .inl (cI, n_p1, .inl f_p1))]) hK hP hD hS hA hE [0] (by decide) rfl) rfl rfl hl.1 rfl (lv_room (Nat.le_of_ble_eq_true rfl)) d_Mo_check_137 ⟨Nat.le_of_ble_eq_true rfl, Nat.le_of_ble_eq_true rfl⟩) hP hD hS hA [0] [1] rfl rfl (by decide) (by decide) (fun H locs hP hD hS => ?_)
          have hP : va_P (dC, dI) vwCl [(q_p1, .inl (cI, n_p1, .inl f_p1)), (q_o, .inr (7, [.int o_thrown, .ref q_o_memory, .ref q_o_program, .ref q_o_fresh, .int o_hasProgram, .int g_o_fault, .int g_o_place, .int o_told, .ref q_o_temporaries, .ref q_o_ins, .ref q_o_outs, .ref q_o_uniforms, .ref q_o_textures, .ref q_o_read, .ref q_o_result, .int o_killed, .ref q_o_left, .ref q_o_opening]))] H := hP.sub [1, 0] rfl
          have hD : va_D A [(q_p1, .inl (cI, n_p1, .inl f_p1)), (q_o, .inr (7, [.int o_thrown, .ref q_o_memory, .ref q_o_program, .ref q_o_fresh, .int o_hasProgram, .int g_o_fault, .int g_o_place, .int o_told, .ref q_o_temporaries, .ref q_o_ins, .ref q_o_outs, .ref q_o_uniforms, .ref q_o_textures, .ref q_o_read, .ref q_o_result, .int o_killed, .ref q_o_left, .ref q_o_opening]))] := hD.sub [1, 0] (by decide) rfl
          obtain ⟨r_40, h_39, h⟩ := ch_bind h
          try dsimp only at h
          refine ck_goi (wc := [(q_p1, .inl (cI, n_p1, .inl f_p1))]) (wr := [(q_o, .inr (7, [.int o_thrown, .ref q_o_memory, .ref q_o_program, .ref q_o_fresh, .int o_hasProgram, .int g_o_fault, .int g_o_place, .int o_told, .ref q_o_temporaries, .ref q_o_ins, .ref q_o_outs, .ref q_o_uniforms, .ref q_o_textures, .ref q_o_read, .ref q_o_result, .int o_killed, .ref q_o_left, .ref q_o_opening]))]) (w1 := [(q_p1, .inl (cI, n_p1, .inl f_p1))]) (va_runS (As := [.ref q_p1, .int r_38]) (rest := [.int r_36]) ⟨hx, hb, hml, hown, hts⟩ (k_Mo_around l dC dI cI cJ fu r_38 n_p1 f_p1 q_p1 r_40 h_39 _) (va_cwS 2 hts (gw_S tw_844 tw_845 tw_9 tw_846) rfl rfl rfl (by decide +kernel) ⟨Nat.le_of_ble_eq_true rfl, Nat.le_of_ble_eq_true rfl⟩) (ck_preS (wc := [(q_p1, .inl (cI, n_p1, .inl f_p1))]) hK hP hD hS hA hE [0] (by decide) rfl) rfl rfl hl.1 rfl (lv_room (Nat.le_of_ble_eq_true rfl)) d_Mo_check_140 ⟨Nat.le_of_ble_eq_true rfl, Nat.le_of_ble_eq_true rfl⟩) hP hD hS hA [0] [1] rfl rfl (by decide) (by decide) (fun H locs hP hD hS => ?_)
          have hP : va_P (dC, dI) vwCl [(q_p1, .inl (cI, n_p1, .inl f_p1)), (q_o, .inr (7, [.int o_thrown, .ref q_o_memory, .ref q_o_program, .ref q_o_fresh, .int o_hasProgram, .int g_o_fault, .int g_o_place, .int o_told, .ref q_o_temporaries, .ref q_o_ins, .ref q_o_outs, .ref q_o_uniforms, .ref q_o_textures, .ref q_o_read, .ref q_o_result, .int o_killed, .ref q_o_left, .ref q_o_opening]))] H := hP.sub [1, 0] rfl
          have hD : va_D A [(q_p1, .inl (cI, n_p1, .inl f_p1)), (q_o, .inr (7, [.int o_thrown, .ref q_o_memory, .ref q_o_program, .ref q_o_fresh, .int o_hasProgram, .int g_o_fault, .int g_o_place, .int o_told, .ref q_o_temporaries, .ref q_o_ins, .ref q_o_outs, .ref q_o_uniforms, .ref q_o_textures, .ref q_o_read, .ref q_o_result, .int o_killed, .ref q_o_left, .ref q_o_opening]))] := hD.sub [1, 0] (by decide) rfl
          refine lv_icmp_eq (tgt := 154) hx hb d_Mo_check_143 (by decide) (fun c_41 => ?_) (fun c_41 => ?_)
          · rw [if_pos c_41] at h
            refine lv_iinc (v := (x4 + 1)) (lv' := [(4, .int (x4 + 1)), (5, .int (1 : Int32)), (0, .ref q_o), (1, .ref q_p1), (2, .int x2)]) hx hb d_Mo_check_154 hl (k := 4) rfl (by rfl) (by decide) rfl (fun ls hl => ?_)
            refine lv_goto (tgt := 87) hx hb d_Mo_check_157 (by decide) ?_
            exact ih_87 x2 (x4 + 1) g_o_fault g_o_place h _ _ hP hD hS _ (lv_sub hl [2, 3, 4, 0] rfl)
          · rw [if_neg c_41] at h
            refine lv_aload_n hx hb d_Mo_check_146 rfl (lv_at hl 1 rfl) ?_
            refine lv_iconst (v := 5) hx hb d_Mo_check_147 (by decide) ?_
            refine lv_iload hx hb d_Mo_check_148 (lv_at hl 4 rfl) ?_
            obtain ⟨⟨r_43, w_44, w_45⟩, h_42, h⟩ := ch_bind h
            try dsimp only at h
            refine ck_goi (wc := [(q_o, .inr (7, [.int o_thrown, .ref q_o_memory, .ref q_o_program, .ref q_o_fresh, .int o_hasProgram, .int g_o_fault, .int g_o_place, .int o_told, .ref q_o_temporaries, .ref q_o_ins, .ref q_o_outs, .ref q_o_uniforms, .ref q_o_textures, .ref q_o_read, .ref q_o_result, .int o_killed, .ref q_o_left, .ref q_o_opening]))]) (wr := [(q_p1, .inl (cI, n_p1, .inl f_p1))]) (w1 := [(q_o, .inr (7, [.int o_thrown, .ref q_o_memory, .ref q_o_program, .ref q_o_fresh, .int o_hasProgram, .int w_44, .int w_45, .int o_told, .ref q_o_temporaries, .ref q_o_ins, .ref q_o_outs, .ref q_o_uniforms, .ref q_o_textures, .ref q_o_read, .ref q_o_result, .int o_killed, .ref q_o_left, .ref q_o_opening]))]) (va_runV (As := [.int (5 : Int32), .int x4]) (rest := []) ⟨hx, hb, hml, hown, hts⟩ (k_Mo_no l dC dI cI cJ (5 : Int32) x4 o_thrown o_hasProgram g_o_fault g_o_place o_told o_killed q_o q_o_memory q_o_program q_o_fresh q_o_temporaries q_o_ins q_o_outs q_o_uniforms q_o_textures q_o_read q_o_result q_o_left q_o_opening r_43 w_44 w_45 h_42 _) (cwV 2 hts (gw_V tw_837 tw_839 sw_384 tw_9 tw_840) rfl rfl rfl (by decide +kernel) ⟨Nat.le_of_ble_eq_true rfl, Nat.le_of_ble_eq_true rfl⟩) (ck_preV (wc := [(q_o, .inr (7, [.int o_thrown, .ref q_o_memory, .ref q_o_program, .ref q_o_fresh, .int o_hasProgram, .int g_o_fault, .int g_o_place, .int o_told, .ref q_o_temporaries, .ref q_o_ins, .ref q_o_outs, .ref q_o_uniforms, .ref q_o_textures, .ref q_o_read, .ref q_o_result, .int o_killed, .ref q_o_left, .ref q_o_opening]))]) hK hP hD hS hA hE 1 rfl rfl rfl [1] (by decide) rfl) rfl rfl hl.1 rfl (lv_room (Nat.le_of_ble_eq_true rfl)) d_Mo_check_150 ⟨Nat.le_of_ble_eq_true rfl, Nat.le_of_ble_eq_true rfl⟩) hP hD hS hA [1] [0] rfl rfl (by decide) (by decide) (fun H locs hP hD hS => ?_)
            have hP : va_P (dC, dI) vwCl [(q_p1, .inl (cI, n_p1, .inl f_p1)), (q_o, .inr (7, [.int o_thrown, .ref q_o_memory, .ref q_o_program, .ref q_o_fresh, .int o_hasProgram, .int w_44, .int w_45, .int o_told, .ref q_o_temporaries, .ref q_o_ins, .ref q_o_outs, .ref q_o_uniforms, .ref q_o_textures, .ref q_o_read, .ref q_o_result, .int o_killed, .ref q_o_left, .ref q_o_opening]))] H := hP.sub [0, 1] rfl
            have hD : va_D A [(q_p1, .inl (cI, n_p1, .inl f_p1)), (q_o, .inr (7, [.int o_thrown, .ref q_o_memory, .ref q_o_program, .ref q_o_fresh, .int o_hasProgram, .int w_44, .int w_45, .int o_told, .ref q_o_temporaries, .ref q_o_ins, .ref q_o_outs, .ref q_o_uniforms, .ref q_o_textures, .ref q_o_read, .ref q_o_result, .int o_killed, .ref q_o_left, .ref q_o_opening]))] := hD.sub [0, 1] (by decide) rfl
            cases h
            exact ck_iret hx hb hr hlk hK hP hD hS d_Mo_check_153
        · rw [if_neg c_34] at h
          refine lv_aload_n hx hb d_Mo_check_104 rfl (lv_at hl 1 rfl) ?_
          refine lv_iload hx hb d_Mo_check_105 (lv_at hl 3 rfl) ?_
          obtain ⟨r_47, h_46, h⟩ := ch_bind h
          try dsimp only at h
          refine ck_goi (wc := [(q_p1, .inl (cI, n_p1, .inl f_p1))]) (wr := [(q_o, .inr (7, [.int o_thrown, .ref q_o_memory, .ref q_o_program, .ref q_o_fresh, .int o_hasProgram, .int g_o_fault, .int g_o_place, .int o_told, .ref q_o_temporaries, .ref q_o_ins, .ref q_o_outs, .ref q_o_uniforms, .ref q_o_textures, .ref q_o_read, .ref q_o_result, .int o_killed, .ref q_o_left, .ref q_o_opening]))]) (w1 := [(q_p1, .inl (cI, n_p1, .inl f_p1))]) (va_runS (As := [.ref q_p1, .int x4]) (rest := []) ⟨hx, hb, hml, hown, hts⟩ (k_Mo_kindOf l dC dI cI cJ x4 n_p1 f_p1 q_p1 r_47 h_46 _) (va_cwS 2 hts (gw_S tw_806 tw_807 tw_9 tw_808) rfl rfl rfl (by decide +kernel) ⟨Nat.le_of_ble_eq_true rfl, Nat.le_of_ble_eq_true rfl⟩) (ck_preS (wc := [(q_p1, .inl (cI, n_p1, .inl f_p1))]) hK hP hD hS hA hE [0] (by decide) rfl) rfl rfl hl.1 rfl (lv_room (Nat.le_of_ble_eq_true rfl)) d_Mo_check_107 ⟨Nat.le_of_ble_eq_true rfl, Nat.le_of_ble_eq_true rfl⟩) hP hD hS hA [0] [1] rfl rfl (by decide) (by decide) (fun H locs hP hD hS => ?_)
          have hP : va_P (dC, dI) vwCl [(q_p1, .inl (cI, n_p1, .inl f_p1)), (q_o, .inr (7, [.int o_thrown, .ref q_o_memory, .ref q_o_program, .ref q_o_fresh, .int o_hasProgram, .int g_o_fault, .int g_o_place, .int o_told, .ref q_o_temporaries, .ref q_o_ins, .ref q_o_outs, .ref q_o_uniforms, .ref q_o_textures, .ref q_o_read, .ref q_o_result, .int o_killed, .ref q_o_left, .ref q_o_opening]))] H := hP.sub [1, 0] rfl
          have hD : va_D A [(q_p1, .inl (cI, n_p1, .inl f_p1)), (q_o, .inr (7, [.int o_thrown, .ref q_o_memory, .ref q_o_program, .ref q_o_fresh, .int o_hasProgram, .int g_o_fault, .int g_o_place, .int o_told, .ref q_o_temporaries, .ref q_o_ins, .ref q_o_outs, .ref q_o_uniforms, .ref q_o_textures, .ref q_o_read, .ref q_o_result, .int o_killed, .ref q_o_left, .ref q_o_opening]))] := hD.sub [1, 0] (by decide) rfl
          refine lv_bipush (v := 37) hx hb d_Mo_check_110 (by decide) ?_
          refine lv_icmp_ne (tgt := 119) hx hb d_Mo_check_112 (by decide) (fun c_48 => ?_) (fun c_48 => ?_)
          · rw [if_neg c_48] at h
            refine lv_iconst (v := 0) hx hb d_Mo_check_119 (by decide) ?_
            refine lv_istore (lv' := [(5, .int (0 : Int32)), (0, .ref q_o), (1, .ref q_p1), (2, .int x2), (4, .int x4)]) hx hb d_Mo_check_120 hl (by decide) rfl (fun ls hl => ?_)
            refine lv_iload hx hb d_Mo_check_122 (lv_at hl 0 rfl) ?_
            refine lv_if_eq (tgt := 154) hx hb d_Mo_check_124 (by decide) (fun _ => ?_) (fun c9 => absurd (by decide) c9)
            refine lv_iinc (v := (x4 + 1)) (lv' := [(4, .int (x4 + 1)), (5, .int (0 : Int32)), (0, .ref q_o), (1, .ref q_p1), (2, .int x2)]) hx hb d_Mo_check_154 hl (k := 4) rfl (by rfl) (by decide) rfl (fun ls hl => ?_)
            refine lv_goto (tgt := 87) hx hb d_Mo_check_157 (by decide) ?_
            exact ih_87 x2 (x4 + 1) g_o_fault g_o_place h _ _ hP hD hS _ (lv_sub hl [2, 3, 4, 0] rfl)
          · rw [if_pos c_48] at h
            refine lv_iconst (v := 1) hx hb d_Mo_check_115 (by decide) ?_
            refine lv_goto (tgt := 120) hx hb d_Mo_check_116 (by decide) ?_
            refine lv_istore (lv' := [(5, .int (1 : Int32)), (0, .ref q_o), (1, .ref q_p1), (2, .int x2), (4, .int x4)]) hx hb d_Mo_check_120 hl (by decide) rfl (fun ls hl => ?_)
            refine lv_iload hx hb d_Mo_check_122 (lv_at hl 0 rfl) ?_
            refine lv_if_eq (tgt := 154) hx hb d_Mo_check_124 (by decide) (fun c9 => absurd c9 (by decide)) (fun _ => ?_)
            refine lv_aload_n hx hb d_Mo_check_127 rfl (lv_at hl 2 rfl) ?_
            refine lv_iload hx hb d_Mo_check_128 (lv_at hl 4 rfl) ?_
            obtain ⟨r_50, h_49, h⟩ := ch_bind h
            try dsimp only at h
            refine ck_goi (wc := [(q_p1, .inl (cI, n_p1, .inl f_p1))]) (wr := [(q_o, .inr (7, [.int o_thrown, .ref q_o_memory, .ref q_o_program, .ref q_o_fresh, .int o_hasProgram, .int g_o_fault, .int g_o_place, .int o_told, .ref q_o_temporaries, .ref q_o_ins, .ref q_o_outs, .ref q_o_uniforms, .ref q_o_textures, .ref q_o_read, .ref q_o_result, .int o_killed, .ref q_o_left, .ref q_o_opening]))]) (w1 := [(q_p1, .inl (cI, n_p1, .inl f_p1))]) (va_runS (As := [.ref q_p1, .int x4]) (rest := []) ⟨hx, hb, hml, hown, hts⟩ (k_Mo_around l dC dI cI cJ fu x4 n_p1 f_p1 q_p1 r_50 h_49 _) (va_cwS 2 hts (gw_S tw_844 tw_845 tw_9 tw_846) rfl rfl rfl (by decide +kernel) ⟨Nat.le_of_ble_eq_true rfl, Nat.le_of_ble_eq_true rfl⟩) (ck_preS (wc := [(q_p1, .inl (cI, n_p1, .inl f_p1))]) hK hP hD hS hA hE [0] (by decide) rfl) rfl rfl hl.1 rfl (lv_room (Nat.le_of_ble_eq_true rfl)) d_Mo_check_130 ⟨Nat.le_of_ble_eq_true rfl, Nat.le_of_ble_eq_true rfl⟩) hP hD hS hA [0] [1] rfl rfl (by decide) (by decide) (fun H locs hP hD hS => ?_)
            have hP : va_P (dC, dI) vwCl [(q_p1, .inl (cI, n_p1, .inl f_p1)), (q_o, .inr (7, [.int o_thrown, .ref q_o_memory, .ref q_o_program, .ref q_o_fresh, .int o_hasProgram, .int g_o_fault, .int g_o_place, .int o_told, .ref q_o_temporaries, .ref q_o_ins, .ref q_o_outs, .ref q_o_uniforms, .ref q_o_textures, .ref q_o_read, .ref q_o_result, .int o_killed, .ref q_o_left, .ref q_o_opening]))] H := hP.sub [1, 0] rfl
            have hD : va_D A [(q_p1, .inl (cI, n_p1, .inl f_p1)), (q_o, .inr (7, [.int o_thrown, .ref q_o_memory, .ref q_o_program, .ref q_o_fresh, .int o_hasProgram, .int g_o_fault, .int g_o_place, .int o_told, .ref q_o_temporaries, .ref q_o_ins, .ref q_o_outs, .ref q_o_uniforms, .ref q_o_textures, .ref q_o_read, .ref q_o_result, .int o_killed, .ref q_o_left, .ref q_o_opening]))] := hD.sub [1, 0] (by decide) rfl
            refine lv_aload_n hx hb d_Mo_check_133 rfl (lv_at hl 2 rfl) ?_
            refine lv_aload_n hx hb d_Mo_check_134 rfl (lv_at hl 2 rfl) ?_
            refine lv_iload hx hb d_Mo_check_135 (lv_at hl 4 rfl) ?_
            obtain ⟨r_52, h_51, h⟩ := ch_bind h
            try dsimp only at h
            refine ck_goi (wc := [(q_p1, .inl (cI, n_p1, .inl f_p1))]) (wr := [(q_o, .inr (7, [.int o_thrown, .ref q_o_memory, .ref q_o_program, .ref q_o_fresh, .int o_hasProgram, .int g_o_fault, .int g_o_place, .int o_told, .ref q_o_temporaries, .ref q_o_ins, .ref q_o_outs, .ref q_o_uniforms, .ref q_o_textures, .ref q_o_read, .ref q_o_result, .int o_killed, .ref q_o_left, .ref q_o_opening]))]) (w1 := [(q_p1, .inl (cI, n_p1, .inl f_p1))]) (va_runS (As := [.ref q_p1, .int x4]) (rest := [.ref q_p1, .int r_50]) ⟨hx, hb, hml, hown, hts⟩ (k_Mo_numberOf l dC dI cI cJ x4 n_p1 f_p1 q_p1 r_52 h_51 _) (va_cwS 2 hts (gw_S tw_831 tw_832 tw_9 tw_833) rfl rfl rfl (by decide +kernel) ⟨Nat.le_of_ble_eq_true rfl, Nat.le_of_ble_eq_true rfl⟩) (ck_preS (wc := [(q_p1, .inl (cI, n_p1, .inl f_p1))]) hK hP hD hS hA hE [0] (by decide) rfl) rfl rfl hl.1 rfl (lv_room (Nat.le_of_ble_eq_true rfl)) d_Mo_check_137 ⟨Nat.le_of_ble_eq_true rfl, Nat.le_of_ble_eq_true rfl⟩) hP hD hS hA [0] [1] rfl rfl (by decide) (by decide) (fun H locs hP hD hS => ?_)
            have hP : va_P (dC, dI) vwCl [(q_p1, .inl (cI, n_p1, .inl f_p1)), (q_o, .inr (7, [.int o_thrown, .ref q_o_memory, .ref q_o_program, .ref q_o_fresh, .int o_hasProgram, .int g_o_fault, .int g_o_place, .int o_told, .ref q_o_temporaries, .ref q_o_ins, .ref q_o_outs, .ref q_o_uniforms, .ref q_o_textures, .ref q_o_read, .ref q_o_result, .int o_killed, .ref q_o_left, .ref q_o_opening]))] H := hP.sub [1, 0] rfl
            have hD : va_D A [(q_p1, .inl (cI, n_p1, .inl f_p1)), (q_o, .inr (7, [.int o_thrown, .ref q_o_memory, .ref q_o_program, .ref q_o_fresh, .int o_hasProgram, .int g_o_fault, .int g_o_place, .int o_told, .ref q_o_temporaries, .ref q_o_ins, .ref q_o_outs, .ref q_o_uniforms, .ref q_o_textures, .ref q_o_read, .ref q_o_result, .int o_killed, .ref q_o_left, .ref q_o_opening]))] := hD.sub [1, 0] (by decide) rfl
            obtain ⟨r_54, h_53, h⟩ := ch_bind h
            try dsimp only at h
            refine ck_goi (wc := [(q_p1, .inl (cI, n_p1, .inl f_p1))]) (wr := [(q_o, .inr (7, [.int o_thrown, .ref q_o_memory, .ref q_o_program, .ref q_o_fresh, .int o_hasProgram, .int g_o_fault, .int g_o_place, .int o_told, .ref q_o_temporaries, .ref q_o_ins, .ref q_o_outs, .ref q_o_uniforms, .ref q_o_textures, .ref q_o_read, .ref q_o_result, .int o_killed, .ref q_o_left, .ref q_o_opening]))]) (w1 := [(q_p1, .inl (cI, n_p1, .inl f_p1))]) (va_runS (As := [.ref q_p1, .int r_52]) (rest := [.int r_50]) ⟨hx, hb, hml, hown, hts⟩ (k_Mo_around l dC dI cI cJ fu r_52 n_p1 f_p1 q_p1 r_54 h_53 _) (va_cwS 2 hts (gw_S tw_844 tw_845 tw_9 tw_846) rfl rfl rfl (by decide +kernel) ⟨Nat.le_of_ble_eq_true rfl, Nat.le_of_ble_eq_true rfl⟩) (ck_preS (wc := [(q_p1, .inl (cI, n_p1, .inl f_p1))]) hK hP hD hS hA hE [0] (by decide) rfl) rfl rfl hl.1 rfl (lv_room (Nat.le_of_ble_eq_true rfl)) d_Mo_check_140 ⟨Nat.le_of_ble_eq_true rfl, Nat.le_of_ble_eq_true rfl⟩) hP hD hS hA [0] [1] rfl rfl (by decide) (by decide) (fun H locs hP hD hS => ?_)
            have hP : va_P (dC, dI) vwCl [(q_p1, .inl (cI, n_p1, .inl f_p1)), (q_o, .inr (7, [.int o_thrown, .ref q_o_memory, .ref q_o_program, .ref q_o_fresh, .int o_hasProgram, .int g_o_fault, .int g_o_place, .int o_told, .ref q_o_temporaries, .ref q_o_ins, .ref q_o_outs, .ref q_o_uniforms, .ref q_o_textures, .ref q_o_read, .ref q_o_result, .int o_killed, .ref q_o_left, .ref q_o_opening]))] H := hP.sub [1, 0] rfl
            have hD : va_D A [(q_p1, .inl (cI, n_p1, .inl f_p1)), (q_o, .inr (7, [.int o_thrown, .ref q_o_memory, .ref q_o_program, .ref q_o_fresh, .int o_hasProgram, .int g_o_fault, .int g_o_place, .int o_told, .ref q_o_temporaries, .ref q_o_ins, .ref q_o_outs, .ref q_o_uniforms, .ref q_o_textures, .ref q_o_read, .ref q_o_result, .int o_killed, .ref q_o_left, .ref q_o_opening]))] := hD.sub [1, 0] (by decide) rfl
            refine lv_icmp_eq (tgt := 154) hx hb d_Mo_check_143 (by decide) (fun c_55 => ?_) (fun c_55 => ?_)
            · rw [if_pos c_55] at h
              refine lv_iinc (v := (x4 + 1)) (lv' := [(4, .int (x4 + 1)), (5, .int (1 : Int32)), (0, .ref q_o), (1, .ref q_p1), (2, .int x2)]) hx hb d_Mo_check_154 hl (k := 4) rfl (by rfl) (by decide) rfl (fun ls hl => ?_)
              refine lv_goto (tgt := 87) hx hb d_Mo_check_157 (by decide) ?_
              exact ih_87 x2 (x4 + 1) g_o_fault g_o_place h _ _ hP hD hS _ (lv_sub hl [2, 3, 4, 0] rfl)
            · rw [if_neg c_55] at h
              refine lv_aload_n hx hb d_Mo_check_146 rfl (lv_at hl 1 rfl) ?_
              refine lv_iconst (v := 5) hx hb d_Mo_check_147 (by decide) ?_
              refine lv_iload hx hb d_Mo_check_148 (lv_at hl 4 rfl) ?_
              obtain ⟨⟨r_57, w_58, w_59⟩, h_56, h⟩ := ch_bind h
              try dsimp only at h
              refine ck_goi (wc := [(q_o, .inr (7, [.int o_thrown, .ref q_o_memory, .ref q_o_program, .ref q_o_fresh, .int o_hasProgram, .int g_o_fault, .int g_o_place, .int o_told, .ref q_o_temporaries, .ref q_o_ins, .ref q_o_outs, .ref q_o_uniforms, .ref q_o_textures, .ref q_o_read, .ref q_o_result, .int o_killed, .ref q_o_left, .ref q_o_opening]))]) (wr := [(q_p1, .inl (cI, n_p1, .inl f_p1))]) (w1 := [(q_o, .inr (7, [.int o_thrown, .ref q_o_memory, .ref q_o_program, .ref q_o_fresh, .int o_hasProgram, .int w_58, .int w_59, .int o_told, .ref q_o_temporaries, .ref q_o_ins, .ref q_o_outs, .ref q_o_uniforms, .ref q_o_textures, .ref q_o_read, .ref q_o_result, .int o_killed, .ref q_o_left, .ref q_o_opening]))]) (va_runV (As := [.int (5 : Int32), .int x4]) (rest := []) ⟨hx, hb, hml, hown, hts⟩ (k_Mo_no l dC dI cI cJ (5 : Int32) x4 o_thrown o_hasProgram g_o_fault g_o_place o_told o_killed q_o q_o_memory q_o_program q_o_fresh q_o_temporaries q_o_ins q_o_outs q_o_uniforms q_o_textures q_o_read q_o_result q_o_left q_o_opening r_57 w_58 w_59 h_56 _) (cwV 2 hts (gw_V tw_837 tw_839 sw_384 tw_9 tw_840) rfl rfl rfl (by decide +kernel) ⟨Nat.le_of_ble_eq_true rfl, Nat.le_of_ble_eq_true rfl⟩) (ck_preV (wc := [(q_o, .inr (7, [.int o_thrown, .ref q_o_memory, .ref q_o_program, .ref q_o_fresh, .int o_hasProgram, .int g_o_fault, .int g_o_place, .int o_told, .ref q_o_temporaries, .ref q_o_ins, .ref q_o_outs, .ref q_o_uniforms, .ref q_o_textures, .ref q_o_read, .ref q_o_result, .int o_killed, .ref q_o_left, .ref q_o_opening]))]) hK hP hD hS hA hE 1 rfl rfl rfl [1] (by decide) rfl) rfl rfl hl.1 rfl (lv_room (Nat.le_of_ble_eq_true rfl)) d_Mo_check_150 ⟨Nat.le_of_ble_eq_true rfl, Nat.le_of_ble_eq_true rfl⟩) hP hD hS hA [1] [0] rfl rfl (by decide) (by decide) (fun H locs hP hD hS => ?_)
              have hP : va_P (dC, dI) vwCl [(q_p1, .inl (cI, n_p1, .inl f_p1)), (q_o, .inr (7, [.int o_thrown, .ref q_o_memory, .ref q_o_program, .ref q_o_fresh, .int o_hasProgram, .int w_58, .int w_59, .int o_told, .ref q_o_temporaries, .ref q_o_ins, .ref q_o_outs, .ref q_o_uniforms, .ref q_o_textures, .ref q_o_read, .ref q_o_result, .int o_killed, .ref q_o_left, .ref q_o_opening]))] H := hP.sub [0, 1] rfl
              have hD : va_D A [(q_p1, .inl (cI, n_p1, .inl f_p1)), (q_o, .inr (7, [.int o_thrown, .ref q_o_memory, .ref q_o_program, .ref q_o_fresh, .int o_hasProgram, .int w_58, .int w_59, .int o_told, .ref q_o_temporaries, .ref q_o_ins, .ref q_o_outs, .ref q_o_uniforms, .ref q_o_textures, .ref q_o_read, .ref q_o_result, .int o_killed, .ref q_o_left, .ref q_o_opening]))] := hD.sub [0, 1] (by decide) rfl
              cases h
              exact ck_iret hx hb hr hlk hK hP hD hS d_Mo_check_153
  have w_44 : ∀ (n_44 : Nat) (x2 : Int32) (x4 : Int32) (g_o_fault : Int32) (g_o_place : Int32), pf_Mo_check_44 fu n_p1 f_p1 n_44 x2 x4 g_o_fault g_o_place = some (r, o_o_fault, o_o_place) → ∀ (H : Heap) (locs : List Loc), va_P (dC, dI) vwCl [(q_p1, .inl (cI, n_p1, .inl f_p1)), (q_o, .inr (7, [.int o_thrown, .ref q_o_memory, .ref q_o_program, .ref q_o_fresh, .int o_hasProgram, .int g_o_fault, .int g_o_place, .int o_told, .ref q_o_temporaries, .ref q_o_ins, .ref q_o_outs, .ref q_o_uniforms, .ref q_o_textures, .ref q_o_read, .ref q_o_result, .int o_killed, .ref q_o_left, .ref q_o_opening]))] H → va_D A [(q_p1, .inl (cI, n_p1, .inl f_p1)), (q_o, .inr (7, [.int o_thrown, .ref q_o_memory, .ref q_o_program, .ref q_o_fresh, .int o_hasProgram, .int g_o_fault, .int g_o_place, .int o_told, .ref q_o_temporaries, .ref q_o_ins, .ref q_o_outs, .ref q_o_uniforms, .ref q_o_textures, .ref q_o_read, .ref q_o_result, .int o_killed, .ref q_o_left, .ref q_o_opening]))] → va_S A s.heap H locs → ∀ ls : Array Slot, lv_has ls 6 [(0, .ref q_o), (1, .ref q_p1), (2, .int x2), (4, .int x4)] → W p l e ({ frames := 3, cells := 0, slots := 0, locals := 71 } : Room) s m ([.ref q_o, .ref q_p1, .int p2, .int p3] : List Value).toArray below meth c H locs 0 0 (ck_Qi below (dC, dI) [(cI, .int), (cJ, .long)] A ([.ref q_o, .ref q_p1, .int p2, .int p3] : List Value).toArray s r [(q_p1, .inl (cI, n_p1, .inl f_p1)), (q_o, .inr (7, [.int o_thrown, .ref q_o_memory, .ref q_o_program, .ref q_o_fresh, .int o_hasProgram, .int o_o_fault, .int o_o_place, .int o_told, .ref q_o_temporaries, .ref q_o_ins, .ref q_o_outs, .ref q_o_uniforms, .ref q_o_textures, .ref q_o_read, .ref q_o_result, .int o_killed, .ref q_o_left, .ref q_o_opening]))]) (F0 m 44 ls []) := by
    intro n_44
    induction n_44 with
    | zero =>
      intro x2 x4 g_o_fault g_o_place h
      cases h
    | succ n_44 ih_44 =>
      intro x2 x4 g_o_fault g_o_place h H locs hP hD hS ls hl
      rw [pf_Mo_check_44] at h
      refine lv_iload hx hb d_Mo_check_44 (lv_at hl 3 rfl) ?_
      refine lv_if_lt (tgt := 84) hx hb d_Mo_check_46 (by decide) (fun c_9 => ?_) (fun c_9 => ?_)
      · rw [if_pos c_9] at h
        refine lv_iconst (v := 0) hx hb d_Mo_check_84 (by decide) ?_
        refine lv_istore (lv' := [(4, .int (0 : Int32)), (0, .ref q_o), (1, .ref q_p1), (2, .int x2)]) hx hb d_Mo_check_85 hl (by decide) rfl (fun ls hl => ?_)
        exact w_87 fu x2 (0 : Int32) g_o_fault g_o_place h _ _ hP hD hS _ (lv_sub hl [1, 2, 3, 0] rfl)
      · rw [if_neg c_9] at h
        refine lv_aload_n hx hb d_Mo_check_49 rfl (lv_at hl 1 rfl) ?_
        refine lv_iload hx hb d_Mo_check_50 (lv_at hl 3 rfl) ?_
        obtain ⟨r_11, h_10, h⟩ := ch_bind h
        try dsimp only at h
        refine ck_goi (wc := [(q_p1, .inl (cI, n_p1, .inl f_p1))]) (wr := [(q_o, .inr (7, [.int o_thrown, .ref q_o_memory, .ref q_o_program, .ref q_o_fresh, .int o_hasProgram, .int g_o_fault, .int g_o_place, .int o_told, .ref q_o_temporaries, .ref q_o_ins, .ref q_o_outs, .ref q_o_uniforms, .ref q_o_textures, .ref q_o_read, .ref q_o_result, .int o_killed, .ref q_o_left, .ref q_o_opening]))]) (w1 := [(q_p1, .inl (cI, n_p1, .inl f_p1))]) (va_runS (As := [.ref q_p1, .int x4]) (rest := []) ⟨hx, hb, hml, hown, hts⟩ (k_Mo_kindOf l dC dI cI cJ x4 n_p1 f_p1 q_p1 r_11 h_10 _) (va_cwS 2 hts (gw_S tw_806 tw_807 tw_9 tw_808) rfl rfl rfl (by decide +kernel) ⟨Nat.le_of_ble_eq_true rfl, Nat.le_of_ble_eq_true rfl⟩) (ck_preS (wc := [(q_p1, .inl (cI, n_p1, .inl f_p1))]) hK hP hD hS hA hE [0] (by decide) rfl) rfl rfl hl.1 rfl (lv_room (Nat.le_of_ble_eq_true rfl)) d_Mo_check_52 ⟨Nat.le_of_ble_eq_true rfl, Nat.le_of_ble_eq_true rfl⟩) hP hD hS hA [0] [1] rfl rfl (by decide) (by decide) (fun H locs hP hD hS => ?_)
        have hP : va_P (dC, dI) vwCl [(q_p1, .inl (cI, n_p1, .inl f_p1)), (q_o, .inr (7, [.int o_thrown, .ref q_o_memory, .ref q_o_program, .ref q_o_fresh, .int o_hasProgram, .int g_o_fault, .int g_o_place, .int o_told, .ref q_o_temporaries, .ref q_o_ins, .ref q_o_outs, .ref q_o_uniforms, .ref q_o_textures, .ref q_o_read, .ref q_o_result, .int o_killed, .ref q_o_left, .ref q_o_opening]))] H := hP.sub [1, 0] rfl
        have hD : va_D A [(q_p1, .inl (cI, n_p1, .inl f_p1)), (q_o, .inr (7, [.int o_thrown, .ref q_o_memory, .ref q_o_program, .ref q_o_fresh, .int o_hasProgram, .int g_o_fault, .int g_o_place, .int o_told, .ref q_o_temporaries, .ref q_o_ins, .ref q_o_outs, .ref q_o_uniforms, .ref q_o_textures, .ref q_o_read, .ref q_o_result, .int o_killed, .ref q_o_left, .ref q_o_opening]))] := hD.sub [1, 0] (by decide) rfl
        refine lv_bipush (v := 34) hx hb d_Mo_check_55 (by decide) ?_
        refine lv_icmp_ne (tgt := 78) hx hb d_Mo_check_57 (by decide) (fun c_12 => ?_) (fun c_12 => ?_)
        · rw [if_neg c_12] at h
          refine lv_iinc (v := (x4 + (-1))) (lv' := [(4, .int (x4 + (-1))), (0, .ref q_o), (1, .ref q_p1), (2, .int x2)]) hx hb d_Mo_check_78 hl (k := 3) rfl (by rfl) (by decide) rfl (fun ls hl => ?_)
          refine lv_goto (tgt := 44) hx hb d_Mo_check_81 (by decide) ?_
          exact ih_44 x2 (x4 + (-1)) g_o_fault g_o_place h _ _ hP hD hS _ (lv_sub hl [1, 2, 3, 0] rfl)
        · rw [if_pos c_12] at h
          refine lv_aload_n hx hb d_Mo_check_60 rfl (lv_at hl 1 rfl) ?_
          refine lv_iload hx hb d_Mo_check_61 (lv_at hl 3 rfl) ?_
          refine lv_iload_n hx hb d_Mo_check_63 rfl (lv_at hl 2 rfl) ?_
          obtain ⟨r_14, h_13, h⟩ := ch_bind h
          try dsimp only at h
          refine ck_goi (wc := [(q_p1, .inl (cI, n_p1, .inl f_p1))]) (wr := [(q_o, .inr (7, [.int o_thrown, .ref q_o_memory, .ref q_o_program, .ref q_o_fresh, .int o_hasProgram, .int g_o_fault, .int g_o_place, .int o_told, .ref q_o_temporaries, .ref q_o_ins, .ref q_o_outs, .ref q_o_uniforms, .ref q_o_textures, .ref q_o_read, .ref q_o_result, .int o_killed, .ref q_o_left, .ref q_o_opening]))]) (w1 := [(q_p1, .inl (cI, n_p1, .inl f_p1))]) (va_runS (As := [.ref q_p1, .int x4, .int x2]) (rest := []) ⟨hx, hb, hml, hown, hts⟩ (k_Mo_closing l dC dI cI cJ fu x4 x2 n_p1 f_p1 q_p1 r_14 h_13 _) (va_cwS 3 hts (gw_S tw_841 tw_842 tw_9 tw_843) rfl rfl rfl (by decide +kernel) ⟨Nat.le_of_ble_eq_true rfl, Nat.le_of_ble_eq_true rfl⟩) (ck_preS (wc := [(q_p1, .inl (cI, n_p1, .inl f_p1))]) hK hP hD hS hA hE [0] (by decide) rfl) rfl rfl hl.1 rfl (lv_room (Nat.le_of_ble_eq_true rfl)) d_Mo_check_64 ⟨Nat.le_of_ble_eq_true rfl, Nat.le_of_ble_eq_true rfl⟩) hP hD hS hA [0] [1] rfl rfl (by decide) (by decide) (fun H locs hP hD hS => ?_)
          have hP : va_P (dC, dI) vwCl [(q_p1, .inl (cI, n_p1, .inl f_p1)), (q_o, .inr (7, [.int o_thrown, .ref q_o_memory, .ref q_o_program, .ref q_o_fresh, .int o_hasProgram, .int g_o_fault, .int g_o_place, .int o_told, .ref q_o_temporaries, .ref q_o_ins, .ref q_o_outs, .ref q_o_uniforms, .ref q_o_textures, .ref q_o_read, .ref q_o_result, .int o_killed, .ref q_o_left, .ref q_o_opening]))] H := hP.sub [1, 0] rfl
          have hD : va_D A [(q_p1, .inl (cI, n_p1, .inl f_p1)), (q_o, .inr (7, [.int o_thrown, .ref q_o_memory, .ref q_o_program, .ref q_o_fresh, .int o_hasProgram, .int g_o_fault, .int g_o_place, .int o_told, .ref q_o_temporaries, .ref q_o_ins, .ref q_o_outs, .ref q_o_uniforms, .ref q_o_textures, .ref q_o_read, .ref q_o_result, .int o_killed, .ref q_o_left, .ref q_o_opening]))] := hD.sub [1, 0] (by decide) rfl
          refine lv_if_ge (tgt := 78) hx hb d_Mo_check_67 (by decide) (fun c_15 => ?_) (fun c_15 => ?_)
          · rw [if_pos c_15] at h
            refine lv_iinc (v := (x4 + (-1))) (lv' := [(4, .int (x4 + (-1))), (0, .ref q_o), (1, .ref q_p1), (2, .int x2)]) hx hb d_Mo_check_78 hl (k := 3) rfl (by rfl) (by decide) rfl (fun ls hl => ?_)
            refine lv_goto (tgt := 44) hx hb d_Mo_check_81 (by decide) ?_
            exact ih_44 x2 (x4 + (-1)) g_o_fault g_o_place h _ _ hP hD hS _ (lv_sub hl [1, 2, 3, 0] rfl)
          · rw [if_neg c_15] at h
            refine lv_aload_n hx hb d_Mo_check_70 rfl (lv_at hl 0 rfl) ?_
            refine lv_iconst (v := 5) hx hb d_Mo_check_71 (by decide) ?_
            refine lv_iload hx hb d_Mo_check_72 (lv_at hl 3 rfl) ?_
            obtain ⟨⟨r_17, w_18, w_19⟩, h_16, h⟩ := ch_bind h
            try dsimp only at h
            refine ck_goi (wc := [(q_o, .inr (7, [.int o_thrown, .ref q_o_memory, .ref q_o_program, .ref q_o_fresh, .int o_hasProgram, .int g_o_fault, .int g_o_place, .int o_told, .ref q_o_temporaries, .ref q_o_ins, .ref q_o_outs, .ref q_o_uniforms, .ref q_o_textures, .ref q_o_read, .ref q_o_result, .int o_killed, .ref q_o_left, .ref q_o_opening]))]) (wr := [(q_p1, .inl (cI, n_p1, .inl f_p1))]) (w1 := [(q_o, .inr (7, [.int o_thrown, .ref q_o_memory, .ref q_o_program, .ref q_o_fresh, .int o_hasProgram, .int w_18, .int w_19, .int o_told, .ref q_o_temporaries, .ref q_o_ins, .ref q_o_outs, .ref q_o_uniforms, .ref q_o_textures, .ref q_o_read, .ref q_o_result, .int o_killed, .ref q_o_left, .ref q_o_opening]))]) (va_runV (As := [.int (5 : Int32), .int x4]) (rest := []) ⟨hx, hb, hml, hown, hts⟩ (k_Mo_no l dC dI cI cJ (5 : Int32) x4 o_thrown o_hasProgram g_o_fault g_o_place o_told o_killed q_o q_o_memory q_o_program q_o_fresh q_o_temporaries q_o_ins q_o_outs q_o_uniforms q_o_textures q_o_read q_o_result q_o_left q_o_opening r_17 w_18 w_19 h_16 _) (cwV 2 hts (gw_V tw_837 tw_839 sw_384 tw_9 tw_840) rfl rfl rfl (by decide +kernel) ⟨Nat.le_of_ble_eq_true rfl, Nat.le_of_ble_eq_true rfl⟩) (ck_preV (wc := [(q_o, .inr (7, [.int o_thrown, .ref q_o_memory, .ref q_o_program, .ref q_o_fresh, .int o_hasProgram, .int g_o_fault, .int g_o_place, .int o_told, .ref q_o_temporaries, .ref q_o_ins, .ref q_o_outs, .ref q_o_uniforms, .ref q_o_textures, .ref q_o_read, .ref q_o_result, .int o_killed, .ref q_o_left, .ref q_o_opening]))]) hK hP hD hS hA hE 1 rfl rfl rfl [1] (by decide) rfl) rfl rfl hl.1 rfl (lv_room (Nat.le_of_ble_eq_true rfl)) d_Mo_check_74 ⟨Nat.le_of_ble_eq_true rfl, Nat.le_of_ble_eq_true rfl⟩) hP hD hS hA [1] [0] rfl rfl (by decide) (by decide) (fun H locs hP hD hS => ?_)
            have hP : va_P (dC, dI) vwCl [(q_p1, .inl (cI, n_p1, .inl f_p1)), (q_o, .inr (7, [.int o_thrown, .ref q_o_memory, .ref q_o_program, .ref q_o_fresh, .int o_hasProgram, .int w_18, .int w_19, .int o_told, .ref q_o_temporaries, .ref q_o_ins, .ref q_o_outs, .ref q_o_uniforms, .ref q_o_textures, .ref q_o_read, .ref q_o_result, .int o_killed, .ref q_o_left, .ref q_o_opening]))] H := hP.sub [0, 1] rfl
            have hD : va_D A [(q_p1, .inl (cI, n_p1, .inl f_p1)), (q_o, .inr (7, [.int o_thrown, .ref q_o_memory, .ref q_o_program, .ref q_o_fresh, .int o_hasProgram, .int w_18, .int w_19, .int o_told, .ref q_o_temporaries, .ref q_o_ins, .ref q_o_outs, .ref q_o_uniforms, .ref q_o_textures, .ref q_o_read, .ref q_o_result, .int o_killed, .ref q_o_left, .ref q_o_opening]))] := hD.sub [0, 1] (by decide) rfl
            cases h
            exact ck_iret hx hb hr hlk hK hP hD hS d_Mo_check_77
  have w_3 : ∀ (n_3 : Nat) (x2 : Int32) (x3 : Int32) (x4 : Int32) (g_o_fault : Int32) (g_o_place : Int32), pf_Mo_check_3 fu n_p1 f_p1 n_3 x2 x3 x4 g_o_fault g_o_place = some (r, o_o_fault, o_o_place) → ∀ (H : Heap) (locs : List Loc), va_P (dC, dI) vwCl [(q_p1, .inl (cI, n_p1, .inl f_p1)), (q_o, .inr (7, [.int o_thrown, .ref q_o_memory, .ref q_o_program, .ref q_o_fresh, .int o_hasProgram, .int g_o_fault, .int g_o_place, .int o_told, .ref q_o_temporaries, .ref q_o_ins, .ref q_o_outs, .ref q_o_uniforms, .ref q_o_textures, .ref q_o_read, .ref q_o_result, .int o_killed, .ref q_o_left, .ref q_o_opening]))] H → va_D A [(q_p1, .inl (cI, n_p1, .inl f_p1)), (q_o, .inr (7, [.int o_thrown, .ref q_o_memory, .ref q_o_program, .ref q_o_fresh, .int o_hasProgram, .int g_o_fault, .int g_o_place, .int o_told, .ref q_o_temporaries, .ref q_o_ins, .ref q_o_outs, .ref q_o_uniforms, .ref q_o_textures, .ref q_o_read, .ref q_o_result, .int o_killed, .ref q_o_left, .ref q_o_opening]))] → va_S A s.heap H locs → ∀ ls : Array Slot, lv_has ls 6 [(0, .ref q_o), (1, .ref q_p1), (2, .int x2), (3, .int x3), (4, .int x4)] → W p l e ({ frames := 3, cells := 0, slots := 0, locals := 71 } : Room) s m ([.ref q_o, .ref q_p1, .int p2, .int p3] : List Value).toArray below meth c H locs 0 0 (ck_Qi below (dC, dI) [(cI, .int), (cJ, .long)] A ([.ref q_o, .ref q_p1, .int p2, .int p3] : List Value).toArray s r [(q_p1, .inl (cI, n_p1, .inl f_p1)), (q_o, .inr (7, [.int o_thrown, .ref q_o_memory, .ref q_o_program, .ref q_o_fresh, .int o_hasProgram, .int o_o_fault, .int o_o_place, .int o_told, .ref q_o_temporaries, .ref q_o_ins, .ref q_o_outs, .ref q_o_uniforms, .ref q_o_textures, .ref q_o_read, .ref q_o_result, .int o_killed, .ref q_o_left, .ref q_o_opening]))]) (F0 m 3 ls []) := by
    intro n_3
    induction n_3 with
    | zero =>
      intro x2 x3 x4 g_o_fault g_o_place h
      cases h
    | succ n_3 ih_3 =>
      intro x2 x3 x4 g_o_fault g_o_place h H locs hP hD hS ls hl
      rw [pf_Mo_check_3] at h
      refine lv_iload hx hb d_Mo_check_3 (lv_at hl 4 rfl) ?_
      refine lv_iload_n hx hb d_Mo_check_5 rfl (lv_at hl 2 rfl) ?_
      refine lv_icmp_ge (tgt := 39) hx hb d_Mo_check_6 (by decide) (fun c_1 => ?_) (fun c_1 => ?_)
      · rw [if_pos c_1] at h
        refine lv_iload_n hx hb d_Mo_check_39 rfl (lv_at hl 2 rfl) ?_
        refine lv_iconst (v := 1) hx hb d_Mo_check_40 (by decide) ?_
        refine lv_isub hx hb d_Mo_check_41 ?_
        refine lv_istore (lv' := [(4, .int (x2 - (1 : Int32))), (0, .ref q_o), (1, .ref q_p1), (2, .int x2), (3, .int x3)]) hx hb d_Mo_check_42 hl (by decide) rfl (fun ls hl => ?_)
        exact w_44 fu x2 (x2 - (1 : Int32)) g_o_fault g_o_place h _ _ hP hD hS _ (lv_sub hl [1, 2, 3, 0] rfl)
      · rw [if_neg c_1] at h
        refine lv_aload_n hx hb d_Mo_check_9 rfl (lv_at hl 1 rfl) ?_
        refine lv_iload hx hb d_Mo_check_10 (lv_at hl 4 rfl) ?_
        refine lv_iload_n hx hb d_Mo_check_12 rfl (lv_at hl 2 rfl) ?_
        refine lv_iload_n hx hb d_Mo_check_13 rfl (lv_at hl 3 rfl) ?_
        obtain ⟨r_3, h_2, h⟩ := ch_bind h
        try dsimp only at h
        refine ck_goi (wc := [(q_p1, .inl (cI, n_p1, .inl f_p1))]) (wr := [(q_o, .inr (7, [.int o_thrown, .ref q_o_memory, .ref q_o_program, .ref q_o_fresh, .int o_hasProgram, .int g_o_fault, .int g_o_place, .int o_told, .ref q_o_temporaries, .ref q_o_ins, .ref q_o_outs, .ref q_o_uniforms, .ref q_o_textures, .ref q_o_read, .ref q_o_result, .int o_killed, .ref q_o_left, .ref q_o_opening]))]) (w1 := [(q_p1, .inl (cI, n_p1, .inl f_p1))]) (va_runS (As := [.ref q_p1, .int x4, .int x2, .int x3]) (rest := []) ⟨hx, hb, hml, hown, hts⟩ (k_Mo_faultOf l dC dI cI cJ fu x4 x2 x3 n_p1 f_p1 q_p1 r_3 h_2 _) (va_cwS 4 hts (gw_S tw_803 tw_804 tw_9 tw_805) rfl rfl rfl (by decide +kernel) ⟨Nat.le_of_ble_eq_true rfl, Nat.le_of_ble_eq_true rfl⟩) (ck_preS (wc := [(q_p1, .inl (cI, n_p1, .inl f_p1))]) hK hP hD hS hA hE [0] (by decide) rfl) rfl rfl hl.1 rfl (lv_room (Nat.le_of_ble_eq_true rfl)) d_Mo_check_14 ⟨Nat.le_of_ble_eq_true rfl, Nat.le_of_ble_eq_true rfl⟩) hP hD hS hA [0] [1] rfl rfl (by decide) (by decide) (fun H locs hP hD hS => ?_)
        have hP : va_P (dC, dI) vwCl [(q_p1, .inl (cI, n_p1, .inl f_p1)), (q_o, .inr (7, [.int o_thrown, .ref q_o_memory, .ref q_o_program, .ref q_o_fresh, .int o_hasProgram, .int g_o_fault, .int g_o_place, .int o_told, .ref q_o_temporaries, .ref q_o_ins, .ref q_o_outs, .ref q_o_uniforms, .ref q_o_textures, .ref q_o_read, .ref q_o_result, .int o_killed, .ref q_o_left, .ref q_o_opening]))] H := hP.sub [1, 0] rfl
        have hD : va_D A [(q_p1, .inl (cI, n_p1, .inl f_p1)), (q_o, .inr (7, [.int o_thrown, .ref q_o_memory, .ref q_o_program, .ref q_o_fresh, .int o_hasProgram, .int g_o_fault, .int g_o_place, .int o_told, .ref q_o_temporaries, .ref q_o_ins, .ref q_o_outs, .ref q_o_uniforms, .ref q_o_textures, .ref q_o_read, .ref q_o_result, .int o_killed, .ref q_o_left, .ref q_o_opening]))] := hD.sub [1, 0] (by decide) rfl
        refine lv_istore (lv' := [(5, .int r_3), (0, .ref q_o), (1, .ref q_p1), (2, .int x2), (3, .int x3), (4, .int x4)]) hx hb d_Mo_check_17 hl (by decide) rfl (fun ls hl => ?_)
        refine lv_iload hx hb d_Mo_check_19 (lv_at hl 0 rfl) ?_
        refine lv_if_le (tgt := 33) hx hb d_Mo_check_21 (by decide) (fun c_4 => ?_) (fun c_4 => ?_)
        · rw [if_pos c_4] at h
          refine lv_iinc (v := (x4 + 1)) (lv' := [(4, .int (x4 + 1)), (5, .int r_3), (0, .ref q_o), (1, .ref q_p1), (2, .int x2), (3, .int x3)]) hx hb d_Mo_check_33 hl (k := 5) rfl (by rfl) (by decide) rfl (fun ls hl => ?_)
          refine lv_goto (tgt := 3) hx hb d_Mo_check_36 (by decide) ?_
          exact ih_3 x2 x3 (x4 + 1) g_o_fault g_o_place h _ _ hP hD hS _ (lv_sub hl [2, 3, 4, 5, 0] rfl)
        · rw [if_neg c_4] at h
          refine lv_aload_n hx hb d_Mo_check_24 rfl (lv_at hl 1 rfl) ?_
          refine lv_iload hx hb d_Mo_check_25 (lv_at hl 0 rfl) ?_
          refine lv_iload hx hb d_Mo_check_27 (lv_at hl 5 rfl) ?_
          obtain ⟨⟨r_6, w_7, w_8⟩, h_5, h⟩ := ch_bind h
          try dsimp only at h
          refine ck_goi (wc := [(q_o, .inr (7, [.int o_thrown, .ref q_o_memory, .ref q_o_program, .ref q_o_fresh, .int o_hasProgram, .int g_o_fault, .int g_o_place, .int o_told, .ref q_o_temporaries, .ref q_o_ins, .ref q_o_outs, .ref q_o_uniforms, .ref q_o_textures, .ref q_o_read, .ref q_o_result, .int o_killed, .ref q_o_left, .ref q_o_opening]))]) (wr := [(q_p1, .inl (cI, n_p1, .inl f_p1))]) (w1 := [(q_o, .inr (7, [.int o_thrown, .ref q_o_memory, .ref q_o_program, .ref q_o_fresh, .int o_hasProgram, .int w_7, .int w_8, .int o_told, .ref q_o_temporaries, .ref q_o_ins, .ref q_o_outs, .ref q_o_uniforms, .ref q_o_textures, .ref q_o_read, .ref q_o_result, .int o_killed, .ref q_o_left, .ref q_o_opening]))]) (va_runV (As := [.int r_3, .int x4]) (rest := []) ⟨hx, hb, hml, hown, hts⟩ (k_Mo_no l dC dI cI cJ r_3 x4 o_thrown o_hasProgram g_o_fault g_o_place o_told o_killed q_o q_o_memory q_o_program q_o_fresh q_o_temporaries q_o_ins q_o_outs q_o_uniforms q_o_textures q_o_read q_o_result q_o_left q_o_opening r_6 w_7 w_8 h_5 _) (cwV 2 hts (gw_V tw_837 tw_839 sw_384 tw_9 tw_840) rfl rfl rfl (by decide +kernel) ⟨Nat.le_of_ble_eq_true rfl, Nat.le_of_ble_eq_true rfl⟩) (ck_preV (wc := [(q_o, .inr (7, [.int o_thrown, .ref q_o_memory, .ref q_o_program, .ref q_o_fresh, .int o_hasProgram, .int g_o_fault, .int g_o_place, .int o_told, .ref q_o_temporaries, .ref q_o_ins, .ref q_o_outs, .ref q_o_uniforms, .ref q_o_textures, .ref q_o_read, .ref q_o_result, .int o_killed, .ref q_o_left, .ref q_o_opening]))]) hK hP hD hS hA hE 1 rfl rfl rfl [1] (by decide) rfl) rfl rfl hl.1 rfl (lv_room (Nat.le_of_ble_eq_true rfl)) d_Mo_check_29 ⟨Nat.le_of_ble_eq_true rfl, Nat.le_of_ble_eq_true rfl⟩) hP hD hS hA [1] [0] rfl rfl (by decide) (by decide) (fun H locs hP hD hS => ?_)
          have hP : va_P (dC, dI) vwCl [(q_p1, .inl (cI, n_p1, .inl f_p1)), (q_o, .inr (7, [.int o_thrown, .ref q_o_memory, .ref q_o_program, .ref q_o_fresh, .int o_hasProgram, .int w_7, .int w_8, .int o_told, .ref q_o_temporaries, .ref q_o_ins, .ref q_o_outs, .ref q_o_uniforms, .ref q_o_textures, .ref q_o_read, .ref q_o_result, .int o_killed, .ref q_o_left, .ref q_o_opening]))] H := hP.sub [0, 1] rfl
          have hD : va_D A [(q_p1, .inl (cI, n_p1, .inl f_p1)), (q_o, .inr (7, [.int o_thrown, .ref q_o_memory, .ref q_o_program, .ref q_o_fresh, .int o_hasProgram, .int w_7, .int w_8, .int o_told, .ref q_o_temporaries, .ref q_o_ins, .ref q_o_outs, .ref q_o_uniforms, .ref q_o_textures, .ref q_o_read, .ref q_o_result, .int o_killed, .ref q_o_left, .ref q_o_opening]))] := hD.sub [0, 1] (by decide) rfl
          cases h
          exact ck_iret hx hb hr hlk hK hP hD hS d_Mo_check_32
  unfold pf_Mo_check at h
  have hl := lv_entry ([.ref q_o, .ref q_p1, .int p2, .int p3]) (n := 6) (Nat.le_of_ble_eq_true rfl)
  rw [lg_entry_eq]
  generalize (lg_sl ([.ref q_o, .ref q_p1, .int p2, .int p3]) ++ List.replicate (6 - (lg_sl ([.ref q_o, .ref q_p1, .int p2, .int p3])).length) Slot.unset).toArray = ls at hl ⊢
  have hl : lv_has ls 6 [(0, .ref q_o), (1, .ref q_p1), (2, .int p2), (3, .int p3)] := hl
  refine lv_iconst (v := 0) hx hb d_Mo_check_0 (by decide) ?_
  refine lv_istore (lv' := [(4, .int (0 : Int32)), (0, .ref q_o), (1, .ref q_p1), (2, .int p2), (3, .int p3)]) hx hb d_Mo_check_1 hl (by decide) rfl (fun ls hl => ?_)
  exact w_3 fu p2 p3 (0 : Int32) o_fault o_place h _ _ hP hD hS _ (lv_sub hl [1, 2, 3, 4, 0] rfl)
def pf_Mo_refuse (p1 : Int32) : Option (Int32 × Int32) :=
  if p1 = 0 then
    if p1 = 0 ∨ p1 = 1 then (
    some (p1, (0 : Int32))) else none
  else
    if p1 = 0 ∨ p1 = 1 then (
    some (p1, (1 : Int32))) else none
set_option maxHeartbeats 4000000 in
set_option maxRecDepth 100000 in
theorem k_Mo_refuse (l : Launch) (dC : Nat → ClassId) (dI : Nat → Nat → Nat) (cI cJ : ClassId) (p1 : Int32) (o_thrown : Int32) (o_hasProgram : Int32) (o_fault : Int32) (o_place : Int32) (o_told : Int32) (o_killed : Int32) (q_o : Nat) (q_o_memory : Nat) (q_o_program : Nat) (q_o_fresh : Nat) (q_o_temporaries : Nat) (q_o_ins : Nat) (q_o_outs : Nat) (q_o_uniforms : Nat) (q_o_textures : Nat) (q_o_read : Nat) (q_o_result : Nat) (q_o_left : Nat) (q_o_opening : Nat) (r : Int32) (o_o_thrown : Int32) (h : pf_Mo_refuse p1 = some (r, o_o_thrown)) : ck_i l y_Mo_refuse wm_Mo_refuse ({ frames := 0, cells := 0, slots := 0, locals := 0 } : Room) [.ref q_o, .int p1] (dC, dI) [(cI, .int), (cJ, .long)] [(q_o, .inr (7, [.int o_thrown, .ref q_o_memory, .ref q_o_program, .ref q_o_fresh, .int o_hasProgram, .int o_fault, .int o_place, .int o_told, .ref q_o_temporaries, .ref q_o_ins, .ref q_o_outs, .ref q_o_uniforms, .ref q_o_textures, .ref q_o_read, .ref q_o_result, .int o_killed, .ref q_o_left, .ref q_o_opening]))] r [(q_o, .inr (7, [.int o_o_thrown, .ref q_o_memory, .ref q_o_program, .ref q_o_fresh, .int o_hasProgram, .int o_fault, .int o_place, .int o_told, .ref q_o_temporaries, .ref q_o_ins, .ref q_o_outs, .ref q_o_uniforms, .ref q_o_textures, .ref q_o_read, .ref q_o_result, .int o_killed, .ref q_o_left, .ref q_o_opening]))] := by
  refine ck_ofi (cc := c_Mo_refuse) (maxL := 2) (ret := (some .boolean)) (by decide +kernel) rfl ?_
  intro p e s m below meth c A C0 hK hP hD hS hE
  obtain ⟨hx, hb, hr, hml, hown, hts, hlk, hA, hin⟩ := C0
  unfold pf_Mo_refuse at h
  have hl := lv_entry ([.ref q_o, .int p1]) (n := 2) (Nat.le_of_ble_eq_true rfl)
  rw [lg_entry_eq]
  generalize (lg_sl ([.ref q_o, .int p1]) ++ List.replicate (2 - (lg_sl ([.ref q_o, .int p1])).length) Slot.unset).toArray = ls at hl ⊢
  have hl : lv_has ls 2 [(0, .ref q_o), (1, .int p1)] := hl
  refine lv_aload_n hx hb d_Mo_refuse_0 rfl (lv_at hl 0 rfl) ?_
  refine lv_iload_n hx hb d_Mo_refuse_1 rfl (lv_at hl 1 rfl) ?_
  refine lv_if_eq (tgt := 9) hx hb d_Mo_refuse_2 (by decide) (fun c_1 => ?_) (fun c_1 => ?_)
  · rw [if_pos c_1] at h
    refine lv_iconst (v := 0) hx hb d_Mo_refuse_9 (by decide) ?_
    refine va_put (D := (dC, dI)) (ci := 7) (v := .int (0 : Int32)) (ty := .int) (C := R_Mo) (T := T_Mo) (N := 18) hx hb hts (iw_Mo _) ty_Mo tk_Mo nd_Mo hown hK hP hD hS 0 rfl rfl 0 (by decide) (hts (.fieldLink R_Mo 50 "ShaderMachineModel" "thrown" "I") (List.mem_cons_of_mem _ tw_728)) (fun _ h9 => h9) rfl (by decide +kernel) rfl rfl (Nat.le_of_ble_eq_true rfl) d_Mo_refuse_10 (fun H locs hP hD hS => ?_)
    have hP : va_P (dC, dI) vwCl [(q_o, .inr (7, [.int (0 : Int32), .ref q_o_memory, .ref q_o_program, .ref q_o_fresh, .int o_hasProgram, .int o_fault, .int o_place, .int o_told, .ref q_o_temporaries, .ref q_o_ins, .ref q_o_outs, .ref q_o_uniforms, .ref q_o_textures, .ref q_o_read, .ref q_o_result, .int o_killed, .ref q_o_left, .ref q_o_opening]))] H := hP
    have hD : va_D A [(q_o, .inr (7, [.int (0 : Int32), .ref q_o_memory, .ref q_o_program, .ref q_o_fresh, .int o_hasProgram, .int o_fault, .int o_place, .int o_told, .ref q_o_temporaries, .ref q_o_ins, .ref q_o_outs, .ref q_o_uniforms, .ref q_o_textures, .ref q_o_read, .ref q_o_result, .int o_killed, .ref q_o_left, .ref q_o_opening]))] := hD
    refine lv_iload_n hx hb d_Mo_refuse_13 rfl (lv_at hl 1 rfl) ?_
    obtain ⟨c_2, h⟩ := ch_ite h
    cases h
    exact ck_zret hx hb hr (ch_bool c_2) hlk hK hP hD hS d_Mo_refuse_14
  · rw [if_neg c_1] at h
    refine lv_iconst (v := 1) hx hb d_Mo_refuse_5 (by decide) ?_
    refine lv_goto (tgt := 10) hx hb d_Mo_refuse_6 (by decide) ?_
    refine va_put (D := (dC, dI)) (ci := 7) (v := .int (1 : Int32)) (ty := .int) (C := R_Mo) (T := T_Mo) (N := 18) hx hb hts (iw_Mo _) ty_Mo tk_Mo nd_Mo hown hK hP hD hS 0 rfl rfl 0 (by decide) (hts (.fieldLink R_Mo 50 "ShaderMachineModel" "thrown" "I") (List.mem_cons_of_mem _ tw_728)) (fun _ h9 => h9) rfl (by decide +kernel) rfl rfl (Nat.le_of_ble_eq_true rfl) d_Mo_refuse_10 (fun H locs hP hD hS => ?_)
    have hP : va_P (dC, dI) vwCl [(q_o, .inr (7, [.int (1 : Int32), .ref q_o_memory, .ref q_o_program, .ref q_o_fresh, .int o_hasProgram, .int o_fault, .int o_place, .int o_told, .ref q_o_temporaries, .ref q_o_ins, .ref q_o_outs, .ref q_o_uniforms, .ref q_o_textures, .ref q_o_read, .ref q_o_result, .int o_killed, .ref q_o_left, .ref q_o_opening]))] H := hP
    have hD : va_D A [(q_o, .inr (7, [.int (1 : Int32), .ref q_o_memory, .ref q_o_program, .ref q_o_fresh, .int o_hasProgram, .int o_fault, .int o_place, .int o_told, .ref q_o_temporaries, .ref q_o_ins, .ref q_o_outs, .ref q_o_uniforms, .ref q_o_textures, .ref q_o_read, .ref q_o_result, .int o_killed, .ref q_o_left, .ref q_o_opening]))] := hD
    refine lv_iload_n hx hb d_Mo_refuse_13 rfl (lv_at hl 1 rfl) ?_
    obtain ⟨c_3, h⟩ := ch_ite h
    cases h
    exact ck_zret hx hb hr (ch_bool c_3) hlk hK hP hD hS d_Mo_refuse_14
def pf_Mo_poke (p1 : Int32) (p2 : Int32) (n_o_memory : Nat) (f_o_memory : Nat → Int32) : Option (Int32 × (Nat → Int32)) :=
  if p1 < 0 then
    Option.bind (pf_Mo_refuse (1 : Int32)) (fun (r_3, w_4) => 
    if r_3 = 0 then
      if (0 : Int32) ≤ p1 ∧ p1.toNatClampNeg < n_o_memory then (
      some (w_4, (upd f_o_memory p1.toNatClampNeg p2))) else none
    else
      some (w_4, f_o_memory))
  else
    if p1 < (1024 : Int32) then
      Option.bind (pf_Mo_refuse (0 : Int32)) (fun (r_9, w_10) => 
      if r_9 = 0 then
        if (0 : Int32) ≤ p1 ∧ p1.toNatClampNeg < n_o_memory then (
        some (w_10, (upd f_o_memory p1.toNatClampNeg p2))) else none
      else
        some (w_10, f_o_memory))
    else
      Option.bind (pf_Mo_refuse (1 : Int32)) (fun (r_14, w_15) => 
      if r_14 = 0 then
        if (0 : Int32) ≤ p1 ∧ p1.toNatClampNeg < n_o_memory then (
        some (w_15, (upd f_o_memory p1.toNatClampNeg p2))) else none
      else
        some (w_15, f_o_memory))
set_option maxHeartbeats 4000000 in
set_option maxRecDepth 100000 in
theorem k_Mo_poke (l : Launch) (dC : Nat → ClassId) (dI : Nat → Nat → Nat) (cI cJ : ClassId) (p1 : Int32) (p2 : Int32) (o_thrown : Int32) (o_hasProgram : Int32) (o_fault : Int32) (o_place : Int32) (o_told : Int32) (o_killed : Int32) (n_o_memory : Nat) (f_o_memory : Nat → Int32) (q_o : Nat) (q_o_memory : Nat) (q_o_program : Nat) (q_o_fresh : Nat) (q_o_temporaries : Nat) (q_o_ins : Nat) (q_o_outs : Nat) (q_o_uniforms : Nat) (q_o_textures : Nat) (q_o_read : Nat) (q_o_result : Nat) (q_o_left : Nat) (q_o_opening : Nat) (o_o_thrown : Int32) (o_f_o_memory : Nat → Int32) (h : pf_Mo_poke p1 p2 n_o_memory f_o_memory = some (o_o_thrown, o_f_o_memory)) : ck_v l y_Mo_poke wm_Mo_poke ({ frames := 1, cells := 0, slots := 0, locals := 21 } : Room) [.ref q_o, .int p1, .int p2] (dC, dI) [(cI, .int), (cJ, .long)] [(q_o, .inr (7, [.int o_thrown, .ref q_o_memory, .ref q_o_program, .ref q_o_fresh, .int o_hasProgram, .int o_fault, .int o_place, .int o_told, .ref q_o_temporaries, .ref q_o_ins, .ref q_o_outs, .ref q_o_uniforms, .ref q_o_textures, .ref q_o_read, .ref q_o_result, .int o_killed, .ref q_o_left, .ref q_o_opening])), (q_o_memory, .inl (cI, n_o_memory, .inl f_o_memory))] [(q_o, .inr (7, [.int o_o_thrown, .ref q_o_memory, .ref q_o_program, .ref q_o_fresh, .int o_hasProgram, .int o_fault, .int o_place, .int o_told, .ref q_o_temporaries, .ref q_o_ins, .ref q_o_outs, .ref q_o_uniforms, .ref q_o_textures, .ref q_o_read, .ref q_o_result, .int o_killed, .ref q_o_left, .ref q_o_opening])), (q_o_memory, .inl (cI, n_o_memory, .inl o_f_o_memory))] := by
  refine ck_ofv (cc := c_Mo_poke) (maxL := 3) (ret := none) (by decide +kernel) rfl ?_
  intro p e s m below meth c A C0 hK hP hD hS hE
  obtain ⟨hx, hb, hr, hml, hown, hts, hlk, hA, hin⟩ := C0
  unfold pf_Mo_poke at h
  have hl := lv_entry ([.ref q_o, .int p1, .int p2]) (n := 3) (Nat.le_of_ble_eq_true rfl)
  rw [lg_entry_eq]
  generalize (lg_sl ([.ref q_o, .int p1, .int p2]) ++ List.replicate (3 - (lg_sl ([.ref q_o, .int p1, .int p2])).length) Slot.unset).toArray = ls at hl ⊢
  have hl : lv_has ls 3 [(0, .ref q_o), (1, .int p1), (2, .int p2)] := hl
  refine lv_aload_n hx hb d_Mo_poke_0 rfl (lv_at hl 0 rfl) ?_
  refine lv_iload_n hx hb d_Mo_poke_1 rfl (lv_at hl 1 rfl) ?_
  refine lv_if_lt (tgt := 12) hx hb d_Mo_poke_2 (by decide) (fun c_1 => ?_) (fun c_1 => ?_)
  · rw [if_pos c_1] at h
    refine lv_iconst (v := 1) hx hb d_Mo_poke_12 (by decide) ?_
    refine lv_goto (tgt := 17) hx hb d_Mo_poke_13 (by decide) ?_
    obtain ⟨⟨r_3, w_4⟩, h_2, h⟩ := ch_bind h
    try dsimp only at h
    refine ck_goi (wc := [(q_o, .inr (7, [.int o_thrown, .ref q_o_memory, .ref q_o_program, .ref q_o_fresh, .int o_hasProgram, .int o_fault, .int o_place, .int o_told, .ref q_o_temporaries, .ref q_o_ins, .ref q_o_outs, .ref q_o_uniforms, .ref q_o_textures, .ref q_o_read, .ref q_o_result, .int o_killed, .ref q_o_left, .ref q_o_opening]))]) (wr := [(q_o_memory, .inl (cI, n_o_memory, .inl f_o_memory))]) (w1 := [(q_o, .inr (7, [.int w_4, .ref q_o_memory, .ref q_o_program, .ref q_o_fresh, .int o_hasProgram, .int o_fault, .int o_place, .int o_told, .ref q_o_temporaries, .ref q_o_ins, .ref q_o_outs, .ref q_o_uniforms, .ref q_o_textures, .ref q_o_read, .ref q_o_result, .int o_killed, .ref q_o_left, .ref q_o_opening]))]) (va_runV (As := [.int (1 : Int32)]) (rest := []) ⟨hx, hb, hml, hown, hts⟩ (k_Mo_refuse l dC dI cI cJ (1 : Int32) o_thrown o_hasProgram o_fault o_place o_told o_killed q_o q_o_memory q_o_program q_o_fresh q_o_temporaries q_o_ins q_o_outs q_o_uniforms q_o_textures q_o_read q_o_result q_o_left q_o_opening r_3 w_4 h_2 _) (cwV 1 hts (gw_V tw_791 tw_793 sw_394 tw_9 tw_794) rfl rfl rfl (by decide +kernel) ⟨Nat.le_of_ble_eq_true rfl, Nat.le_of_ble_eq_true rfl⟩) (ck_preV (wc := [(q_o, .inr (7, [.int o_thrown, .ref q_o_memory, .ref q_o_program, .ref q_o_fresh, .int o_hasProgram, .int o_fault, .int o_place, .int o_told, .ref q_o_temporaries, .ref q_o_ins, .ref q_o_outs, .ref q_o_uniforms, .ref q_o_textures, .ref q_o_read, .ref q_o_result, .int o_killed, .ref q_o_left, .ref q_o_opening]))]) hK hP hD hS hA hE 0 rfl rfl rfl [0] (by decide) rfl) rfl rfl hl.1 rfl (lv_room (Nat.le_of_ble_eq_true rfl)) d_Mo_poke_17 ⟨Nat.le_of_ble_eq_true rfl, Nat.le_of_ble_eq_true rfl⟩) hP hD hS hA [0] [1] rfl rfl (by decide) (by decide) (fun H locs hP hD hS => ?_)
    have hP : va_P (dC, dI) vwCl [(q_o, .inr (7, [.int w_4, .ref q_o_memory, .ref q_o_program, .ref q_o_fresh, .int o_hasProgram, .int o_fault, .int o_place, .int o_told, .ref q_o_temporaries, .ref q_o_ins, .ref q_o_outs, .ref q_o_uniforms, .ref q_o_textures, .ref q_o_read, .ref q_o_result, .int o_killed, .ref q_o_left, .ref q_o_opening])), (q_o_memory, .inl (cI, n_o_memory, .inl f_o_memory))] H := hP.sub [1, 0] rfl
    have hD : va_D A [(q_o, .inr (7, [.int w_4, .ref q_o_memory, .ref q_o_program, .ref q_o_fresh, .int o_hasProgram, .int o_fault, .int o_place, .int o_told, .ref q_o_temporaries, .ref q_o_ins, .ref q_o_outs, .ref q_o_uniforms, .ref q_o_textures, .ref q_o_read, .ref q_o_result, .int o_killed, .ref q_o_left, .ref q_o_opening])), (q_o_memory, .inl (cI, n_o_memory, .inl f_o_memory))] := hD.sub [1, 0] (by decide) rfl
    refine lv_if_eq (tgt := 24) hx hb d_Mo_poke_20 (by decide) (fun c_5 => ?_) (fun c_5 => ?_)
    · rw [if_pos c_5] at h
      refine lv_aload_n hx hb d_Mo_poke_24 rfl (lv_at hl 0 rfl) ?_
      refine va_get (D := (dC, dI)) (ci := 7) (v := .ref q_o_memory) (C := R_Mo) (T := T_Mo) (N := 18) hx hb hts (iw_Mo _) hown hK hP 0 rfl rfl 1 (by decide) (hts (.fieldLink R_Mo 7 "ShaderMachineModel" "memory" "[I") (List.mem_cons_of_mem _ tw_729)) (fun _ h9 => h9) rfl d_Mo_poke_25 ?_
      refine lv_iload_n hx hb d_Mo_poke_28 rfl (lv_at hl 1 rfl) ?_
      refine lv_iload_n hx hb d_Mo_poke_29 rfl (lv_at hl 2 rfl) ?_
      obtain ⟨c_6, h⟩ := ch_ite h
      refine va_iast hx hb hK hP hD hS 1 0 rfl rfl (ch_in c_6) d_Mo_poke_30 (fun H locs hP hD hS => ?_)
      have hP : va_P (dC, dI) vwCl [(q_o, .inr (7, [.int w_4, .ref q_o_memory, .ref q_o_program, .ref q_o_fresh, .int o_hasProgram, .int o_fault, .int o_place, .int o_told, .ref q_o_temporaries, .ref q_o_ins, .ref q_o_outs, .ref q_o_uniforms, .ref q_o_textures, .ref q_o_read, .ref q_o_result, .int o_killed, .ref q_o_left, .ref q_o_opening])), (q_o_memory, .inl (cI, n_o_memory, .inl (upd f_o_memory p1.toNatClampNeg p2)))] H := hP
      have hD : va_D A [(q_o, .inr (7, [.int w_4, .ref q_o_memory, .ref q_o_program, .ref q_o_fresh, .int o_hasProgram, .int o_fault, .int o_place, .int o_told, .ref q_o_temporaries, .ref q_o_ins, .ref q_o_outs, .ref q_o_uniforms, .ref q_o_textures, .ref q_o_read, .ref q_o_result, .int o_killed, .ref q_o_left, .ref q_o_opening])), (q_o_memory, .inl (cI, n_o_memory, .inl (upd f_o_memory p1.toNatClampNeg p2)))] := hD
      cases h
      exact ck_vret hx hb hr hlk hK hP hD hS d_Mo_poke_31
    · rw [if_neg c_5] at h
      cases h
      exact ck_vret hx hb hr hlk hK hP hD hS d_Mo_poke_23
  · rw [if_neg c_1] at h
    refine lv_iload_n hx hb d_Mo_poke_5 rfl (lv_at hl 1 rfl) ?_
    refine lv_sipush (v := 1024) hx hb d_Mo_poke_6 (by decide) ?_
    refine lv_icmp_lt (tgt := 16) hx hb d_Mo_poke_9 (by decide) (fun c_7 => ?_) (fun c_7 => ?_)
    · rw [if_pos c_7] at h
      refine lv_iconst (v := 0) hx hb d_Mo_poke_16 (by decide) ?_
      obtain ⟨⟨r_9, w_10⟩, h_8, h⟩ := ch_bind h
      try dsimp only at h
      refine ck_goi (wc := [(q_o, .inr (7, [.int o_thrown, .ref q_o_memory, .ref q_o_program, .ref q_o_fresh, .int o_hasProgram, .int o_fault, .int o_place, .int o_told, .ref q_o_temporaries, .ref q_o_ins, .ref q_o_outs, .ref q_o_uniforms, .ref q_o_textures, .ref q_o_read, .ref q_o_result, .int o_killed, .ref q_o_left, .ref q_o_opening]))]) (wr := [(q_o_memory, .inl (cI, n_o_memory, .inl f_o_memory))]) (w1 := [(q_o, .inr (7, [.int w_10, .ref q_o_memory, .ref q_o_program, .ref q_o_fresh, .int o_hasProgram, .int o_fault, .int o_place, .int o_told, .ref q_o_temporaries, .ref q_o_ins, .ref q_o_outs, .ref q_o_uniforms, .ref q_o_textures, .ref q_o_read, .ref q_o_result, .int o_killed, .ref q_o_left, .ref q_o_opening]))]) (va_runV (As := [.int (0 : Int32)]) (rest := []) ⟨hx, hb, hml, hown, hts⟩ (k_Mo_refuse l dC dI cI cJ (0 : Int32) o_thrown o_hasProgram o_fault o_place o_told o_killed q_o q_o_memory q_o_program q_o_fresh q_o_temporaries q_o_ins q_o_outs q_o_uniforms q_o_textures q_o_read q_o_result q_o_left q_o_opening r_9 w_10 h_8 _) (cwV 1 hts (gw_V tw_791 tw_793 sw_394 tw_9 tw_794) rfl rfl rfl (by decide +kernel) ⟨Nat.le_of_ble_eq_true rfl, Nat.le_of_ble_eq_true rfl⟩) (ck_preV (wc := [(q_o, .inr (7, [.int o_thrown, .ref q_o_memory, .ref q_o_program, .ref q_o_fresh, .int o_hasProgram, .int o_fault, .int o_place, .int o_told, .ref q_o_temporaries, .ref q_o_ins, .ref q_o_outs, .ref q_o_uniforms, .ref q_o_textures, .ref q_o_read, .ref q_o_result, .int o_killed, .ref q_o_left, .ref q_o_opening]))]) hK hP hD hS hA hE 0 rfl rfl rfl [0] (by decide) rfl) rfl rfl hl.1 rfl (lv_room (Nat.le_of_ble_eq_true rfl)) d_Mo_poke_17 ⟨Nat.le_of_ble_eq_true rfl, Nat.le_of_ble_eq_true rfl⟩) hP hD hS hA [0] [1] rfl rfl (by decide) (by decide) (fun H locs hP hD hS => ?_)
      have hP : va_P (dC, dI) vwCl [(q_o, .inr (7, [.int w_10, .ref q_o_memory, .ref q_o_program, .ref q_o_fresh, .int o_hasProgram, .int o_fault, .int o_place, .int o_told, .ref q_o_temporaries, .ref q_o_ins, .ref q_o_outs, .ref q_o_uniforms, .ref q_o_textures, .ref q_o_read, .ref q_o_result, .int o_killed, .ref q_o_left, .ref q_o_opening])), (q_o_memory, .inl (cI, n_o_memory, .inl f_o_memory))] H := hP.sub [1, 0] rfl
      have hD : va_D A [(q_o, .inr (7, [.int w_10, .ref q_o_memory, .ref q_o_program, .ref q_o_fresh, .int o_hasProgram, .int o_fault, .int o_place, .int o_told, .ref q_o_temporaries, .ref q_o_ins, .ref q_o_outs, .ref q_o_uniforms, .ref q_o_textures, .ref q_o_read, .ref q_o_result, .int o_killed, .ref q_o_left, .ref q_o_opening])), (q_o_memory, .inl (cI, n_o_memory, .inl f_o_memory))] := hD.sub [1, 0] (by decide) rfl
      refine lv_if_eq (tgt := 24) hx hb d_Mo_poke_20 (by decide) (fun c_11 => ?_) (fun c_11 => ?_)
      · rw [if_pos c_11] at h
        refine lv_aload_n hx hb d_Mo_poke_24 rfl (lv_at hl 0 rfl) ?_
        refine va_get (D := (dC, dI)) (ci := 7) (v := .ref q_o_memory) (C := R_Mo) (T := T_Mo) (N := 18) hx hb hts (iw_Mo _) hown hK hP 0 rfl rfl 1 (by decide) (hts (.fieldLink R_Mo 7 "ShaderMachineModel" "memory" "[I") (List.mem_cons_of_mem _ tw_729)) (fun _ h9 => h9) rfl d_Mo_poke_25 ?_
        refine lv_iload_n hx hb d_Mo_poke_28 rfl (lv_at hl 1 rfl) ?_
        refine lv_iload_n hx hb d_Mo_poke_29 rfl (lv_at hl 2 rfl) ?_
        obtain ⟨c_12, h⟩ := ch_ite h
        refine va_iast hx hb hK hP hD hS 1 0 rfl rfl (ch_in c_12) d_Mo_poke_30 (fun H locs hP hD hS => ?_)
        have hP : va_P (dC, dI) vwCl [(q_o, .inr (7, [.int w_10, .ref q_o_memory, .ref q_o_program, .ref q_o_fresh, .int o_hasProgram, .int o_fault, .int o_place, .int o_told, .ref q_o_temporaries, .ref q_o_ins, .ref q_o_outs, .ref q_o_uniforms, .ref q_o_textures, .ref q_o_read, .ref q_o_result, .int o_killed, .ref q_o_left, .ref q_o_opening])), (q_o_memory, .inl (cI, n_o_memory, .inl (upd f_o_memory p1.toNatClampNeg p2)))] H := hP
        have hD : va_D A [(q_o, .inr (7, [.int w_10, .ref q_o_memory, .ref q_o_program, .ref q_o_fresh, .int o_hasProgram, .int o_fault, .int o_place, .int o_told, .ref q_o_temporaries, .ref q_o_ins, .ref q_o_outs, .ref q_o_uniforms, .ref q_o_textures, .ref q_o_read, .ref q_o_result, .int o_killed, .ref q_o_left, .ref q_o_opening])), (q_o_memory, .inl (cI, n_o_memory, .inl (upd f_o_memory p1.toNatClampNeg p2)))] := hD
        cases h
        exact ck_vret hx hb hr hlk hK hP hD hS d_Mo_poke_31
      · rw [if_neg c_11] at h
        cases h
        exact ck_vret hx hb hr hlk hK hP hD hS d_Mo_poke_23
    · rw [if_neg c_7] at h
      refine lv_iconst (v := 1) hx hb d_Mo_poke_12 (by decide) ?_
      refine lv_goto (tgt := 17) hx hb d_Mo_poke_13 (by decide) ?_
      obtain ⟨⟨r_14, w_15⟩, h_13, h⟩ := ch_bind h
      try dsimp only at h
      refine ck_goi (wc := [(q_o, .inr (7, [.int o_thrown, .ref q_o_memory, .ref q_o_program, .ref q_o_fresh, .int o_hasProgram, .int o_fault, .int o_place, .int o_told, .ref q_o_temporaries, .ref q_o_ins, .ref q_o_outs, .ref q_o_uniforms, .ref q_o_textures, .ref q_o_read, .ref q_o_result, .int o_killed, .ref q_o_left, .ref q_o_opening]))]) (wr := [(q_o_memory, .inl (cI, n_o_memory, .inl f_o_memory))]) (w1 := [(q_o, .inr (7, [.int w_15, .ref q_o_memory, .ref q_o_program, .ref q_o_fresh, .int o_hasProgram, .int o_fault, .int o_place, .int o_told, .ref q_o_temporaries, .ref q_o_ins, .ref q_o_outs, .ref q_o_uniforms, .ref q_o_textures, .ref q_o_read, .ref q_o_result, .int o_killed, .ref q_o_left, .ref q_o_opening]))]) (va_runV (As := [.int (1 : Int32)]) (rest := []) ⟨hx, hb, hml, hown, hts⟩ (k_Mo_refuse l dC dI cI cJ (1 : Int32) o_thrown o_hasProgram o_fault o_place o_told o_killed q_o q_o_memory q_o_program q_o_fresh q_o_temporaries q_o_ins q_o_outs q_o_uniforms q_o_textures q_o_read q_o_result q_o_left q_o_opening r_14 w_15 h_13 _) (cwV 1 hts (gw_V tw_791 tw_793 sw_394 tw_9 tw_794) rfl rfl rfl (by decide +kernel) ⟨Nat.le_of_ble_eq_true rfl, Nat.le_of_ble_eq_true rfl⟩) (ck_preV (wc := [(q_o, .inr (7, [.int o_thrown, .ref q_o_memory, .ref q_o_program, .ref q_o_fresh, .int o_hasProgram, .int o_fault, .int o_place, .int o_told, .ref q_o_temporaries, .ref q_o_ins, .ref q_o_outs, .ref q_o_uniforms, .ref q_o_textures, .ref q_o_read, .ref q_o_result, .int o_killed, .ref q_o_left, .ref q_o_opening]))]) hK hP hD hS hA hE 0 rfl rfl rfl [0] (by decide) rfl) rfl rfl hl.1 rfl (lv_room (Nat.le_of_ble_eq_true rfl)) d_Mo_poke_17 ⟨Nat.le_of_ble_eq_true rfl, Nat.le_of_ble_eq_true rfl⟩) hP hD hS hA [0] [1] rfl rfl (by decide) (by decide) (fun H locs hP hD hS => ?_)
      have hP : va_P (dC, dI) vwCl [(q_o, .inr (7, [.int w_15, .ref q_o_memory, .ref q_o_program, .ref q_o_fresh, .int o_hasProgram, .int o_fault, .int o_place, .int o_told, .ref q_o_temporaries, .ref q_o_ins, .ref q_o_outs, .ref q_o_uniforms, .ref q_o_textures, .ref q_o_read, .ref q_o_result, .int o_killed, .ref q_o_left, .ref q_o_opening])), (q_o_memory, .inl (cI, n_o_memory, .inl f_o_memory))] H := hP.sub [1, 0] rfl
      have hD : va_D A [(q_o, .inr (7, [.int w_15, .ref q_o_memory, .ref q_o_program, .ref q_o_fresh, .int o_hasProgram, .int o_fault, .int o_place, .int o_told, .ref q_o_temporaries, .ref q_o_ins, .ref q_o_outs, .ref q_o_uniforms, .ref q_o_textures, .ref q_o_read, .ref q_o_result, .int o_killed, .ref q_o_left, .ref q_o_opening])), (q_o_memory, .inl (cI, n_o_memory, .inl f_o_memory))] := hD.sub [1, 0] (by decide) rfl
      refine lv_if_eq (tgt := 24) hx hb d_Mo_poke_20 (by decide) (fun c_16 => ?_) (fun c_16 => ?_)
      · rw [if_pos c_16] at h
        refine lv_aload_n hx hb d_Mo_poke_24 rfl (lv_at hl 0 rfl) ?_
        refine va_get (D := (dC, dI)) (ci := 7) (v := .ref q_o_memory) (C := R_Mo) (T := T_Mo) (N := 18) hx hb hts (iw_Mo _) hown hK hP 0 rfl rfl 1 (by decide) (hts (.fieldLink R_Mo 7 "ShaderMachineModel" "memory" "[I") (List.mem_cons_of_mem _ tw_729)) (fun _ h9 => h9) rfl d_Mo_poke_25 ?_
        refine lv_iload_n hx hb d_Mo_poke_28 rfl (lv_at hl 1 rfl) ?_
        refine lv_iload_n hx hb d_Mo_poke_29 rfl (lv_at hl 2 rfl) ?_
        obtain ⟨c_17, h⟩ := ch_ite h
        refine va_iast hx hb hK hP hD hS 1 0 rfl rfl (ch_in c_17) d_Mo_poke_30 (fun H locs hP hD hS => ?_)
        have hP : va_P (dC, dI) vwCl [(q_o, .inr (7, [.int w_15, .ref q_o_memory, .ref q_o_program, .ref q_o_fresh, .int o_hasProgram, .int o_fault, .int o_place, .int o_told, .ref q_o_temporaries, .ref q_o_ins, .ref q_o_outs, .ref q_o_uniforms, .ref q_o_textures, .ref q_o_read, .ref q_o_result, .int o_killed, .ref q_o_left, .ref q_o_opening])), (q_o_memory, .inl (cI, n_o_memory, .inl (upd f_o_memory p1.toNatClampNeg p2)))] H := hP
        have hD : va_D A [(q_o, .inr (7, [.int w_15, .ref q_o_memory, .ref q_o_program, .ref q_o_fresh, .int o_hasProgram, .int o_fault, .int o_place, .int o_told, .ref q_o_temporaries, .ref q_o_ins, .ref q_o_outs, .ref q_o_uniforms, .ref q_o_textures, .ref q_o_read, .ref q_o_result, .int o_killed, .ref q_o_left, .ref q_o_opening])), (q_o_memory, .inl (cI, n_o_memory, .inl (upd f_o_memory p1.toNatClampNeg p2)))] := hD
        cases h
        exact ck_vret hx hb hr hlk hK hP hD hS d_Mo_poke_31
      · rw [if_neg c_16] at h
        cases h
        exact ck_vret hx hb hr hlk hK hP hD hS d_Mo_poke_23
