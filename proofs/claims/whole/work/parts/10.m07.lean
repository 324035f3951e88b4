def pf_Ru_endRound (o_place : Int32) (o_loops_depth : Int32) (n_o_loops_counts : Nat) (f_o_loops_counts : Nat → Int64) (n_o_loops_places : Nat) (f_o_loops_places : Nat → Int32) : Option (Int32 × Int32 × (Nat → Int64)) :=
  Option.bind (pf_Lo_count o_loops_depth n_o_loops_counts f_o_loops_counts) (fun r_2 => 
  if (lg_cmp (r_2 - (1 : Int64)) (0 : Int64)) ≤ 0 then
    Option.bind (pf_Lo_close o_loops_depth) (fun w_5 => 
    some (o_place, w_5, f_o_loops_counts))
  else
    Option.bind (pf_Lo_setCount (r_2 - (1 : Int64)) o_loops_depth n_o_loops_counts f_o_loops_counts) (fun w_7 => 
    Option.bind (pf_Lo_innermost o_loops_depth n_o_loops_places f_o_loops_places) (fun r_9 => 
    some ((r_9 + (1 : Int32)), o_loops_depth, w_7))))
set_option maxHeartbeats 4000000 in
set_option maxRecDepth 100000 in
theorem k_Ru_endRound (l : Launch) (dC : Nat → ClassId) (dI : Nat → Nat → Nat) (cI cJ : ClassId) (o_place : Int32) (o_isKilled : Int32) (o_loops_depth : Int32) (n_o_loops_counts : Nat) (f_o_loops_counts : Nat → Int64) (n_o_loops_places : Nat) (f_o_loops_places : Nat → Int32) (q_o : Nat) (q_o_store : Nat) (q_o_a : Nat) (q_o_b : Nat) (q_o_c : Nat) (q_o_result : Nat) (q_o_loops : Nat) (q_o_loops_places : Nat) (q_o_loops_counts : Nat) (o_o_place : Int32) (o_o_loops_depth : Int32) (o_f_o_loops_counts : Nat → Int64) (h : pf_Ru_endRound o_place o_loops_depth n_o_loops_counts f_o_loops_counts n_o_loops_places f_o_loops_places = some (o_o_place, o_o_loops_depth, o_f_o_loops_counts)) : ck_v l y_Ru_endRound wm_Ru_endRound ({ frames := 1, cells := 0, slots := 0, locals := 22 } : Room) [.ref q_o] (dC, dI) [(cI, .int), (cJ, .long)] [(q_o, .inr (5, [.ref q_o_store, .ref q_o_a, .ref q_o_b, .ref q_o_c, .ref q_o_result, .ref q_o_loops, .int o_place, .int o_isKilled])), (q_o_loops, .inr (2, [.ref q_o_loops_places, .ref q_o_loops_counts, .int o_loops_depth])), (q_o_loops_counts, .inl (cJ, n_o_loops_counts, .inr (.inl f_o_loops_counts))), (q_o_loops_places, .inl (cI, n_o_loops_places, .inl f_o_loops_places))] [(q_o, .inr (5, [.ref q_o_store, .ref q_o_a, .ref q_o_b, .ref q_o_c, .ref q_o_result, .ref q_o_loops, .int o_o_place, .int o_isKilled])), (q_o_loops, .inr (2, [.ref q_o_loops_places, .ref q_o_loops_counts, .int o_o_loops_depth])), (q_o_loops_counts, .inl (cJ, n_o_loops_counts, .inr (.inl o_f_o_loops_counts))), (q_o_loops_places, .inl (cI, n_o_loops_places, .inl f_o_loops_places))] := by
  refine ck_ofv (cc := c_Ru_endRound) (maxL := 3) (ret := none) (by decide +kernel) rfl ?_
  intro p e s m below meth c A C0 hK hP hD hS hE
  obtain ⟨hx, hb, hr, hml, hown, hts, hlk, hA, hin⟩ := C0
  unfold pf_Ru_endRound at h
  have hl := lv_entry ([.ref q_o]) (n := 3) (Nat.le_of_ble_eq_true rfl)
  rw [lg_entry_eq]
  generalize (lg_sl ([.ref q_o]) ++ List.replicate (3 - (lg_sl ([.ref q_o])).length) Slot.unset).toArray = ls at hl ⊢
  have hl : lv_has ls 3 [(0, .ref q_o)] := hl
  refine lv_aload_n hx hb d_Ru_endRound_0 rfl (lv_at hl 0 rfl) ?_
  refine va_get (D := (dC, dI)) (ci := 5) (v := .ref q_o_loops) (C := R_Ru) (T := T_Ru) (N := 8) hx hb hts (iw_Ru _) hown hK hP 0 rfl rfl 5 (by decide) (hts (.fieldLink R_Ru 27 "ShaderMachine$Runner" "loops" "LShaderMachine$Loops;") (List.mem_cons_of_mem _ tw_135)) (fun _ h9 => h9) rfl d_Ru_endRound_1 ?_
  obtain ⟨r_2, h_1, h⟩ := ch_bind h
  try dsimp only at h
  refine ck_gol (wc := [(q_o_loops, .inr (2, [.ref q_o_loops_places, .ref q_o_loops_counts, .int o_loops_depth])), (q_o_loops_counts, .inl (cJ, n_o_loops_counts, .inr (.inl f_o_loops_counts)))]) (wr := [(q_o, .inr (5, [.ref q_o_store, .ref q_o_a, .ref q_o_b, .ref q_o_c, .ref q_o_result, .ref q_o_loops, .int o_place, .int o_isKilled])), (q_o_loops_places, .inl (cI, n_o_loops_places, .inl f_o_loops_places))]) (w1 := [(q_o_loops, .inr (2, [.ref q_o_loops_places, .ref q_o_loops_counts, .int o_loops_depth])), (q_o_loops_counts, .inl (cJ, n_o_loops_counts, .inr (.inl f_o_loops_counts)))]) (va_runV (As := []) (rest := []) ⟨hx, hb, hml, hown, hts⟩ (k_Lo_count l dC dI cI cJ o_loops_depth n_o_loops_counts f_o_loops_counts q_o_loops q_o_loops_places q_o_loops_counts r_2 h_1 _) (cwV 0 hts (gw_V tw_588 tw_416 tw_417 tw_6 tw_418) rfl rfl rfl (by decide +kernel) ⟨Nat.le_of_ble_eq_true rfl, Nat.le_of_ble_eq_true rfl⟩) (ck_preV (wc := [(q_o_loops, .inr (2, [.ref q_o_loops_places, .ref q_o_loops_counts, .int o_loops_depth])), (q_o_loops_counts, .inl (cJ, n_o_loops_counts, .inr (.inl f_o_loops_counts)))]) hK hP hD hS hA hE 1 rfl rfl rfl [1, 2] (by decide) rfl) rfl rfl hl.1 rfl (lv_room (Nat.le_of_ble_eq_true rfl)) d_Ru_endRound_4 ⟨Nat.le_of_ble_eq_true rfl, Nat.le_of_ble_eq_true rfl⟩) hP hD hS hA [1, 2] [0, 3] rfl rfl (by decide) (by decide) (fun H locs hP hD hS => ?_)
  have hP : va_P (dC, dI) vwCl [(q_o, .inr (5, [.ref q_o_store, .ref q_o_a, .ref q_o_b, .ref q_o_c, .ref q_o_result, .ref q_o_loops, .int o_place, .int o_isKilled])), (q_o_loops, .inr (2, [.ref q_o_loops_places, .ref q_o_loops_counts, .int o_loops_depth])), (q_o_loops_counts, .inl (cJ, n_o_loops_counts, .inr (.inl f_o_loops_counts))), (q_o_loops_places, .inl (cI, n_o_loops_places, .inl f_o_loops_places))] H := hP.sub [0, 2, 3, 1] rfl
  have hD : va_D A [(q_o, .inr (5, [.ref q_o_store, .ref q_o_a, .ref q_o_b, .ref q_o_c, .ref q_o_result, .ref q_o_loops, .int o_place, .int o_isKilled])), (q_o_loops, .inr (2, [.ref q_o_loops_places, .ref q_o_loops_counts, .int o_loops_depth])), (q_o_loops_counts, .inl (cJ, n_o_loops_counts, .inr (.inl f_o_loops_counts))), (q_o_loops_places, .inl (cI, n_o_loops_places, .inl f_o_loops_places))] := hD.sub [0, 2, 3, 1] (by decide) rfl
  refine lv_lconst (v := 1) hx hb d_Ru_endRound_7 (by decide) ?_
  refine lv_lsub hx hb d_Ru_endRound_8 ?_
  refine lv_lstore_n (lv' := [(1, .long (r_2 - (1 : Int64))), (0, .ref q_o)]) hx hb d_Ru_endRound_9 rfl hl (by decide) rfl (fun ls hl => ?_)
  refine lv_lload_n hx hb d_Ru_endRound_10 rfl (lv_at hl 0 rfl) ?_
  refine lv_lconst (v := 0) hx hb d_Ru_endRound_11 (by decide) ?_
  refine W.lcmp hx hb d_Ru_endRound_12 ?_
  refine lv_if_le (tgt := 40) hx hb d_Ru_endRound_13 (by decide) (fun c_3 => ?_) (fun c_3 => ?_)
  · rw [if_pos c_3] at h
    refine lv_aload_n hx hb d_Ru_endRound_40 rfl (lv_at hl 1 rfl) ?_
    refine va_get (D := (dC, dI)) (ci := 5) (v := .ref q_o_loops) (C := R_Ru) (T := T_Ru) (N := 8) hx hb hts (iw_Ru _) hown hK hP 0 rfl rfl 5 (by decide) (hts (.fieldLink R_Ru 27 "ShaderMachine$Runner" "loops" "LShaderMachine$Loops;") (List.mem_cons_of_mem _ tw_135)) (fun _ h9 => h9) rfl d_Ru_endRound_41 ?_
    obtain ⟨w_5, h_4, h⟩ := ch_bind h
    try dsimp only at h
    refine ck_gov (wc := [(q_o_loops, .inr (2, [.ref q_o_loops_places, .ref q_o_loops_counts, .int o_loops_depth]))]) (wr := [(q_o, .inr (5, [.ref q_o_store, .ref q_o_a, .ref q_o_b, .ref q_o_c, .ref q_o_result, .ref q_o_loops, .int o_place, .int o_isKilled])), (q_o_loops_counts, .inl (cJ, n_o_loops_counts, .inr (.inl f_o_loops_counts))), (q_o_loops_places, .inl (cI, n_o_loops_places, .inl f_o_loops_places))]) (w1 := [(q_o_loops, .inr (2, [.ref q_o_loops_places, .ref q_o_loops_counts, .int w_5]))]) (va_runV (As := []) (rest := []) ⟨hx, hb, hml, hown, hts⟩ (k_Lo_close l dC dI cI cJ o_loops_depth q_o_loops q_o_loops_places q_o_loops_counts w_5 h_4 _) (cwV 0 hts (gw_V tw_594 tw_424 tw_425 tw_6 tw_426) rfl rfl rfl (by decide +kernel) ⟨Nat.le_of_ble_eq_true rfl, Nat.le_of_ble_eq_true rfl⟩) (ck_preV (wc := [(q_o_loops, .inr (2, [.ref q_o_loops_places, .ref q_o_loops_counts, .int o_loops_depth]))]) hK hP hD hS hA hE 1 rfl rfl rfl [1] (by decide) rfl) rfl rfl hl.1 rfl (lv_room (Nat.le_of_ble_eq_true rfl)) d_Ru_endRound_44 ⟨Nat.le_of_ble_eq_true rfl, Nat.le_of_ble_eq_true rfl⟩) hP hD hS hA [1] [0, 2, 3] rfl rfl (by decide) (by decide) (fun H locs hP hD hS => ?_)
    have hP : va_P (dC, dI) vwCl [(q_o, .inr (5, [.ref q_o_store, .ref q_o_a, .ref q_o_b, .ref q_o_c, .ref q_o_result, .ref q_o_loops, .int o_place, .int o_isKilled])), (q_o_loops, .inr (2, [.ref q_o_loops_places, .ref q_o_loops_counts, .int w_5])), (q_o_loops_counts, .inl (cJ, n_o_loops_counts, .inr (.inl f_o_loops_counts))), (q_o_loops_places, .inl (cI, n_o_loops_places, .inl f_o_loops_places))] H := hP.sub [0, 3, 1, 2] rfl
    have hD : va_D A [(q_o, .inr (5, [.ref q_o_store, .ref q_o_a, .ref q_o_b, .ref q_o_c, .ref q_o_result, .ref q_o_loops, .int o_place, .int o_isKilled])), (q_o_loops, .inr (2, [.ref q_o_loops_places, .ref q_o_loops_counts, .int w_5])), (q_o_loops_counts, .inl (cJ, n_o_loops_counts, .inr (.inl f_o_loops_counts))), (q_o_loops_places, .inl (cI, n_o_loops_places, .inl f_o_loops_places))] := hD.sub [0, 3, 1, 2] (by decide) rfl
    cases h
    exact ck_vret hx hb hr hlk hK hP hD hS d_Ru_endRound_47
  · rw [if_neg c_3] at h
    refine lv_aload_n hx hb d_Ru_endRound_16 rfl (lv_at hl 1 rfl) ?_
    refine va_get (D := (dC, dI)) (ci := 5) (v := .ref q_o_loops) (C := R_Ru) (T := T_Ru) (N := 8) hx hb hts (iw_Ru _) hown hK hP 0 rfl rfl 5 (by decide) (hts (.fieldLink R_Ru 27 "ShaderMachine$Runner" "loops" "LShaderMachine$Loops;") (List.mem_cons_of_mem _ tw_135)) (fun _ h9 => h9) rfl d_Ru_endRound_17 ?_
    refine lv_lload_n hx hb d_Ru_endRound_20 rfl (lv_at hl 0 rfl) ?_
    obtain ⟨w_7, h_6, h⟩ := ch_bind h
    try dsimp only at h
    refine ck_gov (wc := [(q_o_loops, .inr (2, [.ref q_o_loops_places, .ref q_o_loops_counts, .int o_loops_depth])), (q_o_loops_counts, .inl (cJ, n_o_loops_counts, .inr (.inl f_o_loops_counts)))]) (wr := [(q_o, .inr (5, [.ref q_o_store, .ref q_o_a, .ref q_o_b, .ref q_o_c, .ref q_o_result, .ref q_o_loops, .int o_place, .int o_isKilled])), (q_o_loops_places, .inl (cI, n_o_loops_places, .inl f_o_loops_places))]) (w1 := [(q_o_loops, .inr (2, [.ref q_o_loops_places, .ref q_o_loops_counts, .int o_loops_depth])), (q_o_loops_counts, .inl (cJ, n_o_loops_counts, .inr (.inl w_7)))]) (va_runV (As := [.long (r_2 - (1 : Int64))]) (rest := []) ⟨hx, hb, hml, hown, hts⟩ (k_Lo_setCount l dC dI cI cJ (r_2 - (1 : Int64)) o_loops_depth n_o_loops_counts f_o_loops_counts q_o_loops q_o_loops_places q_o_loops_counts w_7 h_6 _) (cwV 1 hts (gw_V tw_589 tw_590 tw_591 tw_6 tw_592) rfl rfl rfl (by decide +kernel) ⟨Nat.le_of_ble_eq_true rfl, Nat.le_of_ble_eq_true rfl⟩) (ck_preV (wc := [(q_o_loops, .inr (2, [.ref q_o_loops_places, .ref q_o_loops_counts, .int o_loops_depth])), (q_o_loops_counts, .inl (cJ, n_o_loops_counts, .inr (.inl f_o_loops_counts)))]) hK hP hD hS hA hE 1 rfl rfl rfl [1, 2] (by decide) rfl) rfl rfl hl.1 rfl (lv_room (Nat.le_of_ble_eq_true rfl)) d_Ru_endRound_21 ⟨Nat.le_of_ble_eq_true rfl, Nat.le_of_ble_eq_true rfl⟩) hP hD hS hA [1, 2] [0, 3] rfl rfl (by decide) (by decide) (fun H locs hP hD hS => ?_)
    have hP : va_P (dC, dI) vwCl [(q_o, .inr (5, [.ref q_o_store, .ref q_o_a, .ref q_o_b, .ref q_o_c, .ref q_o_result, .ref q_o_loops, .int o_place, .int o_isKilled])), (q_o_loops, .inr (2, [.ref q_o_loops_places, .ref q_o_loops_counts, .int o_loops_depth])), (q_o_loops_counts, .inl (cJ, n_o_loops_counts, .inr (.inl w_7))), (q_o_loops_places, .inl (cI, n_o_loops_places, .inl f_o_loops_places))] H := hP.sub [0, 2, 3, 1] rfl
    have hD : va_D A [(q_o, .inr (5, [.ref q_o_store, .ref q_o_a, .ref q_o_b, .ref q_o_c, .ref q_o_result, .ref q_o_loops, .int o_place, .int o_isKilled])), (q_o_loops, .inr (2, [.ref q_o_loops_places, .ref q_o_loops_counts, .int o_loops_depth])), (q_o_loops_counts, .inl (cJ, n_o_loops_counts, .inr (.inl w_7))), (q_o_loops_places, .inl (cI, n_o_loops_places, .inl f_o_loops_places))] := hD.sub [0, 2, 3, 1] (by decide) rfl
    refine lv_aload_n hx hb d_Ru_endRound_24 rfl (lv_at hl 1 rfl) ?_
    refine lv_aload_n hx hb d_Ru_endRound_25 rfl (lv_at hl 1 rfl) ?_
    refine va_get (D := (dC, dI)) (ci := 5) (v := .ref q_o_loops) (C := R_Ru) (T := T_Ru) (N := 8) hx hb hts (iw_Ru _) hown hK hP 0 rfl rfl 5 (by decide) (hts (.fieldLink R_Ru 27 "ShaderMachine$Runner" "loops" "LShaderMachine$Loops;") (List.mem_cons_of_mem _ tw_135)) (fun _ h9 => h9) rfl d_Ru_endRound_26 ?_
    obtain ⟨r_9, h_8, h⟩ := ch_bind h
    try dsimp only at h
    refine ck_goi (wc := [(q_o_loops, .inr (2, [.ref q_o_loops_places, .ref q_o_loops_counts, .int o_loops_depth])), (q_o_loops_places, .inl (cI, n_o_loops_places, .inl f_o_loops_places))]) (wr := [(q_o, .inr (5, [.ref q_o_store, .ref q_o_a, .ref q_o_b, .ref q_o_c, .ref q_o_result, .ref q_o_loops, .int o_place, .int o_isKilled])), (q_o_loops_counts, .inl (cJ, n_o_loops_counts, .inr (.inl w_7)))]) (w1 := [(q_o_loops, .inr (2, [.ref q_o_loops_places, .ref q_o_loops_counts, .int o_loops_depth])), (q_o_loops_places, .inl (cI, n_o_loops_places, .inl f_o_loops_places))]) (va_runV (As := []) (rest := [.ref q_o]) ⟨hx, hb, hml, hown, hts⟩ (k_Lo_innermost l dC dI cI cJ o_loops_depth n_o_loops_places f_o_loops_places q_o_loops q_o_loops_places q_o_loops_counts r_9 h_8 _) (cwV 0 hts (gw_V tw_593 tw_412 tw_413 tw_6 tw_414) rfl rfl rfl (by decide +kernel) ⟨Nat.le_of_ble_eq_true rfl, Nat.le_of_ble_eq_true rfl⟩) (ck_preV (wc := [(q_o_loops, .inr (2, [.ref q_o_loops_places, .ref q_o_loops_counts, .int o_loops_depth])), (q_o_loops_places, .inl (cI, n_o_loops_places, .inl f_o_loops_places))]) hK hP hD hS hA hE 1 rfl rfl rfl [1, 3] (by decide) rfl) rfl rfl hl.1 rfl (lv_room (Nat.le_of_ble_eq_true rfl)) d_Ru_endRound_29 ⟨Nat.le_of_ble_eq_true rfl, Nat.le_of_ble_eq_true rfl⟩) hP hD hS hA [1, 3] [0, 2] rfl rfl (by decide) (by decide) (fun H locs hP hD hS => ?_)
    have hP : va_P (dC, dI) vwCl [(q_o, .inr (5, [.ref q_o_store, .ref q_o_a, .ref q_o_b, .ref q_o_c, .ref q_o_result, .ref q_o_loops, .int o_place, .int o_isKilled])), (q_o_loops, .inr (2, [.ref q_o_loops_places, .ref q_o_loops_counts, .int o_loops_depth])), (q_o_loops_counts, .inl (cJ, n_o_loops_counts, .inr (.inl w_7))), (q_o_loops_places, .inl (cI, n_o_loops_places, .inl f_o_loops_places))] H := hP.sub [0, 2, 1, 3] rfl
    have hD : va_D A [(q_o, .inr (5, [.ref q_o_store, .ref q_o_a, .ref q_o_b, .ref q_o_c, .ref q_o_result, .ref q_o_loops, .int o_place, .int o_isKilled])), (q_o_loops, .inr (2, [.ref q_o_loops_places, .ref q_o_loops_counts, .int o_loops_depth])), (q_o_loops_counts, .inl (cJ, n_o_loops_counts, .inr (.inl w_7))), (q_o_loops_places, .inl (cI, n_o_loops_places, .inl f_o_loops_places))] := hD.sub [0, 2, 1, 3] (by decide) rfl
    refine lv_iconst (v := 1) hx hb d_Ru_endRound_32 (by decide) ?_
    refine lv_iadd hx hb d_Ru_endRound_33 ?_
    refine va_put (D := (dC, dI)) (ci := 5) (v := .int (r_9 + (1 : Int32))) (ty := .int) (C := R_Ru) (T := T_Ru) (N := 8) hx hb hts (iw_Ru _) ty_Ru tk_Ru nd_Ru hown hK hP hD hS 0 rfl rfl 6 (by decide) (hts (.fieldLink R_Ru 52 "ShaderMachine$Runner" "place" "I") (List.mem_cons_of_mem _ tw_136)) (fun _ h9 => h9) rfl (by decide +kernel) rfl rfl (Nat.le_of_ble_eq_true rfl) d_Ru_endRound_34 (fun H locs hP hD hS => ?_)
    have hP : va_P (dC, dI) vwCl [(q_o, .inr (5, [.ref q_o_store, .ref q_o_a, .ref q_o_b, .ref q_o_c, .ref q_o_result, .ref q_o_loops, .int (r_9 + (1 : Int32)), .int o_isKilled])), (q_o_loops, .inr (2, [.ref q_o_loops_places, .ref q_o_loops_counts, .int o_loops_depth])), (q_o_loops_counts, .inl (cJ, n_o_loops_counts, .inr (.inl w_7))), (q_o_loops_places, .inl (cI, n_o_loops_places, .inl f_o_loops_places))] H := hP
    have hD : va_D A [(q_o, .inr (5, [.ref q_o_store, .ref q_o_a, .ref q_o_b, .ref q_o_c, .ref q_o_result, .ref q_o_loops, .int (r_9 + (1 : Int32)), .int o_isKilled])), (q_o_loops, .inr (2, [.ref q_o_loops_places, .ref q_o_loops_counts, .int o_loops_depth])), (q_o_loops_counts, .inl (cJ, n_o_loops_counts, .inr (.inl w_7))), (q_o_loops_places, .inl (cI, n_o_loops_places, .inl f_o_loops_places))] := hD
    refine lv_goto (tgt := 47) hx hb d_Ru_endRound_37 (by decide) ?_
    cases h
    exact ck_vret hx hb hr hlk hK hP hD hS d_Ru_endRound_47
def pf_Ru_ofBits (p1 : Int32) (p2 : Int32) (p3 : Int32) : Option (Int32) :=
  if p1 < 11 ∨ 40 < p1 then
    some (0 : Int32)
  else
  if p1 = 11 then
    some (p2 &&& (-65536 : Int32))
  else
  if p1 = 12 then
    some (p2 &&& (65535 : Int32))
  else
  if p1 = 13 then
    some (0 : Int32)
  else
  if p1 = 14 then
    some (0 : Int32)
  else
  if p1 = 15 then
    some (0 : Int32)
  else
  if p1 = 16 then
    some (0 : Int32)
  else
  if p1 = 17 then
    some (0 : Int32)
  else
  if p1 = 18 then
    some (0 : Int32)
  else
  if p1 = 19 then
    some (0 : Int32)
  else
  if p1 = 20 then
    some (0 : Int32)
  else
  if p1 = 21 then
    some (0 : Int32)
  else
  if p1 = 22 then
    some (0 : Int32)
  else
  if p1 = 23 then
    some (p2 &&& p3)
  else
  if p1 = 24 then
    some (p2 ||| p3)
  else
  if p1 = 25 then
    some (p2 ^^^ p3)
  else
  if p1 = 26 then
    some (p2 ^^^ (-1 : Int32))
  else
  if p1 = 27 then
    some (p2 <<< ((p3 &&& (31 : Int32)) &&& 31))
  else
  if p1 = 28 then
    some (p2 >>> ((p3 &&& (31 : Int32)) &&& 31))
  else
  if p1 = 29 then
    some ((p2.toUInt32 >>> ((p3 &&& (31 : Int32)).toUInt32 &&& Int32.toUInt32 31)).toInt32)
  else
  if p1 = 30 then
    some (0 : Int32)
  else
  if p1 = 31 then
    some (0 : Int32)
  else
  if p1 = 32 then
    some (0 : Int32)
  else
  if p1 = 33 then
    some (0 : Int32)
  else
  if p1 = 34 then
    some (0 : Int32)
  else
  if p1 = 35 then
    some (0 : Int32)
  else
  if p1 = 36 then
    some (0 : Int32)
  else
  if p1 = 37 then
    some (0 : Int32)
  else
  if p1 = 38 then
    some (0 : Int32)
  else
  if p1 = 39 then
    some (p2 >>> ((16 : Int32) &&& 31))
  else
  if p1 = 40 then
    some (p2 <<< ((16 : Int32) &&& 31))
  else
    none
set_option maxHeartbeats 4000000 in
set_option maxRecDepth 100000 in
theorem k_Ru_ofBits (l : Launch) (dC : Nat → ClassId) (dI : Nat → Nat → Nat) (cI cJ : ClassId) (p1 : Int32) (p2 : Int32) (p3 : Int32) (r : Int32) (h : pf_Ru_ofBits p1 p2 p3 = some r) : ck_i l y_Ru_ofBits wm_Ru_ofBits ({ frames := 0, cells := 0, slots := 0, locals := 0 } : Room) [.int p1, .int p2, .int p3] (dC, dI) [(cI, .int), (cJ, .long)] [] r [] := by
  refine ck_ofi (cc := c_Ru_ofBits) (maxL := 3) (ret := (some .int)) (by decide +kernel) rfl ?_
  intro p e s m below meth c A C0 hK hP hD hS hE
  obtain ⟨hx, hb, hr, hml, hown, hts, hlk, hA, hin⟩ := C0
  unfold pf_Ru_ofBits at h
  have hl := lv_entry ([.int p1, .int p2, .int p3]) (n := 3) (Nat.le_of_ble_eq_true rfl)
  rw [lg_entry_eq]
  generalize (lg_sl ([.int p1, .int p2, .int p3]) ++ List.replicate (3 - (lg_sl ([.int p1, .int p2, .int p3])).length) Slot.unset).toArray = ls at hl ⊢
  have hl : lv_has ls 3 [(0, .int p1), (1, .int p2), (2, .int p3)] := hl
  refine lv_iload_n hx hb d_Ru_ofBits_0 rfl (lv_at hl 0 rfl) ?_
  by_cases c_1 : p1 < 11 ∨ 40 < p1
  · rw [if_pos c_1] at h
    refine lv_tableOut (tgt := 193) hx hb d_Ru_ofBits_1 (ch_out c_1 (by decide) (by decide)) (by decide) ?_
    refine lv_iconst (v := 0) hx hb d_Ru_ofBits_193 (by decide) ?_
    cases h
    exact ck_iret hx hb hr hlk hK hP hD hS d_Ru_ofBits_194
  rw [if_neg c_1] at h
  by_cases c_2 : p1 = 11
  · rw [if_pos c_2] at h
    refine lv_tableIn (tgt := 136) hx hb d_Ru_ofBits_1 (by rw [c_2]; decide) (by rw [c_2]; decide) (by rw [c_2]; rfl) (by decide) ?_
    refine lv_iload_n hx hb d_Ru_ofBits_136 rfl (lv_at hl 1 rfl) ?_
    refine lv_ldc (v := -65536) hx hb hown (hts (.constant R_Ru 249 (-65536)) (by decide +kernel)) d_Ru_ofBits_137 ?_
    refine lv_iand hx hb d_Ru_ofBits_139 ?_
    cases h
    exact ck_iret hx hb hr hlk hK hP hD hS d_Ru_ofBits_140
  rw [if_neg c_2] at h
  by_cases c_3 : p1 = 12
  · rw [if_pos c_3] at h
    refine lv_tableIn (tgt := 141) hx hb d_Ru_ofBits_1 (by rw [c_3]; decide) (by rw [c_3]; decide) (by rw [c_3]; rfl) (by decide) ?_
    refine lv_iload_n hx hb d_Ru_ofBits_141 rfl (lv_at hl 1 rfl) ?_
    refine lv_ldc (v := 65535) hx hb hown (hts (.constant R_Ru 117 (65535)) (by decide +kernel)) d_Ru_ofBits_142 ?_
    refine lv_iand hx hb d_Ru_ofBits_144 ?_
    cases h
    exact ck_iret hx hb hr hlk hK hP hD hS d_Ru_ofBits_145
  rw [if_neg c_3] at h
  by_cases c_4 : p1 = 13
  · rw [if_pos c_4] at h
    refine lv_tableIn (tgt := 193) hx hb d_Ru_ofBits_1 (by rw [c_4]; decide) (by rw [c_4]; decide) (by rw [c_4]; rfl) (by decide) ?_
    refine lv_iconst (v := 0) hx hb d_Ru_ofBits_193 (by decide) ?_
    cases h
    exact ck_iret hx hb hr hlk hK hP hD hS d_Ru_ofBits_194
  rw [if_neg c_4] at h
  by_cases c_5 : p1 = 14
  · rw [if_pos c_5] at h
    refine lv_tableIn (tgt := 193) hx hb d_Ru_ofBits_1 (by rw [c_5]; decide) (by rw [c_5]; decide) (by rw [c_5]; rfl) (by decide) ?_
    refine lv_iconst (v := 0) hx hb d_Ru_ofBits_193 (by decide) ?_
    cases h
    exact ck_iret hx hb hr hlk hK hP hD hS d_Ru_ofBits_194
  rw [if_neg c_5] at h
  by_cases c_6 : p1 = 15
  · rw [if_pos c_6] at h
    refine lv_tableIn (tgt := 193) hx hb d_Ru_ofBits_1 (by rw [c_6]; decide) (by rw [c_6]; decide) (by rw [c_6]; rfl) (by decide) ?_
    refine lv_iconst (v := 0) hx hb d_Ru_ofBits_193 (by decide) ?_
    cases h
    exact ck_iret hx hb hr hlk hK hP hD hS d_Ru_ofBits_194
  rw [if_neg c_6] at h
  by_cases c_7 : p1 = 16
  · rw [if_pos c_7] at h
    refine lv_tableIn (tgt := 193) hx hb d_Ru_ofBits_1 (by rw [c_7]; decide) (by rw [c_7]; decide) (by rw [c_7]; rfl) (by decide) ?_
    refine lv_iconst (v := 0) hx hb d_Ru_ofBits_193 (by decide) ?_
    cases h
    exact ck_iret hx hb hr hlk hK hP hD hS d_Ru_ofBits_194
  rw [if_neg c_7] at h
  by_cases c_8 : p1 = 17
  · rw [if_pos c_8] at h
    refine lv_tableIn (tgt := 193) hx hb d_Ru_ofBits_1 (by rw [c_8]; decide) (by rw [c_8]; decide) (by rw [c_8]; rfl) (by decide) ?_
    refine lv_iconst (v := 0) hx hb d_Ru_ofBits_193 (by decide) ?_
    cases h
    exact ck_iret hx hb hr hlk hK hP hD hS d_Ru_ofBits_194
  rw [if_neg c_8] at h
  by_cases c_9 : p1 = 18
  · rw [if_pos c_9] at h
    refine lv_tableIn (tgt := 193) hx hb d_Ru_ofBits_1 (by rw [c_9]; decide) (by rw [c_9]; decide) (by rw [c_9]; rfl) (by decide) ?_
    refine lv_iconst (v := 0) hx hb d_Ru_ofBits_193 (by decide) ?_
    cases h
    exact ck_iret hx hb hr hlk hK hP hD hS d_Ru_ofBits_194
  rw [if_neg c_9] at h
  by_cases c_10 : p1 = 19
  · rw [if_pos c_10] at h
    refine lv_tableIn (tgt := 193) hx hb d_Ru_ofBits_1 (by rw [c_10]; decide) (by rw [c_10]; decide) (by rw [c_10]; rfl) (by decide) ?_
    refine lv_iconst (v := 0) hx hb d_Ru_ofBits_193 (by decide) ?_
    cases h
    exact ck_iret hx hb hr hlk hK hP hD hS d_Ru_ofBits_194
  rw [if_neg c_10] at h
  by_cases c_11 : p1 = 20
  · rw [if_pos c_11] at h
    refine lv_tableIn (tgt := 193) hx hb d_Ru_ofBits_1 (by rw [c_11]; decide) (by rw [c_11]; decide) (by rw [c_11]; rfl) (by decide) ?_
    refine lv_iconst (v := 0) hx hb d_Ru_ofBits_193 (by decide) ?_
    cases h
    exact ck_iret hx hb hr hlk hK hP hD hS d_Ru_ofBits_194
  rw [if_neg c_11] at h
  by_cases c_12 : p1 = 21
  · rw [if_pos c_12] at h
    refine lv_tableIn (tgt := 193) hx hb d_Ru_ofBits_1 (by rw [c_12]; decide) (by rw [c_12]; decide) (by rw [c_12]; rfl) (by decide) ?_
    refine lv_iconst (v := 0) hx hb d_Ru_ofBits_193 (by decide) ?_
    cases h
    exact ck_iret hx hb hr hlk hK hP hD hS d_Ru_ofBits_194
  rw [if_neg c_12] at h
  by_cases c_13 : p1 = 22
  · rw [if_pos c_13] at h
    refine lv_tableIn (tgt := 193) hx hb d_Ru_ofBits_1 (by rw [c_13]; decide) (by rw [c_13]; decide) (by rw [c_13]; rfl) (by decide) ?_
    refine lv_iconst (v := 0) hx hb d_Ru_ofBits_193 (by decide) ?_
    cases h
    exact ck_iret hx hb hr hlk hK hP hD hS d_Ru_ofBits_194
  rw [if_neg c_13] at h
  by_cases c_14 : p1 = 23
  · rw [if_pos c_14] at h
    refine lv_tableIn (tgt := 146) hx hb d_Ru_ofBits_1 (by rw [c_14]; decide) (by rw [c_14]; decide) (by rw [c_14]; rfl) (by decide) ?_
    refine lv_iload_n hx hb d_Ru_ofBits_146 rfl (lv_at hl 1 rfl) ?_
    refine lv_iload_n hx hb d_Ru_ofBits_147 rfl (lv_at hl 2 rfl) ?_
    refine lv_iand hx hb d_Ru_ofBits_148 ?_
    cases h
    exact ck_iret hx hb hr hlk hK hP hD hS d_Ru_ofBits_149
  rw [if_neg c_14] at h
  by_cases c_15 : p1 = 24
  · rw [if_pos c_15] at h
    refine lv_tableIn (tgt := 150) hx hb d_Ru_ofBits_1 (by rw [c_15]; decide) (by rw [c_15]; decide) (by rw [c_15]; rfl) (by decide) ?_
    refine lv_iload_n hx hb d_Ru_ofBits_150 rfl (lv_at hl 1 rfl) ?_
    refine lv_iload_n hx hb d_Ru_ofBits_151 rfl (lv_at hl 2 rfl) ?_
    refine lv_ior hx hb d_Ru_ofBits_152 ?_
    cases h
    exact ck_iret hx hb hr hlk hK hP hD hS d_Ru_ofBits_153
  rw [if_neg c_15] at h
  by_cases c_16 : p1 = 25
  · rw [if_pos c_16] at h
    refine lv_tableIn (tgt := 154) hx hb d_Ru_ofBits_1 (by rw [c_16]; decide) (by rw [c_16]; decide) (by rw [c_16]; rfl) (by decide) ?_
    refine lv_iload_n hx hb d_Ru_ofBits_154 rfl (lv_at hl 1 rfl) ?_
    refine lv_iload_n hx hb d_Ru_ofBits_155 rfl (lv_at hl 2 rfl) ?_
    refine lv_ixor hx hb d_Ru_ofBits_156 ?_
    cases h
    exact ck_iret hx hb hr hlk hK hP hD hS d_Ru_ofBits_157
  rw [if_neg c_16] at h
  by_cases c_17 : p1 = 26
  · rw [if_pos c_17] at h
    refine lv_tableIn (tgt := 158) hx hb d_Ru_ofBits_1 (by rw [c_17]; decide) (by rw [c_17]; decide) (by rw [c_17]; rfl) (by decide) ?_
    refine lv_iload_n hx hb d_Ru_ofBits_158 rfl (lv_at hl 1 rfl) ?_
    refine lv_iconst (v := -1) hx hb d_Ru_ofBits_159 (by decide) ?_
    refine lv_ixor hx hb d_Ru_ofBits_160 ?_
    cases h
    exact ck_iret hx hb hr hlk hK hP hD hS d_Ru_ofBits_161
  rw [if_neg c_17] at h
  by_cases c_18 : p1 = 27
  · rw [if_pos c_18] at h
    refine lv_tableIn (tgt := 162) hx hb d_Ru_ofBits_1 (by rw [c_18]; decide) (by rw [c_18]; decide) (by rw [c_18]; rfl) (by decide) ?_
    refine lv_iload_n hx hb d_Ru_ofBits_162 rfl (lv_at hl 1 rfl) ?_
    refine lv_iload_n hx hb d_Ru_ofBits_163 rfl (lv_at hl 2 rfl) ?_
    refine lv_bipush (v := 31) hx hb d_Ru_ofBits_164 (by decide) ?_
    refine lv_iand hx hb d_Ru_ofBits_166 ?_
    refine lv_ishl hx hb d_Ru_ofBits_167 ?_
    cases h
    exact ck_iret hx hb hr hlk hK hP hD hS d_Ru_ofBits_168
  rw [if_neg c_18] at h
  by_cases c_19 : p1 = 28
  · rw [if_pos c_19] at h
    refine lv_tableIn (tgt := 169) hx hb d_Ru_ofBits_1 (by rw [c_19]; decide) (by rw [c_19]; decide) (by rw [c_19]; rfl) (by decide) ?_
    refine lv_iload_n hx hb d_Ru_ofBits_169 rfl (lv_at hl 1 rfl) ?_
    refine lv_iload_n hx hb d_Ru_ofBits_170 rfl (lv_at hl 2 rfl) ?_
    refine lv_bipush (v := 31) hx hb d_Ru_ofBits_171 (by decide) ?_
    refine lv_iand hx hb d_Ru_ofBits_173 ?_
    refine lv_ishr hx hb d_Ru_ofBits_174 ?_
    cases h
    exact ck_iret hx hb hr hlk hK hP hD hS d_Ru_ofBits_175
  rw [if_neg c_19] at h
  by_cases c_20 : p1 = 29
  · rw [if_pos c_20] at h
    refine lv_tableIn (tgt := 176) hx hb d_Ru_ofBits_1 (by rw [c_20]; decide) (by rw [c_20]; decide) (by rw [c_20]; rfl) (by decide) ?_
    refine lv_iload_n hx hb d_Ru_ofBits_176 rfl (lv_at hl 1 rfl) ?_
    refine lv_iload_n hx hb d_Ru_ofBits_177 rfl (lv_at hl 2 rfl) ?_
    refine lv_bipush (v := 31) hx hb d_Ru_ofBits_178 (by decide) ?_
    refine lv_iand hx hb d_Ru_ofBits_180 ?_
    refine lv_iushr hx hb d_Ru_ofBits_181 rfl ?_
    cases h
    exact ck_iret hx hb hr hlk hK hP hD hS d_Ru_ofBits_182
  rw [if_neg c_20] at h
  by_cases c_21 : p1 = 30
  · rw [if_pos c_21] at h
    refine lv_tableIn (tgt := 193) hx hb d_Ru_ofBits_1 (by rw [c_21]; decide) (by rw [c_21]; decide) (by rw [c_21]; rfl) (by decide) ?_
    refine lv_iconst (v := 0) hx hb d_Ru_ofBits_193 (by decide) ?_
    cases h
    exact ck_iret hx hb hr hlk hK hP hD hS d_Ru_ofBits_194
  rw [if_neg c_21] at h
  by_cases c_22 : p1 = 31
  · rw [if_pos c_22] at h
    refine lv_tableIn (tgt := 193) hx hb d_Ru_ofBits_1 (by rw [c_22]; decide) (by rw [c_22]; decide) (by rw [c_22]; rfl) (by decide) ?_
    refine lv_iconst (v := 0) hx hb d_Ru_ofBits_193 (by decide) ?_
    cases h
    exact ck_iret hx hb hr hlk hK hP hD hS d_Ru_ofBits_194
  rw [if_neg c_22] at h
  by_cases c_23 : p1 = 32
  · rw [if_pos c_23] at h
    refine lv_tableIn (tgt := 193) hx hb d_Ru_ofBits_1 (by rw [c_23]; decide) (by rw [c_23]; decide) (by rw [c_23]; rfl) (by decide) ?_
    refine lv_iconst (v := 0) hx hb d_Ru_ofBits_193 (by decide) ?_
    cases h
    exact ck_iret hx hb hr hlk hK hP hD hS d_Ru_ofBits_194
  rw [if_neg c_23] at h
  by_cases c_24 : p1 = 33
  · rw [if_pos c_24] at h
    refine lv_tableIn (tgt := 193) hx hb d_Ru_ofBits_1 (by rw [c_24]; decide) (by rw [c_24]; decide) (by rw [c_24]; rfl) (by decide) ?_
    refine lv_iconst (v := 0) hx hb d_Ru_ofBits_193 (by decide) ?_
    cases h
    exact ck_iret hx hb hr hlk hK hP hD hS d_Ru_ofBits_194
  rw [if_neg c_24] at h
  by_cases c_25 : p1 = 34
  · rw [if_pos c_25] at h
    refine lv_tableIn (tgt := 193) hx hb d_Ru_ofBits_1 (by rw [c_25]; decide) (by rw [c_25]; decide) (by rw [c_25]; rfl) (by decide) ?_
    refine lv_iconst (v := 0) hx hb d_Ru_ofBits_193 (by decide) ?_
    cases h
    exact ck_iret hx hb hr hlk hK hP hD hS d_Ru_ofBits_194
  rw [if_neg c_25] at h
  by_cases c_26 : p1 = 35
  · rw [if_pos c_26] at h
    refine lv_tableIn (tgt := 193) hx hb d_Ru_ofBits_1 (by rw [c_26]; decide) (by rw [c_26]; decide) (by rw [c_26]; rfl) (by decide) ?_
    refine lv_iconst (v := 0) hx hb d_Ru_ofBits_193 (by decide) ?_
    cases h
    exact ck_iret hx hb hr hlk hK hP hD hS d_Ru_ofBits_194
  rw [if_neg c_26] at h
  by_cases c_27 : p1 = 36
  · rw [if_pos c_27] at h
    refine lv_tableIn (tgt := 193) hx hb d_Ru_ofBits_1 (by rw [c_27]; decide) (by rw [c_27]; decide) (by rw [c_27]; rfl) (by decide) ?_
    refine lv_iconst (v := 0) hx hb d_Ru_ofBits_193 (by decide) ?_
    cases h
    exact ck_iret hx hb hr hlk hK hP hD hS d_Ru_ofBits_194
  rw [if_neg c_27] at h
  by_cases c_28 : p1 = 37
  · rw [if_pos c_28] at h
    refine lv_tableIn (tgt := 193) hx hb d_Ru_ofBits_1 (by rw [c_28]; decide) (by rw [c_28]; decide) (by rw [c_28]; rfl) (by decide) ?_
    refine lv_iconst (v := 0) hx hb d_Ru_ofBits_193 (by decide) ?_
    cases h
    exact ck_iret hx hb hr hlk hK hP hD hS d_Ru_ofBits_194
  rw [if_neg c_28] at h
  by_cases c_29 : p1 = 38
  · rw [if_pos c_29] at h
    refine lv_tableIn (tgt := 193) hx hb d_Ru_ofBits_1 (by rw [c_29]; decide) (by rw [c_29]; decide) (by rw [c_29]; rfl) (by decide) ?_
    refine lv_iconst (v := 0) hx hb d_Ru_ofBits_193 (by decide) ?_
    cases h
    exact ck_iret hx hb hr hlk hK hP hD hS d_Ru_ofBits_194
  rw [if_neg c_29] at h
  by_cases c_30 : p1 = 39
  · rw [if_pos c_30] at h
    refine lv_tableIn (tgt := 183) hx hb d_Ru_ofBits_1 (by rw [c_30]; decide) (by rw [c_30]; decide) (by rw [c_30]; rfl) (by decide) ?_
    refine lv_iload_n hx hb d_Ru_ofBits_183 rfl (lv_at hl 1 rfl) ?_
    refine lv_bipush (v := 16) hx hb d_Ru_ofBits_184 (by decide) ?_
    refine lv_ishr hx hb d_Ru_ofBits_186 ?_
    cases h
    exact ck_iret hx hb hr hlk hK hP hD hS d_Ru_ofBits_187
  rw [if_neg c_30] at h
  by_cases c_31 : p1 = 40
  · rw [if_pos c_31] at h
    refine lv_tableIn (tgt := 188) hx hb d_Ru_ofBits_1 (by rw [c_31]; decide) (by rw [c_31]; decide) (by rw [c_31]; rfl) (by decide) ?_
    refine lv_iload_n hx hb d_Ru_ofBits_188 rfl (lv_at hl 1 rfl) ?_
    refine lv_bipush (v := 16) hx hb d_Ru_ofBits_189 (by decide) ?_
    refine lv_ishl hx hb d_Ru_ofBits_191 ?_
    cases h
    exact ck_iret hx hb hr hlk hK hP hD hS d_Ru_ofBits_192
  rw [if_neg c_31] at h
  cases h
def pf_Ru_ofParts (p1 : Int32) (p2 : Int32) (p3 : Int32) (p4 : Int32) : Option (Int32) :=
  if p1 < 1 ∨ 21 < p1 then
    Option.bind (pf_Ru_ofBits p1 p2 p3) (fun r_3 => 
    some r_3)
  else
  if p1 = 1 then
    some p2
  else
  if p1 = 2 then
    some (p2 + p3)
  else
  if p1 = 3 then
    some (p2 - p3)
  else
  if p1 = 4 then
    Option.bind (pf_Fi_product p2 p3) (fun r_9 => 
    some r_9)
  else
  if p1 = 5 then
    Option.bind (pf_Fi_product p2 p3) (fun r_12 => 
    some (r_12 + p4))
  else
  if p1 = 6 then
    Option.bind (pf_Ru_ofBits p1 p2 p3) (fun r_15 => 
    some r_15)
  else
  if p1 = 7 then
    Option.bind (pf_Ru_ofBits p1 p2 p3) (fun r_18 => 
    some r_18)
  else
  if p1 = 8 then
    Option.bind (pf_Ma_min p2 p3) (fun r_21 => 
    some r_21)
  else
  if p1 = 9 then
    Option.bind (pf_Ma_max p2 p3) (fun r_24 => 
    some r_24)
  else
  if p1 = 10 then
    Option.bind (pf_Fi_withoutSign p2) (fun r_27 => 
    some r_27)
  else
  if p1 = 11 then
    Option.bind (pf_Ru_ofBits p1 p2 p3) (fun r_30 => 
    some r_30)
  else
  if p1 = 12 then
    Option.bind (pf_Ru_ofBits p1 p2 p3) (fun r_33 => 
    some r_33)
  else
  if p1 = 13 then
    Option.bind (pf_Ru_ofBits p1 p2 p3) (fun r_36 => 
    some r_36)
  else
  if p1 = 14 then
    Option.bind (pf_Ru_ofBits p1 p2 p3) (fun r_39 => 
    some r_39)
  else
  if p1 = 15 then
    Option.bind (pf_Ru_ofBits p1 p2 p3) (fun r_42 => 
    some r_42)
  else
  if p1 = 16 then
    if p3 ≤ p2 then
      Option.bind (pf_Fi_truth (0 : Int32)) (fun r_46 => 
      some r_46)
    else
      Option.bind (pf_Fi_truth (1 : Int32)) (fun r_48 => 
      some r_48)
  else
  if p1 = 17 then
    if p2 < p3 then
      Option.bind (pf_Fi_truth (0 : Int32)) (fun r_52 => 
      some r_52)
    else
      Option.bind (pf_Fi_truth (1 : Int32)) (fun r_54 => 
      some r_54)
  else
  if p1 = 18 then
    if p2 = p3 then
      Option.bind (pf_Fi_truth (1 : Int32)) (fun r_60 => 
      some r_60)
    else
      Option.bind (pf_Fi_truth (0 : Int32)) (fun r_58 => 
      some r_58)
  else
  if p1 = 19 then
    if p2 = p3 then
      Option.bind (pf_Fi_truth (0 : Int32)) (fun r_64 => 
      some r_64)
    else
      Option.bind (pf_Fi_truth (1 : Int32)) (fun r_66 => 
      some r_66)
  else
  if p1 = 20 then
    if p2 < 0 then
      some p4
    else
      some p3
  else
  if p1 = 21 then
    Option.bind (pf_Fi_product p2 (p3 - p4)) (fun r_71 => 
    some (r_71 + p4))
  else
    none
set_option maxHeartbeats 4000000 in
set_option maxRecDepth 100000 in
theorem k_Ru_ofParts (l : Launch) (dC : Nat → ClassId) (dI : Nat → Nat → Nat) (cI cJ : ClassId) (p1 : Int32) (p2 : Int32) (p3 : Int32) (p4 : Int32) (r : Int32) (h : pf_Ru_ofParts p1 p2 p3 p4 = some r) : ck_i l y_Ru_ofParts wm_Ru_ofParts ({ frames := 1, cells := 0, slots := 0, locals := 22 } : Room) [.int p1, .int p2, .int p3, .int p4] (dC, dI) [(cI, .int), (cJ, .long)] [] r [] := by
  refine ck_ofi (cc := c_Ru_ofParts) (maxL := 4) (ret := (some .int)) (by decide +kernel) rfl ?_
  intro p e s m below meth c A C0 hK hP hD hS hE
  obtain ⟨hx, hb, hr, hml, hown, hts, hlk, hA, hin⟩ := C0
  unfold pf_Ru_ofParts at h
  have hl := lv_entry ([.int p1, .int p2, .int p3, .int p4]) (n := 4) (Nat.le_of_ble_eq_true rfl)
  rw [lg_entry_eq]
  generalize (lg_sl ([.int p1, .int p2, .int p3, .int p4]) ++ List.replicate (4 - (lg_sl ([.int p1, .int p2, .int p3, .int p4])).length) Slot.unset).toArray = ls at hl ⊢
  have hl : lv_has ls 4 [(0, .int p1), (1, .int p2), (2, .int p3), (3, .int p4)] := hl
  refine lv_iload_n hx hb d_Ru_ofParts_0 rfl (lv_at hl 0 rfl) ?_
  by_cases c_1 : p1 < 1 ∨ 21 < p1
  · rw [if_pos c_1] at h
    refine lv_tableOut (tgt := 217) hx hb d_Ru_ofParts_1 (ch_out c_1 (by decide) (by decide)) (by decide) ?_
    refine lv_iload_n hx hb d_Ru_ofParts_217 rfl (lv_at hl 0 rfl) ?_
    refine lv_iload_n hx hb d_Ru_ofParts_218 rfl (lv_at hl 1 rfl) ?_
    refine lv_iload_n hx hb d_Ru_ofParts_219 rfl (lv_at hl 2 rfl) ?_
    obtain ⟨r_3, h_2, h⟩ := ch_bind h
    try dsimp only at h
    refine ck_goi (wc := []) (wr := []) (w1 := []) (va_runS (As := [.int p1, .int p2, .int p3]) (rest := []) ⟨hx, hb, hml, hown, hts⟩ (k_Ru_ofBits l dC dI cI cJ p1 p2 p3 r_3 h_2 _) (va_cwS 3 hts (gw_S tw_675 tw_676 tw_7 tw_677) rfl rfl rfl (by decide +kernel) ⟨Nat.le_of_ble_eq_true rfl, Nat.le_of_ble_eq_true rfl⟩) (ck_preS (wc := []) hK hP hD hS hA hE [] (by decide) rfl) rfl rfl hl.1 rfl (lv_room (Nat.le_of_ble_eq_true rfl)) d_Ru_ofParts_220 ⟨Nat.le_of_ble_eq_true rfl, Nat.le_of_ble_eq_true rfl⟩) hP hD hS hA [] [] rfl rfl (by decide) (by decide) (fun H locs hP hD hS => ?_)
    have hP : va_P (dC, dI) vwCl [] H := hP.sub [] rfl
    have hD : va_D A [] := hD.sub [] (by decide) rfl
    cases h
    exact ck_iret hx hb hr hlk hK hP hD hS d_Ru_ofParts_223
  rw [if_neg c_1] at h
  by_cases c_4 : p1 = 1
  · rw [if_pos c_4] at h
    refine lv_tableIn (tgt := 100) hx hb d_Ru_ofParts_1 (by rw [c_4]; decide) (by rw [c_4]; decide) (by rw [c_4]; rfl) (by decide) ?_
    refine lv_iload_n hx hb d_Ru_ofParts_100 rfl (lv_at hl 1 rfl) ?_
    cases h
    exact ck_iret hx hb hr hlk hK hP hD hS d_Ru_ofParts_101
  rw [if_neg c_4] at h
  by_cases c_5 : p1 = 2
  · rw [if_pos c_5] at h
    refine lv_tableIn (tgt := 102) hx hb d_Ru_ofParts_1 (by rw [c_5]; decide) (by rw [c_5]; decide) (by rw [c_5]; rfl) (by decide) ?_
    refine lv_iload_n hx hb d_Ru_ofParts_102 rfl (lv_at hl 1 rfl) ?_
    refine lv_iload_n hx hb d_Ru_ofParts_103 rfl (lv_at hl 2 rfl) ?_
    refine lv_iadd hx hb d_Ru_ofParts_104 ?_
    cases h
    exact ck_iret hx hb hr hlk hK hP hD hS d_Ru_ofParts_105
  rw [if_neg c_5] at h
  by_cases c_6 : p1 = 3
  · rw [if_pos c_6] at h
    refine lv_tableIn (tgt := 106) hx hb d_Ru_ofParts_1 (by rw [c_6]; decide) (by rw [c_6]; decide) (by rw [c_6]; rfl) (by decide) ?_
    refine lv_iload_n hx hb d_Ru_ofParts_106 rfl (lv_at hl 1 rfl) ?_
    refine lv_iload_n hx hb d_Ru_ofParts_107 rfl (lv_at hl 2 rfl) ?_
    refine lv_isub hx hb d_Ru_ofParts_108 ?_
    cases h
    exact ck_iret hx hb hr hlk hK hP hD hS d_Ru_ofParts_109
  rw [if_neg c_6] at h
  by_cases c_7 : p1 = 4
  · rw [if_pos c_7] at h
    refine lv_tableIn (tgt := 110) hx hb d_Ru_ofParts_1 (by rw [c_7]; decide) (by rw [c_7]; decide) (by rw [c_7]; rfl) (by decide) ?_
    refine lv_iload_n hx hb d_Ru_ofParts_110 rfl (lv_at hl 1 rfl) ?_
    refine lv_iload_n hx hb d_Ru_ofParts_111 rfl (lv_at hl 2 rfl) ?_
    obtain ⟨r_9, h_8, h⟩ := ch_bind h
    try dsimp only at h
    refine ck_goi (wc := []) (wr := []) (w1 := []) (va_runS (As := [.int p2, .int p3]) (rest := []) ⟨hx, hb, hml, hown, hts⟩ (k_Fi_product l dC dI cI cJ p2 p3 r_9 h_8 _) (va_cwS 2 hts (gw_S tw_603 tw_604 tw_20 tw_605) rfl rfl rfl (by decide +kernel) ⟨Nat.le_of_ble_eq_true rfl, Nat.le_of_ble_eq_true rfl⟩) (ck_preS (wc := []) hK hP hD hS hA hE [] (by decide) rfl) rfl rfl hl.1 rfl (lv_room (Nat.le_of_ble_eq_true rfl)) d_Ru_ofParts_112 ⟨Nat.le_of_ble_eq_true rfl, Nat.le_of_ble_eq_true rfl⟩) hP hD hS hA [] [] rfl rfl (by decide) (by decide) (fun H locs hP hD hS => ?_)
    have hP : va_P (dC, dI) vwCl [] H := hP.sub [] rfl
    have hD : va_D A [] := hD.sub [] (by decide) rfl
    cases h
    exact ck_iret hx hb hr hlk hK hP hD hS d_Ru_ofParts_115
  rw [if_neg c_7] at h
  by_cases c_10 : p1 = 5
  · rw [if_pos c_10] at h
    refine lv_tableIn (tgt := 116) hx hb d_Ru_ofParts_1 (by rw [c_10]; decide) (by rw [c_10]; decide) (by rw [c_10]; rfl) (by decide) ?_
    refine lv_iload_n hx hb d_Ru_ofParts_116 rfl (lv_at hl 1 rfl) ?_
    refine lv_iload_n hx hb d_Ru_ofParts_117 rfl (lv_at hl 2 rfl) ?_
    obtain ⟨r_12, h_11, h⟩ := ch_bind h
    try dsimp only at h
    refine ck_goi (wc := []) (wr := []) (w1 := []) (va_runS (As := [.int p2, .int p3]) (rest := []) ⟨hx, hb, hml, hown, hts⟩ (k_Fi_product l dC dI cI cJ p2 p3 r_12 h_11 _) (va_cwS 2 hts (gw_S tw_603 tw_604 tw_20 tw_605) rfl rfl rfl (by decide +kernel) ⟨Nat.le_of_ble_eq_true rfl, Nat.le_of_ble_eq_true rfl⟩) (ck_preS (wc := []) hK hP hD hS hA hE [] (by decide) rfl) rfl rfl hl.1 rfl (lv_room (Nat.le_of_ble_eq_true rfl)) d_Ru_ofParts_118 ⟨Nat.le_of_ble_eq_true rfl, Nat.le_of_ble_eq_true rfl⟩) hP hD hS hA [] [] rfl rfl (by decide) (by decide) (fun H locs hP hD hS => ?_)
    have hP : va_P (dC, dI) vwCl [] H := hP.sub [] rfl
    have hD : va_D A [] := hD.sub [] (by decide) rfl
    refine lv_iload_n hx hb d_Ru_ofParts_121 rfl (lv_at hl 3 rfl) ?_
    refine lv_iadd hx hb d_Ru_ofParts_122 ?_
    cases h
    exact ck_iret hx hb hr hlk hK hP hD hS d_Ru_ofParts_123
  rw [if_neg c_10] at h
  by_cases c_13 : p1 = 6
  · rw [if_pos c_13] at h
    refine lv_tableIn (tgt := 217) hx hb d_Ru_ofParts_1 (by rw [c_13]; decide) (by rw [c_13]; decide) (by rw [c_13]; rfl) (by decide) ?_
    refine lv_iload_n hx hb d_Ru_ofParts_217 rfl (lv_at hl 0 rfl) ?_
    refine lv_iload_n hx hb d_Ru_ofParts_218 rfl (lv_at hl 1 rfl) ?_
    refine lv_iload_n hx hb d_Ru_ofParts_219 rfl (lv_at hl 2 rfl) ?_
    obtain ⟨r_15, h_14, h⟩ := ch_bind h
    try dsimp only at h
    refine ck_goi (wc := []) (wr := []) (w1 := []) (va_runS (As := [.int p1, .int p2, .int p3]) (rest := []) ⟨hx, hb, hml, hown, hts⟩ (k_Ru_ofBits l dC dI cI cJ p1 p2 p3 r_15 h_14 _) (va_cwS 3 hts (gw_S tw_675 tw_676 tw_7 tw_677) rfl rfl rfl (by decide +kernel) ⟨Nat.le_of_ble_eq_true rfl, Nat.le_of_ble_eq_true rfl⟩) (ck_preS (wc := []) hK hP hD hS hA hE [] (by decide) rfl) rfl rfl hl.1 rfl (lv_room (Nat.le_of_ble_eq_true rfl)) d_Ru_ofParts_220 ⟨Nat.le_of_ble_eq_true rfl, Nat.le_of_ble_eq_true rfl⟩) hP hD hS hA [] [] rfl rfl (by decide) (by decide) (fun H locs hP hD hS => ?_)
    have hP : va_P (dC, dI) vwCl [] H := hP.sub [] rfl
    have hD : va_D A [] := hD.sub [] (by decide) rfl
    cases h
    exact ck_iret hx hb hr hlk hK hP hD hS d_Ru_ofParts_223
  rw [if_neg c_13] at h
  by_cases c_16 : p1 = 7
  · rw [if_pos c_16] at h
    refine lv_tableIn (tgt := 217) hx hb d_Ru_ofParts_1 (by rw [c_16]; decide) (by rw [c_16]; decide) (by rw [c_16]; rfl) (by decide) ?_
    refine lv_iload_n hx hb d_Ru_ofParts_217 rfl (lv_at hl 0 rfl) ?_
    refine lv_iload_n hx hb d_Ru_ofParts_218 rfl (lv_at hl 1 rfl) ?_
    refine lv_iload_n hx hb d_Ru_ofParts_219 rfl (lv_at hl 2 rfl) ?_
    obtain ⟨r_18, h_17, h⟩ := ch_bind h
    try dsimp only at h
    refine ck_goi (wc := []) (wr := []) (w1 := []) (va_runS (As := [.int p1, .int p2, .int p3]) (rest := []) ⟨hx, hb, hml, hown, hts⟩ (k_Ru_ofBits l dC dI cI cJ p1 p2 p3 r_18 h_17 _) (va_cwS 3 hts (gw_S tw_675 tw_676 tw_7 tw_677) rfl rfl rfl (by decide +kernel) ⟨Nat.le_of_ble_eq_true rfl, Nat.le_of_ble_eq_true rfl⟩) (ck_preS (wc := []) hK hP hD hS hA hE [] (by decide) rfl) rfl rfl hl.1 rfl (lv_room (Nat.le_of_ble_eq_true rfl)) d_Ru_ofParts_220 ⟨Nat.le_of_ble_eq_true rfl, Nat.le_of_ble_eq_true rfl⟩) hP hD hS hA [] [] rfl rfl (by decide) (by decide) (fun H locs hP hD hS => ?_)
    have hP : va_P (dC, dI) vwCl [] H := hP.sub [] rfl
    have hD : va_D A [] := hD.sub [] (by decide) rfl
    cases h
    exact ck_iret hx hb hr hlk hK hP hD hS d_Ru_ofParts_223
  rw [if_neg c_16] at h
  by_cases c_19 : p1 = 8
  · rw [if_pos c_19] at h
    refine lv_tableIn (tgt := 124) hx hb d_Ru_ofParts_1 (by rw [c_19]; decide) (by rw [c_19]; decide) (by rw [c_19]; rfl) (by decide) ?_
    refine lv_iload_n hx hb d_Ru_ofParts_124 rfl (lv_at hl 1 rfl) ?_
    refine lv_iload_n hx hb d_Ru_ofParts_125 rfl (lv_at hl 2 rfl) ?_
    obtain ⟨r_21, h_20, h⟩ := ch_bind h
    try dsimp only at h
    refine ck_goi (wc := []) (wr := []) (w1 := []) (va_runS (As := [.int p2, .int p3]) (rest := []) ⟨hx, hb, hml, hown, hts⟩ (k_Ma_min l dC dI cI cJ p2 p3 r_21 h_20 _) (va_cwS 2 hts (gw_S tw_665 tw_304 tw_4 tw_305) rfl rfl rfl (by decide +kernel) ⟨Nat.le_of_ble_eq_true rfl, Nat.le_of_ble_eq_true rfl⟩) (ck_preS (wc := []) hK hP hD hS hA hE [] (by decide) rfl) rfl rfl hl.1 rfl (lv_room (Nat.le_of_ble_eq_true rfl)) d_Ru_ofParts_126 ⟨Nat.le_of_ble_eq_true rfl, Nat.le_of_ble_eq_true rfl⟩) hP hD hS hA [] [] rfl rfl (by decide) (by decide) (fun H locs hP hD hS => ?_)
    have hP : va_P (dC, dI) vwCl [] H := hP.sub [] rfl
    have hD : va_D A [] := hD.sub [] (by decide) rfl
    cases h
    exact ck_iret hx hb hr hlk hK hP hD hS d_Ru_ofParts_129
  rw [if_neg c_19] at h
  by_cases c_22 : p1 = 9
  · rw [if_pos c_22] at h
    refine lv_tableIn (tgt := 130) hx hb d_Ru_ofParts_1 (by rw [c_22]; decide) (by rw [c_22]; decide) (by rw [c_22]; rfl) (by decide) ?_
    refine lv_iload_n hx hb d_Ru_ofParts_130 rfl (lv_at hl 1 rfl) ?_
    refine lv_iload_n hx hb d_Ru_ofParts_131 rfl (lv_at hl 2 rfl) ?_
    obtain ⟨r_24, h_23, h⟩ := ch_bind h
    try dsimp only at h
    refine ck_goi (wc := []) (wr := []) (w1 := []) (va_runS (As := [.int p2, .int p3]) (rest := []) ⟨hx, hb, hml, hown, hts⟩ (k_Ma_max l dC dI cI cJ p2 p3 r_24 h_23 _) (va_cwS 2 hts (gw_S tw_666 tw_42 tw_4 tw_43) rfl rfl rfl (by decide +kernel) ⟨Nat.le_of_ble_eq_true rfl, Nat.le_of_ble_eq_true rfl⟩) (ck_preS (wc := []) hK hP hD hS hA hE [] (by decide) rfl) rfl rfl hl.1 rfl (lv_room (Nat.le_of_ble_eq_true rfl)) d_Ru_ofParts_132 ⟨Nat.le_of_ble_eq_true rfl, Nat.le_of_ble_eq_true rfl⟩) hP hD hS hA [] [] rfl rfl (by decide) (by decide) (fun H locs hP hD hS => ?_)
    have hP : va_P (dC, dI) vwCl [] H := hP.sub [] rfl
    have hD : va_D A [] := hD.sub [] (by decide) rfl
    cases h
    exact ck_iret hx hb hr hlk hK hP hD hS d_Ru_ofParts_135
  rw [if_neg c_22] at h
  by_cases c_25 : p1 = 10
  · rw [if_pos c_25] at h
    refine lv_tableIn (tgt := 136) hx hb d_Ru_ofParts_1 (by rw [c_25]; decide) (by rw [c_25]; decide) (by rw [c_25]; rfl) (by decide) ?_
    refine lv_iload_n hx hb d_Ru_ofParts_136 rfl (lv_at hl 1 rfl) ?_
    obtain ⟨r_27, h_26, h⟩ := ch_bind h
    try dsimp only at h
    refine ck_goi (wc := []) (wr := []) (w1 := []) (va_runS (As := [.int p2]) (rest := []) ⟨hx, hb, hml, hown, hts⟩ (k_Fi_withoutSign l dC dI cI cJ p2 r_27 h_26 _) (va_cwS 1 hts (gw_S tw_667 tw_668 tw_20 tw_669) rfl rfl rfl (by decide +kernel) ⟨Nat.le_of_ble_eq_true rfl, Nat.le_of_ble_eq_true rfl⟩) (ck_preS (wc := []) hK hP hD hS hA hE [] (by decide) rfl) rfl rfl hl.1 rfl (lv_room (Nat.le_of_ble_eq_true rfl)) d_Ru_ofParts_137 ⟨Nat.le_of_ble_eq_true rfl, Nat.le_of_ble_eq_true rfl⟩) hP hD hS hA [] [] rfl rfl (by decide) (by decide) (fun H locs hP hD hS => ?_)
    have hP : va_P (dC, dI) vwCl [] H := hP.sub [] rfl
    have hD : va_D A [] := hD.sub [] (by decide) rfl
    cases h
    exact ck_iret hx hb hr hlk hK hP hD hS d_Ru_ofParts_140
  rw [if_neg c_25] at h
  by_cases c_28 : p1 = 11
  · rw [if_pos c_28] at h
    refine lv_tableIn (tgt := 217) hx hb d_Ru_ofParts_1 (by rw [c_28]; decide) (by rw [c_28]; decide) (by rw [c_28]; rfl) (by decide) ?_
    refine lv_iload_n hx hb d_Ru_ofParts_217 rfl (lv_at hl 0 rfl) ?_
    refine lv_iload_n hx hb d_Ru_ofParts_218 rfl (lv_at hl 1 rfl) ?_
    refine lv_iload_n hx hb d_Ru_ofParts_219 rfl (lv_at hl 2 rfl) ?_
    obtain ⟨r_30, h_29, h⟩ := ch_bind h
    try dsimp only at h
    refine ck_goi (wc := []) (wr := []) (w1 := []) (va_runS (As := [.int p1, .int p2, .int p3]) (rest := []) ⟨hx, hb, hml, hown, hts⟩ (k_Ru_ofBits l dC dI cI cJ p1 p2 p3 r_30 h_29 _) (va_cwS 3 hts (gw_S tw_675 tw_676 tw_7 tw_677) rfl rfl rfl (by decide +kernel) ⟨Nat.le_of_ble_eq_true rfl, Nat.le_of_ble_eq_true rfl⟩) (ck_preS (wc := []) hK hP hD hS hA hE [] (by decide) rfl) rfl rfl hl.1 rfl (lv_room (Nat.le_of_ble_eq_true rfl)) d_Ru_ofParts_220 ⟨Nat.le_of_ble_eq_true rfl, Nat.le_of_ble_eq_true rfl⟩) hP hD hS hA [] [] rfl rfl (by decide) (by decide) (fun H locs hP hD hS => ?_)
    have hP : va_P (dC, dI) vwCl [] H := hP.sub [] rfl
    have hD : va_D A [] := hD.sub [] (by decide) rfl
    cases h
    exact ck_iret hx hb hr hlk hK hP hD hS d_Ru_ofParts_223
  rw [if_neg c_28] at h
  by_cases c_31 : p1 = 12
  · rw [if_pos c_31] at h
    refine lv_tableIn (tgt := 217) hx hb d_Ru_ofParts_1 (by rw [c_31]; decide) (by rw [c_31]; decide) (by rw [c_31]; rfl) (by decide) ?_
    refine lv_iload_n hx hb d_Ru_ofParts_217 rfl (lv_at hl 0 rfl) ?_
    refine lv_iload_n hx hb d_Ru_ofParts_218 rfl (lv_at hl 1 rfl) ?_
    refine lv_iload_n hx hb d_Ru_ofParts_219 rfl (lv_at hl 2 rfl) ?_
    obtain ⟨r_33, h_32, h⟩ := ch_bind h
    try dsimp only at h
    refine ck_goi (wc := []) (wr := []) (w1 := []) (va_runS (As := [.int p1, .int p2, .int p3]) (rest := []) ⟨hx, hb, hml, hown, hts⟩ (k_Ru_ofBits l dC dI cI cJ p1 p2 p3 r_33 h_32 _) (va_cwS 3 hts (gw_S tw_675 tw_676 tw_7 tw_677) rfl rfl rfl (by decide +kernel) ⟨Nat.le_of_ble_eq_true rfl, Nat.le_of_ble_eq_true rfl⟩) (ck_preS (wc := []) hK hP hD hS hA hE [] (by decide) rfl) rfl rfl hl.1 rfl (lv_room (Nat.le_of_ble_eq_true rfl)) d_Ru_ofParts_220 ⟨Nat.le_of_ble_eq_true rfl, Nat.le_of_ble_eq_true rfl⟩) hP hD hS hA [] [] rfl rfl (by decide) (by decide) (fun H locs hP hD hS => ?_)
    have hP : va_P (dC, dI) vwCl [] H := hP.sub [] rfl
    have hD : va_D A [] := hD.sub [] (by decide) rfl
    cases h
    exact ck_iret hx hb hr hlk hK hP hD hS d_Ru_ofParts_223
  rw [if_neg c_31] at h
  by_cases c_34 : p1 = 13
  · rw [if_pos c_34] at h
    refine lv_tableIn (tgt := 217) hx hb d_Ru_ofParts_1 (by rw [c_34]; decide) (by rw [c_34]; decide) (by rw [c_34]; rfl) (by decide) ?_
    refine lv_iload_n hx hb d_Ru_ofParts_217 rfl (lv_at hl 0 rfl) ?_
    refine lv_iload_n hx hb d_Ru_ofParts_218 rfl (lv_at hl 1 rfl) ?_
    refine lv_iload_n hx hb d_Ru_ofParts_219 rfl (lv_at hl 2 rfl) ?_
    obtain ⟨r_36, h_35, h⟩ := ch_bind h
    try dsimp only at h
    refine ck_goi (wc := []) (wr := []) (w1 := []) (va_runS (As := [.int p1, .int p2, .int p3]) (rest := []) ⟨hx, hb, hml, hown, hts⟩ (k_Ru_ofBits l dC dI cI cJ p1 p2 p3 r_36 h_35 _) (va_cwS 3 hts (gw_S tw_675 tw_676 tw_7 tw_677) rfl rfl rfl (by decide +kernel) ⟨Nat.le_of_ble_eq_true rfl, Nat.le_of_ble_eq_true rfl⟩) (ck_preS (wc := []) hK hP hD hS hA hE [] (by decide) rfl) rfl rfl hl.1 rfl (lv_room (Nat.le_of_ble_eq_true rfl)) d_Ru_ofParts_220 ⟨Nat.le_of_ble_eq_true rfl, Nat.le_of_ble_eq_true rfl⟩) hP hD hS hA [] [] rfl rfl (by decide) (by decide) (fun H locs hP hD hS => ?_)
    have hP : va_P (dC, dI) vwCl [] H := hP.sub [] rfl
    have hD : va_D A [] := hD.sub [] (by decide) rfl
    cases h
    exact ck_iret hx hb hr hlk hK hP hD hS d_Ru_ofParts_223
  rw [if_neg c_34] at h
  by_cases c_37 : p1 = 14
  · rw [if_pos c_37] at h
    refine lv_tableIn (tgt := 217) hx hb d_Ru_ofParts_1 (by rw [c_37]; decide) (by rw [c_37]; decide) (by rw [c_37]; rfl) (by decide) ?_
    refine lv_iload_n hx hb d_Ru_ofParts_217 rfl (lv_at hl 0 rfl) ?_
    refine lv_iload_n hx hb d_Ru_ofParts_218 rfl (lv_at hl 1 rfl) ?_
    refine lv_iload_n hx hb d_Ru_ofParts_219 rfl (lv_at hl 2 rfl) ?_
    obtain ⟨r_39, h_38, h⟩ := ch_bind h
    try dsimp only at h
    refine ck_goi (wc := []) (wr := []) (w1 := []) (va_runS (As := [.int p1, .int p2, .int p3]) (rest := []) ⟨hx, hb, hml, hown, hts⟩ (k_Ru_ofBits l dC dI cI cJ p1 p2 p3 r_39 h_38 _) (va_cwS 3 hts (gw_S tw_675 tw_676 tw_7 tw_677) rfl rfl rfl (by decide +kernel) ⟨Nat.le_of_ble_eq_true rfl, Nat.le_of_ble_eq_true rfl⟩) (ck_preS (wc := []) hK hP hD hS hA hE [] (by decide) rfl) rfl rfl hl.1 rfl (lv_room (Nat.le_of_ble_eq_true rfl)) d_Ru_ofParts_220 ⟨Nat.le_of_ble_eq_true rfl, Nat.le_of_ble_eq_true rfl⟩) hP hD hS hA [] [] rfl rfl (by decide) (by decide) (fun H locs hP hD hS => ?_)
    have hP : va_P (dC, dI) vwCl [] H := hP.sub [] rfl
    have hD : va_D A [] := hD.sub [] (by decide) rfl
    cases h
    exact ck_iret hx hb hr hlk hK hP hD hS d_Ru_ofParts_223
  rw [if_neg c_37] at h
  by_cases c_40 : p1 = 15
  · rw [if_pos c_40] at h
    refine lv_tableIn (tgt := 217) hx hb d_Ru_ofParts_1 (by rw [c_40]; decide) (by rw [c_40]; decide) (by rw [c_40]; rfl) (by decide) ?_
    refine lv_iload_n hx hb d_Ru_ofParts_217 rfl (lv_at hl 0 rfl) ?_
    refine lv_iload_n hx hb d_Ru_ofParts_218 rfl (lv_at hl 1 rfl) ?_
    refine lv_iload_n hx hb d_Ru_ofParts_219 rfl (lv_at hl 2 rfl) ?_
    obtain ⟨r_42, h_41, h⟩ := ch_bind h
    try dsimp only at h
    refine ck_goi (wc := []) (wr := []) (w1 := []) (va_runS (As := [.int p1, .int p2, .int p3]) (rest := []) ⟨hx, hb, hml, hown, hts⟩ (k_Ru_ofBits l dC dI cI cJ p1 p2 p3 r_42 h_41 _) (va_cwS 3 hts (gw_S tw_675 tw_676 tw_7 tw_677) rfl rfl rfl (by decide +kernel) ⟨Nat.le_of_ble_eq_true rfl, Nat.le_of_ble_eq_true rfl⟩) (ck_preS (wc := []) hK hP hD hS hA hE [] (by decide) rfl) rfl rfl hl.1 rfl (lv_room (Nat.le_of_ble_eq_true rfl)) d_Ru_ofParts_220 ⟨Nat.le_of_ble_eq_true rfl, Nat.le_of_ble_eq_true rfl⟩) hP hD hS hA [] [] rfl rfl (by decide) (by decide) (fun H locs hP hD hS => ?_)
    have hP : va_P (dC, dI) vwCl [] H := hP.sub [] rfl
    have hD : va_D A [] := hD.sub [] (by decide) rfl
    cases h
    exact ck_iret hx hb hr hlk hK hP hD hS d_Ru_ofParts_223
  rw [if_neg c_40] at h
  by_cases c_43 : p1 = 16
  · rw [if_pos c_43] at h
    refine lv_tableIn (tgt := 141) hx hb d_Ru_ofParts_1 (by rw [c_43]; decide) (by rw [c_43]; decide) (by rw [c_43]; rfl) (by decide) ?_
    refine lv_iload_n hx hb d_Ru_ofParts_141 rfl (lv_at hl 1 rfl) ?_
    refine lv_iload_n hx hb d_Ru_ofParts_142 rfl (lv_at hl 2 rfl) ?_
    refine lv_icmp_ge (tgt := 150) hx hb d_Ru_ofParts_143 (by decide) (fun c_44 => ?_) (fun c_44 => ?_)
    · rw [if_pos c_44] at h
      refine lv_iconst (v := 0) hx hb d_Ru_ofParts_150 (by decide) ?_
      obtain ⟨r_46, h_45, h⟩ := ch_bind h
      try dsimp only at h
      refine ck_goi (wc := []) (wr := []) (w1 := []) (va_runS (As := [.int (0 : Int32)]) (rest := []) ⟨hx, hb, hml, hown, hts⟩ (k_Fi_truth l dC dI cI cJ (0 : Int32) r_46 h_45 _) (va_cwS 1 hts (gw_S tw_671 tw_672 tw_20 tw_673) rfl rfl rfl (by decide +kernel) ⟨Nat.le_of_ble_eq_true rfl, Nat.le_of_ble_eq_true rfl⟩) (ck_preS (wc := []) hK hP hD hS hA hE [] (by decide) rfl) rfl rfl hl.1 rfl (lv_room (Nat.le_of_ble_eq_true rfl)) d_Ru_ofParts_151 ⟨Nat.le_of_ble_eq_true rfl, Nat.le_of_ble_eq_true rfl⟩) hP hD hS hA [] [] rfl rfl (by decide) (by decide) (fun H locs hP hD hS => ?_)
      have hP : va_P (dC, dI) vwCl [] H := hP.sub [] rfl
      have hD : va_D A [] := hD.sub [] (by decide) rfl
      cases h
      exact ck_iret hx hb hr hlk hK hP hD hS d_Ru_ofParts_154
    · rw [if_neg c_44] at h
      refine lv_iconst (v := 1) hx hb d_Ru_ofParts_146 (by decide) ?_
      refine lv_goto (tgt := 151) hx hb d_Ru_ofParts_147 (by decide) ?_
      obtain ⟨r_48, h_47, h⟩ := ch_bind h
      try dsimp only at h
      refine ck_goi (wc := []) (wr := []) (w1 := []) (va_runS (As := [.int (1 : Int32)]) (rest := []) ⟨hx, hb, hml, hown, hts⟩ (k_Fi_truth l dC dI cI cJ (1 : Int32) r_48 h_47 _) (va_cwS 1 hts (gw_S tw_671 tw_672 tw_20 tw_673) rfl rfl rfl (by decide +kernel) ⟨Nat.le_of_ble_eq_true rfl, Nat.le_of_ble_eq_true rfl⟩) (ck_preS (wc := []) hK hP hD hS hA hE [] (by decide) rfl) rfl rfl hl.1 rfl (lv_room (Nat.le_of_ble_eq_true rfl)) d_Ru_ofParts_151 ⟨Nat.le_of_ble_eq_true rfl, Nat.le_of_ble_eq_true rfl⟩) hP hD hS hA [] [] rfl rfl (by decide) (by decide) (fun H locs hP hD hS => ?_)
      have hP : va_P (dC, dI) vwCl [] H := hP.sub [] rfl
      have hD : va_D A [] := hD.sub [] (by decide) rfl
      cases h
      exact ck_iret hx hb hr hlk hK hP hD hS d_Ru_ofParts_154
  rw [if_neg c_43] at h
  by_cases c_49 : p1 = 17
  · rw [if_pos c_49] at h
    refine lv_tableIn (tgt := 155) hx hb d_Ru_ofParts_1 (by rw [c_49]; decide) (by rw [c_49]; decide) (by rw [c_49]; rfl) (by decide) ?_
    refine lv_iload_n hx hb d_Ru_ofParts_155 rfl (lv_at hl 1 rfl) ?_
    refine lv_iload_n hx hb d_Ru_ofParts_156 rfl (lv_at hl 2 rfl) ?_
    refine lv_icmp_lt (tgt := 164) hx hb d_Ru_ofParts_157 (by decide) (fun c_50 => ?_) (fun c_50 => ?_)
    · rw [if_pos c_50] at h
      refine lv_iconst (v := 0) hx hb d_Ru_ofParts_164 (by decide) ?_
      obtain ⟨r_52, h_51, h⟩ := ch_bind h
      try dsimp only at h
      refine ck_goi (wc := []) (wr := []) (w1 := []) (va_runS (As := [.int (0 : Int32)]) (rest := []) ⟨hx, hb, hml, hown, hts⟩ (k_Fi_truth l dC dI cI cJ (0 : Int32) r_52 h_51 _) (va_cwS 1 hts (gw_S tw_671 tw_672 tw_20 tw_673) rfl rfl rfl (by decide +kernel) ⟨Nat.le_of_ble_eq_true rfl, Nat.le_of_ble_eq_true rfl⟩) (ck_preS (wc := []) hK hP hD hS hA hE [] (by decide) rfl) rfl rfl hl.1 rfl (lv_room (Nat.le_of_ble_eq_true rfl)) d_Ru_ofParts_165 ⟨Nat.le_of_ble_eq_true rfl, Nat.le_of_ble_eq_true rfl⟩) hP hD hS hA [] [] rfl rfl (by decide) (by decide) (fun H locs hP hD hS => ?_)
      have hP : va_P (dC, dI) vwCl [] H := hP.sub [] rfl
      have hD : va_D A [] := hD.sub [] (by decide) rfl
      cases h
      exact ck_iret hx hb hr hlk hK hP hD hS d_Ru_ofParts_168
    · rw [if_neg c_50] at h
      refine lv_iconst (v := 1) hx hb d_Ru_ofParts_160 (by decide) ?_
      refine lv_goto (tgt := 165) hx hb d_Ru_ofParts_161 (by decide) ?_
      obtain ⟨r_54, h_53, h⟩ := ch_bind h
      try dsimp only at h
      refine ck_goi (wc := []) (wr := []) (w1 := []) (va_runS (As := [.int (1 : Int32)]) (rest := []) ⟨hx, hb, hml, hown, hts⟩ (k_Fi_truth l dC dI cI cJ (1 : Int32) r_54 h_53 _) (va_cwS 1 hts (gw_S tw_671 tw_672 tw_20 tw_673) rfl rfl rfl (by decide +kernel) ⟨Nat.le_of_ble_eq_true rfl, Nat.le_of_ble_eq_true rfl⟩) (ck_preS (wc := []) hK hP hD hS hA hE [] (by decide) rfl) rfl rfl hl.1 rfl (lv_room (Nat.le_of_ble_eq_true rfl)) d_Ru_ofParts_165 ⟨Nat.le_of_ble_eq_true rfl, Nat.le_of_ble_eq_true rfl⟩) hP hD hS hA [] [] rfl rfl (by decide) (by decide) (fun H locs hP hD hS => ?_)
      have hP : va_P (dC, dI) vwCl [] H := hP.sub [] rfl
      have hD : va_D A [] := hD.sub [] (by decide) rfl
      cases h
      exact ck_iret hx hb hr hlk hK hP hD hS d_Ru_ofParts_168
  rw [if_neg c_49] at h
  by_cases c_55 : p1 = 18
  · rw [if_pos c_55] at h
    refine lv_tableIn (tgt := 169) hx hb d_Ru_ofParts_1 (by rw [c_55]; decide) (by rw [c_55]; decide) (by rw [c_55]; rfl) (by decide) ?_
    refine lv_iload_n hx hb d_Ru_ofParts_169 rfl (lv_at hl 1 rfl) ?_
    refine lv_iload_n hx hb d_Ru_ofParts_170 rfl (lv_at hl 2 rfl) ?_
    refine lv_icmp_ne (tgt := 178) hx hb d_Ru_ofParts_171 (by decide) (fun c_56 => ?_) (fun c_56 => ?_)
    · rw [if_neg c_56] at h
      refine lv_iconst (v := 0) hx hb d_Ru_ofParts_178 (by decide) ?_
      obtain ⟨r_58, h_57, h⟩ := ch_bind h
      try dsimp only at h
      refine ck_goi (wc := []) (wr := []) (w1 := []) (va_runS (As := [.int (0 : Int32)]) (rest := []) ⟨hx, hb, hml, hown, hts⟩ (k_Fi_truth l dC dI cI cJ (0 : Int32) r_58 h_57 _) (va_cwS 1 hts (gw_S tw_671 tw_672 tw_20 tw_673) rfl rfl rfl (by decide +kernel) ⟨Nat.le_of_ble_eq_true rfl, Nat.le_of_ble_eq_true rfl⟩) (ck_preS (wc := []) hK hP hD hS hA hE [] (by decide) rfl) rfl rfl hl.1 rfl (lv_room (Nat.le_of_ble_eq_true rfl)) d_Ru_ofParts_179 ⟨Nat.le_of_ble_eq_true rfl, Nat.le_of_ble_eq_true rfl⟩) hP hD hS hA [] [] rfl rfl (by decide) (by decide) (fun H locs hP hD hS => ?_)
      have hP : va_P (dC, dI) vwCl [] H := hP.sub [] rfl
      have hD : va_D A [] := hD.sub [] (by decide) rfl
      cases h
      exact ck_iret hx hb hr hlk hK hP hD hS d_Ru_ofParts_182
    · rw [if_pos c_56] at h
      refine lv_iconst (v := 1) hx hb d_Ru_ofParts_174 (by decide) ?_
      refine lv_goto (tgt := 179) hx hb d_Ru_ofParts_175 (by decide) ?_
      obtain ⟨r_60, h_59, h⟩ := ch_bind h
      try dsimp only at h
      refine ck_goi (wc := []) (wr := []) (w1 := []) (va_runS (As := [.int (1 : Int32)]) (rest := []) ⟨hx, hb, hml, hown, hts⟩ (k_Fi_truth l dC dI cI cJ (1 : Int32) r_60 h_59 _) (va_cwS 1 hts (gw_S tw_671 tw_672 tw_20 tw_673) rfl rfl rfl (by decide +kernel) ⟨Nat.le_of_ble_eq_true rfl, Nat.le_of_ble_eq_true rfl⟩) (ck_preS (wc := []) hK hP hD hS hA hE [] (by decide) rfl) rfl rfl hl.1 rfl (lv_room (Nat.le_of_ble_eq_true rfl)) d_Ru_ofParts_179 ⟨Nat.le_of_ble_eq_true rfl, Nat.le_of_ble_eq_true rfl⟩) hP hD hS hA [] [] rfl rfl (by decide) (by decide) (fun H locs hP hD hS => ?_)
      have hP : va_P (dC, dI) vwCl [] H := hP.sub [] rfl
      have hD : va_D A [] := hD.sub [] (by decide) rfl
      cases h
      exact ck_iret hx hb hr hlk hK hP hD hS d_Ru_ofParts_182
  rw [if_neg c_55] at h
  by_cases c_61 : p1 = 19
  · rw [if_pos c_61] at h
    refine lv_tableIn (tgt := 183) hx hb d_Ru_ofParts_1 (by rw [c_61]; decide) (by rw [c_61]; decide) (by rw [c_61]; rfl) (by decide) ?_
    refine lv_iload_n hx hb d_Ru_ofParts_183 rfl (lv_at hl 1 rfl) ?_
    refine lv_iload_n hx hb d_Ru_ofParts_184 rfl (lv_at hl 2 rfl) ?_
    refine lv_icmp_eq (tgt := 192) hx hb d_Ru_ofParts_185 (by decide) (fun c_62 => ?_) (fun c_62 => ?_)
    · rw [if_pos c_62] at h
      refine lv_iconst (v := 0) hx hb d_Ru_ofParts_192 (by decide) ?_
      obtain ⟨r_64, h_63, h⟩ := ch_bind h
      try dsimp only at h
      refine ck_goi (wc := []) (wr := []) (w1 := []) (va_runS (As := [.int (0 : Int32)]) (rest := []) ⟨hx, hb, hml, hown, hts⟩ (k_Fi_truth l dC dI cI cJ (0 : Int32) r_64 h_63 _) (va_cwS 1 hts (gw_S tw_671 tw_672 tw_20 tw_673) rfl rfl rfl (by decide +kernel) ⟨Nat.le_of_ble_eq_true rfl, Nat.le_of_ble_eq_true rfl⟩) (ck_preS (wc := []) hK hP hD hS hA hE [] (by decide) rfl) rfl rfl hl.1 rfl (lv_room (Nat.le_of_ble_eq_true rfl)) d_Ru_ofParts_193 ⟨Nat.le_of_ble_eq_true rfl, Nat.le_of_ble_eq_true rfl⟩) hP hD hS hA [] [] rfl rfl (by decide) (by decide) (fun H locs hP hD hS => ?_)
      have hP : va_P (dC, dI) vwCl [] H := hP.sub [] rfl
      have hD : va_D A [] := hD.sub [] (by decide) rfl
      cases h
      exact ck_iret hx hb hr hlk hK hP hD hS d_Ru_ofParts_196
    · rw [if_neg c_62] at h
      refine lv_iconst (v := 1) hx hb d_Ru_ofParts_188 (by decide) ?_
      refine lv_goto (tgt := 193) hx hb d_Ru_ofParts_189 (by decide) ?_
      obtain ⟨r_66, h_65, h⟩ := ch_bind h
      try dsimp only at h
      refine ck_goi (wc := []) (wr := []) (w1 := []) (va_runS (As := [.int (1 : Int32)]) (rest := []) ⟨hx, hb, hml, hown, hts⟩ (k_Fi_truth l dC dI cI cJ (1 : Int32) r_66 h_65 _) (va_cwS 1 hts (gw_S tw_671 tw_672 tw_20 tw_673) rfl rfl rfl (by decide +kernel) ⟨Nat.le_of_ble_eq_true rfl, Nat.le_of_ble_eq_true rfl⟩) (ck_preS (wc := []) hK hP hD hS hA hE [] (by decide) rfl) rfl rfl hl.1 rfl (lv_room (Nat.le_of_ble_eq_true rfl)) d_Ru_ofParts_193 ⟨Nat.le_of_ble_eq_true rfl, Nat.le_of_ble_eq_true rfl⟩) hP hD hS hA [] [] rfl rfl (by decide) (by decide) (fun H locs hP hD hS => ?_)
      have hP : va_P (dC, dI) vwCl [] H := hP.sub [] rfl
      have hD : va_D A [] := hD.sub [] (by decide) rfl
      cases h
      exact ck_iret hx hb hr hlk hK hP hD hS d_Ru_ofParts_196
  rw [if_neg c_61] at h
  by_cases c_67 : p1 = 20
  · rw [if_pos c_67] at h
    refine lv_tableIn (tgt := 197) hx hb d_Ru_ofParts_1 (by rw [c_67]; decide) (by rw [c_67]; decide) (by rw [c_67]; rfl) (by decide) ?_
    refine lv_iload_n hx hb d_Ru_ofParts_197 rfl (lv_at hl 1 rfl) ?_
    refine lv_if_lt (tgt := 205) hx hb d_Ru_ofParts_198 (by decide) (fun c_68 => ?_) (fun c_68 => ?_)
    · rw [if_pos c_68] at h
      refine lv_iload_n hx hb d_Ru_ofParts_205 rfl (lv_at hl 3 rfl) ?_
      cases h
      exact ck_iret hx hb hr hlk hK hP hD hS d_Ru_ofParts_206
    · rw [if_neg c_68] at h
      refine lv_iload_n hx hb d_Ru_ofParts_201 rfl (lv_at hl 2 rfl) ?_
      refine lv_goto (tgt := 206) hx hb d_Ru_ofParts_202 (by decide) ?_
      cases h
      exact ck_iret hx hb hr hlk hK hP hD hS d_Ru_ofParts_206
  rw [if_neg c_67] at h
  by_cases c_69 : p1 = 21
  · rw [if_pos c_69] at h
    refine lv_tableIn (tgt := 207) hx hb d_Ru_ofParts_1 (by rw [c_69]; decide) (by rw [c_69]; decide) (by rw [c_69]; rfl) (by decide) ?_
    refine lv_iload_n hx hb d_Ru_ofParts_207 rfl (lv_at hl 1 rfl) ?_
    refine lv_iload_n hx hb d_Ru_ofParts_208 rfl (lv_at hl 2 rfl) ?_
    refine lv_iload_n hx hb d_Ru_ofParts_209 rfl (lv_at hl 3 rfl) ?_
    refine lv_isub hx hb d_Ru_ofParts_210 ?_
    obtain ⟨r_71, h_70, h⟩ := ch_bind h
    try dsimp only at h
    refine ck_goi (wc := []) (wr := []) (w1 := []) (va_runS (As := [.int p2, .int (p3 - p4)]) (rest := []) ⟨hx, hb, hml, hown, hts⟩ (k_Fi_product l dC dI cI cJ p2 (p3 - p4) r_71 h_70 _) (va_cwS 2 hts (gw_S tw_603 tw_604 tw_20 tw_605) rfl rfl rfl (by decide +kernel) ⟨Nat.le_of_ble_eq_true rfl, Nat.le_of_ble_eq_true rfl⟩) (ck_preS (wc := []) hK hP hD hS hA hE [] (by decide) rfl) rfl rfl hl.1 rfl (lv_room (Nat.le_of_ble_eq_true rfl)) d_Ru_ofParts_211 ⟨Nat.le_of_ble_eq_true rfl, Nat.le_of_ble_eq_true rfl⟩) hP hD hS hA [] [] rfl rfl (by decide) (by decide) (fun H locs hP hD hS => ?_)
    have hP : va_P (dC, dI) vwCl [] H := hP.sub [] rfl
    have hD : va_D A [] := hD.sub [] (by decide) rfl
    refine lv_iload_n hx hb d_Ru_ofParts_214 rfl (lv_at hl 3 rfl) ?_
    refine lv_iadd hx hb d_Ru_ofParts_215 ?_
    cases h
    exact ck_iret hx hb hr hlk hK hP hD hS d_Ru_ofParts_216
  rw [if_neg c_69] at h
  cases h
def pf_Ru_computeParts_2 (fu : Nat) (n_o_a : Nat) (f_o_a : Nat → Int32) (n_o_b : Nat) (f_o_b : Nat → Int32) (n_o_c : Nat) (f_o_c : Nat → Int32) (n_o_result : Nat) : Nat → Int32 → Int32 → (Nat → Int32) → Option ((Nat → Int32))
  | 0, _, _, _ => none
  | n + 1, x1, x2, g_f_o_result =>
    if (4 : Int32) ≤ x2 then
      some g_f_o_result
    else
      if (0 : Int32) ≤ x2 ∧ x2.toNatClampNeg < n_o_a then (
      if (0 : Int32) ≤ x2 ∧ x2.toNatClampNeg < n_o_b then (
      if (0 : Int32) ≤ x2 ∧ x2.toNatClampNeg < n_o_c then (
      Option.bind (pf_Ru_ofParts x1 (f_o_a x2.toNatClampNeg) (f_o_b x2.toNatClampNeg) (f_o_c x2.toNatClampNeg)) (fun r_6 => 
      if (0 : Int32) ≤ x2 ∧ x2.toNatClampNeg < n_o_result then (
      pf_Ru_computeParts_2 fu n_o_a f_o_a n_o_b f_o_b n_o_c f_o_c n_o_result n x1 (x2 + 1) (upd g_f_o_result x2.toNatClampNeg r_6)) else none)) else none) else none) else none
def pf_Ru_computeParts (fu : Nat) (p1 : Int32) (n_o_a : Nat) (f_o_a : Nat → Int32) (n_o_b : Nat) (f_o_b : Nat → Int32) (n_o_c : Nat) (f_o_c : Nat → Int32) (n_o_result : Nat) (f_o_result : Nat → Int32) : Option ((Nat → Int32)) :=
  pf_Ru_computeParts_2 fu n_o_a f_o_a n_o_b f_o_b n_o_c f_o_c n_o_result fu p1 (0 : Int32) f_o_result
set_option maxHeartbeats 4000000 in
set_option maxRecDepth 100000 in
theorem k_Ru_computeParts (l : Launch) (dC : Nat → ClassId) (dI : Nat → Nat → Nat) (cI cJ : ClassId) (fu : Nat) (p1 : Int32) (o_place : Int32) (o_isKilled : Int32) (n_o_a : Nat) (f_o_a : Nat → Int32) (n_o_b : Nat) (f_o_b : Nat → Int32) (n_o_c : Nat) (f_o_c : Nat → Int32) (n_o_result : Nat) (f_o_result : Nat → Int32) (q_o : Nat) (q_o_store : Nat) (q_o_a : Nat) (q_o_b : Nat) (q_o_c : Nat) (q_o_result : Nat) (q_o_loops : Nat) (o_f_o_result : Nat → Int32) (h : pf_Ru_computeParts fu p1 n_o_a f_o_a n_o_b f_o_b n_o_c f_o_c n_o_result f_o_result = some o_f_o_result) : ck_v l y_Ru_computeParts wm_Ru_computeParts ({ frames := 2, cells := 0, slots := 0, locals := 45 } : Room) [.ref q_o, .int p1] (dC, dI) [(cI, .int), (cJ, .long)] [(q_o, .inr (5, [.ref q_o_store, .ref q_o_a, .ref q_o_b, .ref q_o_c, .ref q_o_result, .ref q_o_loops, .int o_place, .int o_isKilled])), (q_o_a, .inl (cI, n_o_a, .inl f_o_a)), (q_o_b, .inl (cI, n_o_b, .inl f_o_b)), (q_o_c, .inl (cI, n_o_c, .inl f_o_c)), (q_o_result, .inl (cI, n_o_result, .inl f_o_result))] [(q_o, .inr (5, [.ref q_o_store, .ref q_o_a, .ref q_o_b, .ref q_o_c, .ref q_o_result, .ref q_o_loops, .int o_place, .int o_isKilled])), (q_o_a, .inl (cI, n_o_a, .inl f_o_a)), (q_o_b, .inl (cI, n_o_b, .inl f_o_b)), (q_o_c, .inl (cI, n_o_c, .inl f_o_c)), (q_o_result, .inl (cI, n_o_result, .inl o_f_o_result))] := by
  refine ck_ofv (cc := c_Ru_computeParts) (maxL := 3) (ret := none) (by decide +kernel) rfl ?_
  intro p e s m below meth c A C0 hK hP hD hS hE
  obtain ⟨hx, hb, hr, hml, hown, hts, hlk, hA, hin⟩ := C0
  have w_2 : ∀ (n_2 : Nat) (x1 : Int32) (x2 : Int32) (g_f_o_result : Nat → Int32), pf_Ru_computeParts_2 fu n_o_a f_o_a n_o_b f_o_b n_o_c f_o_c n_o_result n_2 x1 x2 g_f_o_result = some o_f_o_result → ∀ (H : Heap) (locs : List Loc), va_P (dC, dI) vwCl [(q_o, .inr (5, [.ref q_o_store, .ref q_o_a, .ref q_o_b, .ref q_o_c, .ref q_o_result, .ref q_o_loops, .int o_place, .int o_isKilled])), (q_o_a, .inl (cI, n_o_a, .inl f_o_a)), (q_o_b, .inl (cI, n_o_b, .inl f_o_b)), (q_o_c, .inl (cI, n_o_c, .inl f_o_c)), (q_o_result, .inl (cI, n_o_result, .inl g_f_o_result))] H → va_D A [(q_o, .inr (5, [.ref q_o_store, .ref q_o_a, .ref q_o_b, .ref q_o_c, .ref q_o_result, .ref q_o_loops, .int o_place, .int o_isKilled])), (q_o_a, .inl (cI, n_o_a, .inl f_o_a)), (q_o_b, .inl (cI, n_o_b, .inl f_o_b)), (q_o_c, .inl (cI, n_o_c, .inl f_o_c)), (q_o_result, .inl (cI, n_o_result, .inl g_f_o_result))] → va_S A s.heap H locs → ∀ ls : Array Slot, lv_has ls 3 [(0, .ref q_o), (1, .int x1), (2, .int x2)] → W p l e ({ frames := 2, cells := 0, slots := 0, locals := 45 } : Room) s m ([.ref q_o, .int p1] : List Value).toArray below meth c H locs 0 0 (ck_Qv below (dC, dI) [(cI, .int), (cJ, .long)] A ([.ref q_o, .int p1] : List Value).toArray s [(q_o, .inr (5, [.ref q_o_store, .ref q_o_a, .ref q_o_b, .ref q_o_c, .ref q_o_result, .ref q_o_loops, .int o_place, .int o_isKilled])), (q_o_a, .inl (cI, n_o_a, .inl f_o_a)), (q_o_b, .inl (cI, n_o_b, .inl f_o_b)), (q_o_c, .inl (cI, n_o_c, .inl f_o_c)), (q_o_result, .inl (cI, n_o_result, .inl o_f_o_result))]) (F0 m 2 ls []) := by
    intro n_2
    induction n_2 with
    | zero =>
      intro x1 x2 g_f_o_result h
      cases h
    | succ n_2 ih_2 =>
      intro x1 x2 g_f_o_result h H locs hP hD hS ls hl
      rw [pf_Ru_computeParts_2] at h
      refine lv_iload_n hx hb d_Ru_computeParts_2 rfl (lv_at hl 2 rfl) ?_
      refine lv_iconst (v := 4) hx hb d_Ru_computeParts_3 (by decide) ?_
      refine lv_icmp_ge (tgt := 41) hx hb d_Ru_computeParts_4 (by decide) (fun c_1 => ?_) (fun c_1 => ?_)
      · rw [if_pos c_1] at h
        cases h
        exact ck_vret hx hb hr hlk hK hP hD hS d_Ru_computeParts_41
      · rw [if_neg c_1] at h
        refine lv_aload_n hx hb d_Ru_computeParts_7 rfl (lv_at hl 0 rfl) ?_
        refine va_get (D := (dC, dI)) (ci := 5) (v := .ref q_o_result) (C := R_Ru) (T := T_Ru) (N := 8) hx hb hts (iw_Ru _) hown hK hP 0 rfl rfl 4 (by decide) (hts (.fieldLink R_Ru 21 "ShaderMachine$Runner" "result" "[I") (List.mem_cons_of_mem _ tw_134)) (fun _ h9 => h9) rfl d_Ru_computeParts_8 ?_
        refine lv_iload_n hx hb d_Ru_computeParts_11 rfl (lv_at hl 2 rfl) ?_
        refine lv_iload_n hx hb d_Ru_computeParts_12 rfl (lv_at hl 1 rfl) ?_
        refine lv_aload_n hx hb d_Ru_computeParts_13 rfl (lv_at hl 0 rfl) ?_
        refine va_get (D := (dC, dI)) (ci := 5) (v := .ref q_o_a) (C := R_Ru) (T := T_Ru) (N := 8) hx hb hts (iw_Ru _) hown hK hP 0 rfl rfl 1 (by decide) (hts (.fieldLink R_Ru 9 "ShaderMachine$Runner" "a" "[I") (List.mem_cons_of_mem _ tw_131)) (fun _ h9 => h9) rfl d_Ru_computeParts_14 ?_
        refine lv_iload_n hx hb d_Ru_computeParts_17 rfl (lv_at hl 2 rfl) ?_
        obtain ⟨c_2, h⟩ := ch_ite h
        refine va_iald hx hb hK hP 1 0 rfl rfl (ch_in c_2) d_Ru_computeParts_18 ?_
        refine lv_aload_n hx hb d_Ru_computeParts_19 rfl (lv_at hl 0 rfl) ?_
        refine va_get (D := (dC, dI)) (ci := 5) (v := .ref q_o_b) (C := R_Ru) (T := T_Ru) (N := 8) hx hb hts (iw_Ru _) hown hK hP 0 rfl rfl 2 (by decide) (hts (.fieldLink R_Ru 15 "ShaderMachine$Runner" "b" "[I") (List.mem_cons_of_mem _ tw_132)) (fun _ h9 => h9) rfl d_Ru_computeParts_20 ?_
        refine lv_iload_n hx hb d_Ru_computeParts_23 rfl (lv_at hl 2 rfl) ?_
        obtain ⟨c_3, h⟩ := ch_ite h
        refine va_iald hx hb hK hP 2 0 rfl rfl (ch_in c_3) d_Ru_computeParts_24 ?_
        refine lv_aload_n hx hb d_Ru_computeParts_25 rfl (lv_at hl 0 rfl) ?_
        refine va_get (D := (dC, dI)) (ci := 5) (v := .ref q_o_c) (C := R_Ru) (T := T_Ru) (N := 8) hx hb hts (iw_Ru _) hown hK hP 0 rfl rfl 3 (by decide) (hts (.fieldLink R_Ru 18 "ShaderMachine$Runner" "c" "[I") (List.mem_cons_of_mem _ tw_133)) (fun _ h9 => h9) rfl d_Ru_computeParts_26 ?_
        refine lv_iload_n hx hb d_Ru_computeParts_29 rfl (lv_at hl 2 rfl) ?_
        obtain ⟨c_4, h⟩ := ch_ite h
        refine va_iald hx hb hK hP 3 0 rfl rfl (ch_in c_4) d_Ru_computeParts_30 ?_
        obtain ⟨r_6, h_5, h⟩ := ch_bind h
        try dsimp only at h
        refine ck_goi (wc := []) (wr := [(q_o, .inr (5, [.ref q_o_store, .ref q_o_a, .ref q_o_b, .ref q_o_c, .ref q_o_result, .ref q_o_loops, .int o_place, .int o_isKilled])), (q_o_a, .inl (cI, n_o_a, .inl f_o_a)), (q_o_b, .inl (cI, n_o_b, .inl f_o_b)), (q_o_c, .inl (cI, n_o_c, .inl f_o_c)), (q_o_result, .inl (cI, n_o_result, .inl g_f_o_result))]) (w1 := []) (va_runS (As := [.int x1, .int (f_o_a x2.toNatClampNeg), .int (f_o_b x2.toNatClampNeg), .int (f_o_c x2.toNatClampNeg)]) (rest := [.int x2, .ref q_o_result]) ⟨hx, hb, hml, hown, hts⟩ (k_Ru_ofParts l dC dI cI cJ x1 (f_o_a x2.toNatClampNeg) (f_o_b x2.toNatClampNeg) (f_o_c x2.toNatClampNeg) r_6 h_5 _) (va_cwS 4 hts (gw_S tw_662 tw_663 tw_7 tw_664) rfl rfl rfl (by decide +kernel) ⟨Nat.le_of_ble_eq_true rfl, Nat.le_of_ble_eq_true rfl⟩) (ck_preS (wc := []) hK hP hD hS hA hE [] (by decide) rfl) rfl rfl hl.1 rfl (lv_room (Nat.le_of_ble_eq_true rfl)) d_Ru_computeParts_31 ⟨Nat.le_of_ble_eq_true rfl, Nat.le_of_ble_eq_true rfl⟩) hP hD hS hA [] [0, 1, 2, 3, 4] rfl rfl (by decide) (by decide) (fun H locs hP hD hS => ?_)
        have hP : va_P (dC, dI) vwCl [(q_o, .inr (5, [.ref q_o_store, .ref q_o_a, .ref q_o_b, .ref q_o_c, .ref q_o_result, .ref q_o_loops, .int o_place, .int o_isKilled])), (q_o_a, .inl (cI, n_o_a, .inl f_o_a)), (q_o_b, .inl (cI, n_o_b, .inl f_o_b)), (q_o_c, .inl (cI, n_o_c, .inl f_o_c)), (q_o_result, .inl (cI, n_o_result, .inl g_f_o_result))] H := hP.sub [0, 1, 2, 3, 4] rfl
        have hD : va_D A [(q_o, .inr (5, [.ref q_o_store, .ref q_o_a, .ref q_o_b, .ref q_o_c, .ref q_o_result, .ref q_o_loops, .int o_place, .int o_isKilled])), (q_o_a, .inl (cI, n_o_a, .inl f_o_a)), (q_o_b, .inl (cI, n_o_b, .inl f_o_b)), (q_o_c, .inl (cI, n_o_c, .inl f_o_c)), (q_o_result, .inl (cI, n_o_result, .inl g_f_o_result))] := hD.sub [0, 1, 2, 3, 4] (by decide) rfl
        obtain ⟨c_7, h⟩ := ch_ite h
        refine va_iast hx hb hK hP hD hS 4 0 rfl rfl (ch_in c_7) d_Ru_computeParts_34 (fun H locs hP hD hS => ?_)
        have hP : va_P (dC, dI) vwCl [(q_o, .inr (5, [.ref q_o_store, .ref q_o_a, .ref q_o_b, .ref q_o_c, .ref q_o_result, .ref q_o_loops, .int o_place, .int o_isKilled])), (q_o_a, .inl (cI, n_o_a, .inl f_o_a)), (q_o_b, .inl (cI, n_o_b, .inl f_o_b)), (q_o_c, .inl (cI, n_o_c, .inl f_o_c)), (q_o_result, .inl (cI, n_o_result, .inl (upd g_f_o_result x2.toNatClampNeg r_6)))] H := hP
        have hD : va_D A [(q_o, .inr (5, [.ref q_o_store, .ref q_o_a, .ref q_o_b, .ref q_o_c, .ref q_o_result, .ref q_o_loops, .int o_place, .int o_isKilled])), (q_o_a, .inl (cI, n_o_a, .inl f_o_a)), (q_o_b, .inl (cI, n_o_b, .inl f_o_b)), (q_o_c, .inl (cI, n_o_c, .inl f_o_c)), (q_o_result, .inl (cI, n_o_result, .inl (upd g_f_o_result x2.toNatClampNeg r_6)))] := hD
        refine lv_iinc (v := (x2 + 1)) (lv' := [(2, .int (x2 + 1)), (0, .ref q_o), (1, .int x1)]) hx hb d_Ru_computeParts_35 hl (k := 2) rfl (by rfl) (by decide) rfl (fun ls hl => ?_)
        refine lv_goto (tgt := 2) hx hb d_Ru_computeParts_38 (by decide) ?_
        exact ih_2 x1 (x2 + 1) (upd g_f_o_result x2.toNatClampNeg r_6) h _ _ hP hD hS _ (lv_sub hl [1, 2, 0] rfl)
  unfold pf_Ru_computeParts at h
  have hl := lv_entry ([.ref q_o, .int p1]) (n := 3) (Nat.le_of_ble_eq_true rfl)
  rw [lg_entry_eq]
  generalize (lg_sl ([.ref q_o, .int p1]) ++ List.replicate (3 - (lg_sl ([.ref q_o, .int p1])).length) Slot.unset).toArray = ls at hl ⊢
  have hl : lv_has ls 3 [(0, .ref q_o), (1, .int p1)] := hl
  refine lv_iconst (v := 0) hx hb d_Ru_computeParts_0 (by decide) ?_
  refine lv_istore_n (lv' := [(2, .int (0 : Int32)), (0, .ref q_o), (1, .int p1)]) hx hb d_Ru_computeParts_1 rfl hl (by decide) rfl (fun ls hl => ?_)
  exact w_2 fu p1 (0 : Int32) f_o_result h _ _ hP hD hS _ (lv_sub hl [1, 2, 0] rfl)
def pf_Ru_dot_4 (fu : Nat) (n_o_a : Nat) (f_o_a : Nat → Int32) (n_o_b : Nat) (f_o_b : Nat → Int32) : Nat → Int32 → Int32 → Int32 → Option (Int32)
  | 0, _, _, _ => none
  | n + 1, x1, x2, x3 =>
    if x1 ≤ x3 then
      some x2
    else
      if (4 : Int32) ≤ x3 then
        some x2
      else
        if (0 : Int32) ≤ x3 ∧ x3.toNatClampNeg < n_o_a then (
        if (0 : Int32) ≤ x3 ∧ x3.toNatClampNeg < n_o_b then (
        Option.bind (pf_Fi_product (f_o_a x3.toNatClampNeg) (f_o_b x3.toNatClampNeg)) (fun r_6 => 
        pf_Ru_dot_4 fu n_o_a f_o_a n_o_b f_o_b n x1 (x2 + r_6) (x3 + 1))) else none) else none
def pf_Ru_dot (fu : Nat) (p1 : Int32) (n_o_a : Nat) (f_o_a : Nat → Int32) (n_o_b : Nat) (f_o_b : Nat → Int32) : Option (Int32) :=
  pf_Ru_dot_4 fu n_o_a f_o_a n_o_b f_o_b fu p1 (0 : Int32) (0 : Int32)
set_option maxHeartbeats 4000000 in
set_option maxRecDepth 100000 in
theorem k_Ru_dot (l : Launch) (dC : Nat → ClassId) (dI : Nat → Nat → Nat) (cI cJ : ClassId) (fu : Nat) (p1 : Int32) (o_place : Int32) (o_isKilled : Int32) (n_o_a : Nat) (f_o_a : Nat → Int32) (n_o_b : Nat) (f_o_b : Nat → Int32) (q_o : Nat) (q_o_store : Nat) (q_o_a : Nat) (q_o_b : Nat) (q_o_c : Nat) (q_o_result : Nat) (q_o_loops : Nat) (r : Int32) (h : pf_Ru_dot fu p1 n_o_a f_o_a n_o_b f_o_b = some r) : ck_i l y_Ru_dot wm_Ru_dot ({ frames := 1, cells := 0, slots := 0, locals := 21 } : Room) [.ref q_o, .int p1] (dC, dI) [(cI, .int), (cJ, .long)] [(q_o, .inr (5, [.ref q_o_store, .ref q_o_a, .ref q_o_b, .ref q_o_c, .ref q_o_result, .ref q_o_loops, .int o_place, .int o_isKilled])), (q_o_a, .inl (cI, n_o_a, .inl f_o_a)), (q_o_b, .inl (cI, n_o_b, .inl f_o_b))] r [(q_o, .inr (5, [.ref q_o_store, .ref q_o_a, .ref q_o_b, .ref q_o_c, .ref q_o_result, .ref q_o_loops, .int o_place, .int o_isKilled])), (q_o_a, .inl (cI, n_o_a, .inl f_o_a)), (q_o_b, .inl (cI, n_o_b, .inl f_o_b))] := by
  refine ck_ofi (cc := c_Ru_dot) (maxL := 4) (ret := (some .int)) (by decide +kernel) rfl ?_
  intro p e s m below meth c A C0 hK hP hD hS hE
  obtain ⟨hx, hb, hr, hml, hown, hts, hlk, hA, hin⟩ := C0
  have w_4 : ∀ (n_4 : Nat) (x1 : Int32) (x2 : Int32) (x3 : Int32), pf_Ru_dot_4 fu n_o_a f_o_a n_o_b f_o_b n_4 x1 x2 x3 = some r → ∀ (H : Heap) (locs : List Loc), va_P (dC, dI) vwCl [(q_o, .inr (5, [.ref q_o_store, .ref q_o_a, .ref q_o_b, .ref q_o_c, .ref q_o_result, .ref q_o_loops, .int o_place, .int o_isKilled])), (q_o_a, .inl (cI, n_o_a, .inl f_o_a)), (q_o_b, .inl (cI, n_o_b, .inl f_o_b))] H → va_D A [(q_o, .inr (5, [.ref q_o_store, .ref q_o_a, .ref q_o_b, .ref q_o_c, .ref q_o_result, .ref q_o_loops, .int o_place, .int o_isKilled])), (q_o_a, .inl (cI, n_o_a, .inl f_o_a)), (q_o_b, .inl (cI, n_o_b, .inl f_o_b))] → va_S A s.heap H locs → ∀ ls : Array Slot, lv_has ls 4 [(0, .ref q_o), (1, .int x1), (2, .int x2), (3, .int x3)] → W p l e ({ frames := 1, cells := 0, slots := 0, locals := 21 } : Room) s m ([.ref q_o, .int p1] : List Value).toArray below meth c H locs 0 0 (ck_Qi below (dC, dI) [(cI, .int), (cJ, .long)] A ([.ref q_o, .int p1] : List Value).toArray s r [(q_o, .inr (5, [.ref q_o_store, .ref q_o_a, .ref q_o_b, .ref q_o_c, .ref q_o_result, .ref q_o_loops, .int o_place, .int o_isKilled])), (q_o_a, .inl (cI, n_o_a, .inl f_o_a)), (q_o_b, .inl (cI, n_o_b, .inl f_o_b))]) (F0 m 4 ls []) := by
    intro n_4
    induction n_4 with
    | zero =>
      intro x1 x2 x3 h
      cases h
    | succ n_4 ih_4 =>
      intro x1 x2 x3 h H locs hP hD hS ls hl
      rw [pf_Ru_dot_4] at h
      refine lv_iload_n hx hb d_Ru_dot_4 rfl (lv_at hl 3 rfl) ?_
      refine lv_iload_n hx hb d_Ru_dot_5 rfl (lv_at hl 1 rfl) ?_
      refine lv_icmp_ge (tgt := 38) hx hb d_Ru_dot_6 (by decide) (fun c_1 => ?_) (fun c_1 => ?_)
      · rw [if_pos c_1] at h
        refine lv_iload_n hx hb d_Ru_dot_38 rfl (lv_at hl 2 rfl) ?_
        cases h
        exact ck_iret hx hb hr hlk hK hP hD hS d_Ru_dot_39
      · rw [if_neg c_1] at h
        refine lv_iload_n hx hb d_Ru_dot_9 rfl (lv_at hl 3 rfl) ?_
        refine lv_iconst (v := 4) hx hb d_Ru_dot_10 (by decide) ?_
        refine lv_icmp_ge (tgt := 38) hx hb d_Ru_dot_11 (by decide) (fun c_2 => ?_) (fun c_2 => ?_)
        · rw [if_pos c_2] at h
          refine lv_iload_n hx hb d_Ru_dot_38 rfl (lv_at hl 2 rfl) ?_
          cases h
          exact ck_iret hx hb hr hlk hK hP hD hS d_Ru_dot_39
        · rw [if_neg c_2] at h
          refine lv_iload_n hx hb d_Ru_dot_14 rfl (lv_at hl 2 rfl) ?_
          refine lv_aload_n hx hb d_Ru_dot_15 rfl (lv_at hl 0 rfl) ?_
          refine va_get (D := (dC, dI)) (ci := 5) (v := .ref q_o_a) (C := R_Ru) (T := T_Ru) (N := 8) hx hb hts (iw_Ru _) hown hK hP 0 rfl rfl 1 (by decide) (hts (.fieldLink R_Ru 9 "ShaderMachine$Runner" "a" "[I") (List.mem_cons_of_mem _ tw_131)) (fun _ h9 => h9) rfl d_Ru_dot_16 ?_
          refine lv_iload_n hx hb d_Ru_dot_19 rfl (lv_at hl 3 rfl) ?_
          obtain ⟨c_3, h⟩ := ch_ite h
          refine va_iald hx hb hK hP 1 0 rfl rfl (ch_in c_3) d_Ru_dot_20 ?_
          refine lv_aload_n hx hb d_Ru_dot_21 rfl (lv_at hl 0 rfl) ?_
          refine va_get (D := (dC, dI)) (ci := 5) (v := .ref q_o_b) (C := R_Ru) (T := T_Ru) (N := 8) hx hb hts (iw_Ru _) hown hK hP 0 rfl rfl 2 (by decide) (hts (.fieldLink R_Ru 15 "ShaderMachine$Runner" "b" "[I") (List.mem_cons_of_mem _ tw_132)) (fun _ h9 => h9) rfl d_Ru_dot_22 ?_
          refine lv_iload_n hx hb d_Ru_dot_25 rfl (lv_at hl 3 rfl) ?_
          obtain ⟨c_4, h⟩ := ch_ite h
          refine va_iald hx hb hK hP 2 0 rfl rfl (ch_in c_4) d_Ru_dot_26 ?_
          obtain ⟨r_6, h_5, h⟩ := ch_bind h
          try dsimp only at h
          refine ck_goi (wc := []) (wr := [(q_o, .inr (5, [.ref q_o_store, .ref q_o_a, .ref q_o_b, .ref q_o_c, .ref q_o_result, .ref q_o_loops, .int o_place, .int o_isKilled])), (q_o_a, .inl (cI, n_o_a, .inl f_o_a)), (q_o_b, .inl (cI, n_o_b, .inl f_o_b))]) (w1 := []) (va_runS (As := [.int (f_o_a x3.toNatClampNeg), .int (f_o_b x3.toNatClampNeg)]) (rest := [.int x2]) ⟨hx, hb, hml, hown, hts⟩ (k_Fi_product l dC dI cI cJ (f_o_a x3.toNatClampNeg) (f_o_b x3.toNatClampNeg) r_6 h_5 _) (va_cwS 2 hts (gw_S tw_603 tw_604 tw_20 tw_605) rfl rfl rfl (by decide +kernel) ⟨Nat.le_of_ble_eq_true rfl, Nat.le_of_ble_eq_true rfl⟩) (ck_preS (wc := []) hK hP hD hS hA hE [] (by decide) rfl) rfl rfl hl.1 rfl (lv_room (Nat.le_of_ble_eq_true rfl)) d_Ru_dot_27 ⟨Nat.le_of_ble_eq_true rfl, Nat.le_of_ble_eq_true rfl⟩) hP hD hS hA [] [0, 1, 2] rfl rfl (by decide) (by decide) (fun H locs hP hD hS => ?_)
          have hP : va_P (dC, dI) vwCl [(q_o, .inr (5, [.ref q_o_store, .ref q_o_a, .ref q_o_b, .ref q_o_c, .ref q_o_result, .ref q_o_loops, .int o_place, .int o_isKilled])), (q_o_a, .inl (cI, n_o_a, .inl f_o_a)), (q_o_b, .inl (cI, n_o_b, .inl f_o_b))] H := hP.sub [0, 1, 2] rfl
          have hD : va_D A [(q_o, .inr (5, [.ref q_o_store, .ref q_o_a, .ref q_o_b, .ref q_o_c, .ref q_o_result, .ref q_o_loops, .int o_place, .int o_isKilled])), (q_o_a, .inl (cI, n_o_a, .inl f_o_a)), (q_o_b, .inl (cI, n_o_b, .inl f_o_b))] := hD.sub [0, 1, 2] (by decide) rfl
          refine lv_iadd hx hb d_Ru_dot_30 ?_
          refine lv_istore_n (lv' := [(2, .int (x2 + r_6)), (0, .ref q_o), (1, .int x1), (3, .int x3)]) hx hb d_Ru_dot_31 rfl hl (by decide) rfl (fun ls hl => ?_)
          refine lv_iinc (v := (x3 + 1)) (lv' := [(3, .int (x3 + 1)), (2, .int (x2 + r_6)), (0, .ref q_o), (1, .int x1)]) hx hb d_Ru_dot_32 hl (k := 3) rfl (by rfl) (by decide) rfl (fun ls hl => ?_)
          refine lv_goto (tgt := 4) hx hb d_Ru_dot_35 (by decide) ?_
          exact ih_4 x1 (x2 + r_6) (x3 + 1) h _ _ hP hD hS _ (lv_sub hl [2, 3, 1, 0] rfl)
  unfold pf_Ru_dot at h
  have hl := lv_entry ([.ref q_o, .int p1]) (n := 4) (Nat.le_of_ble_eq_true rfl)
  rw [lg_entry_eq]
  generalize (lg_sl ([.ref q_o, .int p1]) ++ List.replicate (4 - (lg_sl ([.ref q_o, .int p1])).length) Slot.unset).toArray = ls at hl ⊢
  have hl : lv_has ls 4 [(0, .ref q_o), (1, .int p1)] := hl
  refine lv_iconst (v := 0) hx hb d_Ru_dot_0 (by decide) ?_
  refine lv_istore_n (lv' := [(2, .int (0 : Int32)), (0, .ref q_o), (1, .int p1)]) hx hb d_Ru_dot_1 rfl hl (by decide) rfl (fun ls hl => ?_)
  refine lv_iconst (v := 0) hx hb d_Ru_dot_2 (by decide) ?_
  refine lv_istore_n (lv' := [(3, .int (0 : Int32)), (2, .int (0 : Int32)), (0, .ref q_o), (1, .int p1)]) hx hb d_Ru_dot_3 rfl hl (by decide) rfl (fun ls hl => ?_)
  exact w_4 fu p1 (0 : Int32) (0 : Int32) h _ _ hP hD hS _ (lv_sub hl [2, 3, 1, 0] rfl)
def pf_Ru_spread (fu : Nat) (p1 : Int32) (n_o_result : Nat) (f_o_result : Nat → Int32) : Option ((Nat → Int32)) :=
  Option.bind (pf_Ar_fill fu p1 n_o_result f_o_result) (fun w_2 => 
  some w_2)
set_option maxHeartbeats 4000000 in
set_option maxRecDepth 100000 in
theorem k_Ru_spread (l : Launch) (dC : Nat → ClassId) (dI : Nat → Nat → Nat) (cI cJ : ClassId) (fu : Nat) (p1 : Int32) (o_place : Int32) (o_isKilled : Int32) (n_o_result : Nat) (f_o_result : Nat → Int32) (q_o : Nat) (q_o_store : Nat) (q_o_a : Nat) (q_o_b : Nat) (q_o_c : Nat) (q_o_result : Nat) (q_o_loops : Nat) (o_f_o_result : Nat → Int32) (h : pf_Ru_spread fu p1 n_o_result f_o_result = some o_f_o_result) : ck_v l y_Ru_spread wm_Ru_spread ({ frames := 1, cells := 0, slots := 0, locals := 23 } : Room) [.ref q_o, .int p1] (dC, dI) [(cI, .int), (cJ, .long)] [(q_o, .inr (5, [.ref q_o_store, .ref q_o_a, .ref q_o_b, .ref q_o_c, .ref q_o_result, .ref q_o_loops, .int o_place, .int o_isKilled])), (q_o_result, .inl (cI, n_o_result, .inl f_o_result))] [(q_o, .inr (5, [.ref q_o_store, .ref q_o_a, .ref q_o_b, .ref q_o_c, .ref q_o_result, .ref q_o_loops, .int o_place, .int o_isKilled])), (q_o_result, .inl (cI, n_o_result, .inl o_f_o_result))] := by
  refine ck_ofv (cc := c_Ru_spread) (maxL := 2) (ret := none) (by decide +kernel) rfl ?_
  intro p e s m below meth c A C0 hK hP hD hS hE
  obtain ⟨hx, hb, hr, hml, hown, hts, hlk, hA, hin⟩ := C0
  unfold pf_Ru_spread at h
  have hl := lv_entry ([.ref q_o, .int p1]) (n := 2) (Nat.le_of_ble_eq_true rfl)
  rw [lg_entry_eq]
  generalize (lg_sl ([.ref q_o, .int p1]) ++ List.replicate (2 - (lg_sl ([.ref q_o, .int p1])).length) Slot.unset).toArray = ls at hl ⊢
  have hl : lv_has ls 2 [(0, .ref q_o), (1, .int p1)] := hl
  refine lv_aload_n hx hb d_Ru_spread_0 rfl (lv_at hl 0 rfl) ?_
  refine va_get (D := (dC, dI)) (ci := 5) (v := .ref q_o_result) (C := R_Ru) (T := T_Ru) (N := 8) hx hb hts (iw_Ru _) hown hK hP 0 rfl rfl 4 (by decide) (hts (.fieldLink R_Ru 21 "ShaderMachine$Runner" "result" "[I") (List.mem_cons_of_mem _ tw_134)) (fun _ h9 => h9) rfl d_Ru_spread_1 ?_
  refine lv_iload_n hx hb d_Ru_spread_4 rfl (lv_at hl 1 rfl) ?_
  obtain ⟨w_2, h_1, h⟩ := ch_bind h
  try dsimp only at h
  refine ck_gov (wc := [(q_o_result, .inl (cI, n_o_result, .inl f_o_result))]) (wr := [(q_o, .inr (5, [.ref q_o_store, .ref q_o_a, .ref q_o_b, .ref q_o_c, .ref q_o_result, .ref q_o_loops, .int o_place, .int o_isKilled]))]) (w1 := [(q_o_result, .inl (cI, n_o_result, .inl w_2))]) (va_runS (As := [.ref q_o_result, .int p1]) (rest := []) ⟨hx, hb, hml, hown, hts⟩ (k_Ar_fill l dC dI cI cJ fu p1 n_o_result f_o_result q_o_result w_2 h_1 _) (va_cwS 2 hts (gw_S tw_610 tw_541 tw_19 tw_542) rfl rfl rfl (by decide +kernel) ⟨Nat.le_of_ble_eq_true rfl, Nat.le_of_ble_eq_true rfl⟩) (ck_preS (wc := [(q_o_result, .inl (cI, n_o_result, .inl f_o_result))]) hK hP hD hS hA hE [1] (by decide) rfl) rfl rfl hl.1 rfl (lv_room (Nat.le_of_ble_eq_true rfl)) d_Ru_spread_5 ⟨Nat.le_of_ble_eq_true rfl, Nat.le_of_ble_eq_true rfl⟩) hP hD hS hA [1] [0] rfl rfl (by decide) (by decide) (fun H locs hP hD hS => ?_)
  have hP : va_P (dC, dI) vwCl [(q_o, .inr (5, [.ref q_o_store, .ref q_o_a, .ref q_o_b, .ref q_o_c, .ref q_o_result, .ref q_o_loops, .int o_place, .int o_isKilled])), (q_o_result, .inl (cI, n_o_result, .inl w_2))] H := hP.sub [0, 1] rfl
  have hD : va_D A [(q_o, .inr (5, [.ref q_o_store, .ref q_o_a, .ref q_o_b, .ref q_o_c, .ref q_o_result, .ref q_o_loops, .int o_place, .int o_isKilled])), (q_o_result, .inl (cI, n_o_result, .inl w_2))] := hD.sub [0, 1] (by decide) rfl
  cases h
  exact ck_vret hx hb hr hlk hK hP hD hS d_Ru_spread_8
def pf_Ru_setResult (p1 : Int32) (p2 : Int32) (p3 : Int32) (p4 : Int32) (n_o_result : Nat) (f_o_result : Nat → Int32) : Option ((Nat → Int32)) :=
  if (0 : Int32) ≤ (0 : Int32) ∧ (0 : Int32).toNatClampNeg < n_o_result then (
  if (0 : Int32) ≤ (1 : Int32) ∧ (1 : Int32).toNatClampNeg < n_o_result then (
  if (0 : Int32) ≤ (2 : Int32) ∧ (2 : Int32).toNatClampNeg < n_o_result then (
  if (0 : Int32) ≤ (3 : Int32) ∧ (3 : Int32).toNatClampNeg < n_o_result then (
  some (upd (upd (upd (upd f_o_result (0 : Int32).toNatClampNeg p1) (1 : Int32).toNatClampNeg p2) (2 : Int32).toNatClampNeg p3) (3 : Int32).toNatClampNeg p4)) else none) else none) else none) else none
set_option maxHeartbeats 4000000 in
set_option maxRecDepth 100000 in
theorem k_Ru_setResult (l : Launch) (dC : Nat → ClassId) (dI : Nat → Nat → Nat) (cI cJ : ClassId) (p1 : Int32) (p2 : Int32) (p3 : Int32) (p4 : Int32) (o_place : Int32) (o_isKilled : Int32) (n_o_result : Nat) (f_o_result : Nat → Int32) (q_o : Nat) (q_o_store : Nat) (q_o_a : Nat) (q_o_b : Nat) (q_o_c : Nat) (q_o_result : Nat) (q_o_loops : Nat) (o_f_o_result : Nat → Int32) (h : pf_Ru_setResult p1 p2 p3 p4 n_o_result f_o_result = some o_f_o_result) : ck_v l y_Ru_setResult wm_Ru_setResult ({ frames := 0, cells := 0, slots := 0, locals := 0 } : Room) [.ref q_o, .int p1, .int p2, .int p3, .int p4] (dC, dI) [(cI, .int), (cJ, .long)] [(q_o, .inr (5, [.ref q_o_store, .ref q_o_a, .ref q_o_b, .ref q_o_c, .ref q_o_result, .ref q_o_loops, .int o_place, .int o_isKilled])), (q_o_result, .inl (cI, n_o_result, .inl f_o_result))] [(q_o, .inr (5, [.ref q_o_store, .ref q_o_a, .ref q_o_b, .ref q_o_c, .ref q_o_result, .ref q_o_loops, .int o_place, .int o_isKilled])), (q_o_result, .inl (cI, n_o_result, .inl o_f_o_result))] := by
  refine ck_ofv (cc := c_Ru_setResult) (maxL := 5) (ret := none) (by decide +kernel) rfl ?_
  intro p e s m below meth c A C0 hK hP hD hS hE
  obtain ⟨hx, hb, hr, hml, hown, hts, hlk, hA, hin⟩ := C0
  unfold pf_Ru_setResult at h
  have hl := lv_entry ([.ref q_o, .int p1, .int p2, .int p3, .int p4]) (n := 5) (Nat.le_of_ble_eq_true rfl)
  rw [lg_entry_eq]
  generalize (lg_sl ([.ref q_o, .int p1, .int p2, .int p3, .int p4]) ++ List.replicate (5 - (lg_sl ([.ref q_o, .int p1, .int p2, .int p3, .int p4])).length) Slot.unset).toArray = ls at hl ⊢
  have hl : lv_has ls 5 [(0, .ref q_o), (1, .int p1), (2, .int p2), (3, .int p3), (4, .int p4)] := hl
  refine lv_aload_n hx hb d_Ru_setResult_0 rfl (lv_at hl 0 rfl) ?_
  refine va_get (D := (dC, dI)) (ci := 5) (v := .ref q_o_result) (C := R_Ru) (T := T_Ru) (N := 8) hx hb hts (iw_Ru _) hown hK hP 0 rfl rfl 4 (by decide) (hts (.fieldLink R_Ru 21 "ShaderMachine$Runner" "result" "[I") (List.mem_cons_of_mem _ tw_134)) (fun _ h9 => h9) rfl d_Ru_setResult_1 ?_
  refine lv_iconst (v := 0) hx hb d_Ru_setResult_4 (by decide) ?_
  refine lv_iload_n hx hb d_Ru_setResult_5 rfl (lv_at hl 1 rfl) ?_
  obtain ⟨c_1, h⟩ := ch_ite h
  refine va_iast hx hb hK hP hD hS 1 0 rfl rfl (ch_in c_1) d_Ru_setResult_6 (fun H locs hP hD hS => ?_)
  have hP : va_P (dC, dI) vwCl [(q_o, .inr (5, [.ref q_o_store, .ref q_o_a, .ref q_o_b, .ref q_o_c, .ref q_o_result, .ref q_o_loops, .int o_place, .int o_isKilled])), (q_o_result, .inl (cI, n_o_result, .inl (upd f_o_result (0 : Int32).toNatClampNeg p1)))] H := hP
  have hD : va_D A [(q_o, .inr (5, [.ref q_o_store, .ref q_o_a, .ref q_o_b, .ref q_o_c, .ref q_o_result, .ref q_o_loops, .int o_place, .int o_isKilled])), (q_o_result, .inl (cI, n_o_result, .inl (upd f_o_result (0 : Int32).toNatClampNeg p1)))] := hD
  refine lv_aload_n hx hb d_Ru_setResult_7 rfl (lv_at hl 0 rfl) ?_
  refine va_get (D := (dC, dI)) (ci := 5) (v := .ref q_o_result) (C := R_Ru) (T := T_Ru) (N := 8) hx hb hts (iw_Ru _) hown hK hP 0 rfl rfl 4 (by decide) (hts (.fieldLink R_Ru 21 "ShaderMachine$Runner" "result" "[I") (List.mem_cons_of_mem _ tw_134)) (fun _ h9 => h9) rfl d_Ru_setResult_8 ?_
  refine lv_iconst (v := 1) hx hb d_Ru_setResult_11 (by decide) ?_
  refine lv_iload_n hx hb d_Ru_setResult_12 rfl (lv_at hl 2 rfl) ?_
  obtain ⟨c_2, h⟩ := ch_ite h
  refine va_iast hx hb hK hP hD hS 1 0 rfl rfl (ch_in c_2) d_Ru_setResult_13 (fun H locs hP hD hS => ?_)
  have hP : va_P (dC, dI) vwCl [(q_o, .inr (5, [.ref q_o_store, .ref q_o_a, .ref q_o_b, .ref q_o_c, .ref q_o_result, .ref q_o_loops, .int o_place, .int o_isKilled])), (q_o_result, .inl (cI, n_o_result, .inl (upd (upd f_o_result (0 : Int32).toNatClampNeg p1) (1 : Int32).toNatClampNeg p2)))] H := hP
  have hD : va_D A [(q_o, .inr (5, [.ref q_o_store, .ref q_o_a, .ref q_o_b, .ref q_o_c, .ref q_o_result, .ref q_o_loops, .int o_place, .int o_isKilled])), (q_o_result, .inl (cI, n_o_result, .inl (upd (upd f_o_result (0 : Int32).toNatClampNeg p1) (1 : Int32).toNatClampNeg p2)))] := hD
  refine lv_aload_n hx hb d_Ru_setResult_14 rfl (lv_at hl 0 rfl) ?_
  refine va_get (D := (dC, dI)) (ci := 5) (v := .ref q_o_result) (C := R_Ru) (T := T_Ru) (N := 8) hx hb hts (iw_Ru _) hown hK hP 0 rfl rfl 4 (by decide) (hts (.fieldLink R_Ru 21 "ShaderMachine$Runner" "result" "[I") (List.mem_cons_of_mem _ tw_134)) (fun _ h9 => h9) rfl d_Ru_setResult_15 ?_
  refine lv_iconst (v := 2) hx hb d_Ru_setResult_18 (by decide) ?_
  refine lv_iload_n hx hb d_Ru_setResult_19 rfl (lv_at hl 3 rfl) ?_
  obtain ⟨c_3, h⟩ := ch_ite h
  refine va_iast hx hb hK hP hD hS 1 0 rfl rfl (ch_in c_3) d_Ru_setResult_20 (fun H locs hP hD hS => ?_)
  have hP : va_P (dC, dI) vwCl [(q_o, .inr (5, [.ref q_o_store, .ref q_o_a, .ref q_o_b, .ref q_o_c, .ref q_o_result, .ref q_o_loops, .int o_place, .int o_isKilled])), (q_o_result, .inl (cI, n_o_result, .inl (upd (upd (upd f_o_result (0 : Int32).toNatClampNeg p1) (1 : Int32).toNatClampNeg p2) (2 : Int32).toNatClampNeg p3)))] H := hP
  have hD : va_D A [(q_o, .inr (5, [.ref q_o_store, .ref q_o_a, .ref q_o_b, .ref q_o_c, .ref q_o_result, .ref q_o_loops, .int o_place, .int o_isKilled])), (q_o_result, .inl (cI, n_o_result, .inl (upd (upd (upd f_o_result (0 : Int32).toNatClampNeg p1) (1 : Int32).toNatClampNeg p2) (2 : Int32).toNatClampNeg p3)))] := hD
  refine lv_aload_n hx hb d_Ru_setResult_21 rfl (lv_at hl 0 rfl) ?_
  refine va_get (D := (dC, dI)) (ci := 5) (v := .ref q_o_result) (C := R_Ru) (T := T_Ru) (N := 8) hx hb hts (iw_Ru _) hown hK hP 0 rfl rfl 4 (by decide) (hts (.fieldLink R_Ru 21 "ShaderMachine$Runner" "result" "[I") (List.mem_cons_of_mem _ tw_134)) (fun _ h9 => h9) rfl d_Ru_setResult_22 ?_
  refine lv_iconst (v := 3) hx hb d_Ru_setResult_25 (by decide) ?_
  refine lv_iload hx hb d_Ru_setResult_26 (lv_at hl 4 rfl) ?_
  obtain ⟨c_4, h⟩ := ch_ite h
  refine va_iast hx hb hK hP hD hS 1 0 rfl rfl (ch_in c_4) d_Ru_setResult_28 (fun H locs hP hD hS => ?_)
  have hP : va_P (dC, dI) vwCl [(q_o, .inr (5, [.ref q_o_store, .ref q_o_a, .ref q_o_b, .ref q_o_c, .ref q_o_result, .ref q_o_loops, .int o_place, .int o_isKilled])), (q_o_result, .inl (cI, n_o_result, .inl (upd (upd (upd (upd f_o_result (0 : Int32).toNatClampNeg p1) (1 : Int32).toNatClampNeg p2) (2 : Int32).toNatClampNeg p3) (3 : Int32).toNatClampNeg p4)))] H := hP
  have hD : va_D A [(q_o, .inr (5, [.ref q_o_store, .ref q_o_a, .ref q_o_b, .ref q_o_c, .ref q_o_result, .ref q_o_loops, .int o_place, .int o_isKilled])), (q_o_result, .inl (cI, n_o_result, .inl (upd (upd (upd (upd f_o_result (0 : Int32).toNatClampNeg p1) (1 : Int32).toNatClampNeg p2) (2 : Int32).toNatClampNeg p3) (3 : Int32).toNatClampNeg p4)))] := hD
  cases h
  exact ck_vret hx hb hr hlk hK hP hD hS d_Ru_setResult_29
