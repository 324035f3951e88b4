def pf_Ch_examineWhole (fu : Nat) (o_fault : Int32) (o_place : Int32) (o_steps : Int64) (o_loops_depth : Int32) (p1_many : Int32) (n_p1_words : Nat) (f_p1_words : Nat → Int32) (n_o_loopOf : Nat) (f_o_loopOf : Nat → Int32) (n_o_loops_places : Nat) (f_o_loops_places : Nat → Int32) : Option (Int32 × Int32) :=
  Option.bind (pf_Lo_isEmpty o_loops_depth) (fun r_2 => 
  if r_2 = 0 then
    Option.bind (pf_Lo_innermost o_loops_depth n_o_loops_places f_o_loops_places) (fun r_15 => 
    Option.bind (pf_Ch_tell (5 : Int32) r_15) (fun (w_17, w_18) => 
    some (w_17, w_18)))
  else
    Option.bind (pf_Ch_firstStray fu p1_many n_p1_words f_p1_words n_o_loopOf f_o_loopOf) (fun r_5 => 
    if r_5 = (-1 : Int32) then
      if (lg_cmp o_steps (65536 : Int64)) ≤ 0 then
        some (o_fault, o_place)
      else
        Option.bind (pf_Ch_tell (8 : Int32) (-1 : Int32)) (fun (w_9, w_10) => 
        some (w_9, w_10))
    else
      Option.bind (pf_Ch_tell (5 : Int32) r_5) (fun (w_12, w_13) => 
      some (w_12, w_13))))
set_option maxHeartbeats 4000000 in
set_option maxRecDepth 100000 in
theorem k_Ch_examineWhole (l : Launch) (dC : Nat → ClassId) (dI : Nat → Nat → Nat) (cI cJ : ClassId) (fu : Nat) (o_fault : Int32) (o_place : Int32) (o_steps : Int64) (o_loops_depth : Int32) (p1_many : Int32) (n_p1_words : Nat) (f_p1_words : Nat → Int32) (n_o_loopOf : Nat) (f_o_loopOf : Nat → Int32) (n_o_loops_places : Nat) (f_o_loops_places : Nat → Int32) (q_o : Nat) (q_p1 : Nat) (q_o_loopOf : Nat) (q_o_loops : Nat) (q_o_loops_places : Nat) (q_o_loops_counts : Nat) (q_p1_words : Nat) (o_o_fault : Int32) (o_o_place : Int32) (h : pf_Ch_examineWhole fu o_fault o_place o_steps o_loops_depth p1_many n_p1_words f_p1_words n_o_loopOf f_o_loopOf n_o_loops_places f_o_loops_places = some (o_o_fault, o_o_place)) : ck_v l y_Ch_examineWhole wm_Ch_examineWhole ({ frames := 4, cells := 0, slots := 0, locals := 85 } : Room) [.ref q_o, .ref q_p1] (dC, dI) [(cI, .int), (cJ, .long)] [(q_o, .inr (4, [.ref q_o_loopOf, .ref q_o_loops, .int o_fault, .int o_place, .long o_steps])), (q_o_loops, .inr (2, [.ref q_o_loops_places, .ref q_o_loops_counts, .int o_loops_depth])), (q_p1, .inr (3, [.ref q_p1_words, .int p1_many])), (q_p1_words, .inl (cI, n_p1_words, .inl f_p1_words)), (q_o_loopOf, .inl (cI, n_o_loopOf, .inl f_o_loopOf)), (q_o_loops_places, .inl (cI, n_o_loops_places, .inl f_o_loops_places))] [(q_o, .inr (4, [.ref q_o_loopOf, .ref q_o_loops, .int o_o_fault, .int o_o_place, .long o_steps])), (q_o_loops, .inr (2, [.ref q_o_loops_places, .ref q_o_loops_counts, .int o_loops_depth])), (q_p1, .inr (3, [.ref q_p1_words, .int p1_many])), (q_p1_words, .inl (cI, n_p1_words, .inl f_p1_words)), (q_o_loopOf, .inl (cI, n_o_loopOf, .inl f_o_loopOf)), (q_o_loops_places, .inl (cI, n_o_loops_places, .inl f_o_loops_places))] := by
  refine ck_ofv (cc := c_Ch_examineWhole) (maxL := 3) (ret := none) (by decide +kernel) rfl ?_
  intro p e s m below meth c A C0 hK hP hD hS hE
  obtain ⟨hx, hb, hr, hml, hown, hts, hlk, hA, hin⟩ := C0
  unfold pf_Ch_examineWhole at h
  have hl := lv_entry ([.ref q_o, .ref q_p1]) (n := 3) (Nat.le_of_ble_eq_true rfl)
  rw [lg_entry_eq]
  generalize (lg_sl ([.ref q_o, .ref q_p1]) ++ List.replicate (3 - (lg_sl ([.ref q_o, .ref q_p1])).length) Slot.unset).toArray = ls at hl ⊢
  have hl : lv_has ls 3 [(0, .ref q_o), (1, .ref q_p1)] := hl
  refine lv_aload_n hx hb d_Ch_examineWhole_0 rfl (lv_at hl 0 rfl) ?_
  refine va_get (D := (dC, dI)) (ci := 4) (v := .ref q_o_loops) (C := R_Ch) (T := T_Ch) (N := 5) hx hb hts (iw_Ch _) hown hK hP 0 rfl rfl 1 (by decide) (hts (.fieldLink R_Ch 20 "ShaderMachine$Check" "loops" "LShaderMachine$Loops;") (List.mem_cons_of_mem _ tw_107)) (fun _ h9 => h9) rfl d_Ch_examineWhole_1 ?_
  obtain ⟨r_2, h_1, h⟩ := ch_bind h
  try dsimp only at h
  refine ck_goi (wc := [(q_o_loops, .inr (2, [.ref q_o_loops_places, .ref q_o_loops_counts, .int o_loops_depth]))]) (wr := [(q_o, .inr (4, [.ref q_o_loopOf, .ref q_o_loops, .int o_fault, .int o_place, .long o_steps])), (q_p1, .inr (3, [.ref q_p1_words, .int p1_many])), (q_p1_words, .inl (cI, n_p1_words, .inl f_p1_words)), (q_o_loopOf, .inl (cI, n_o_loopOf, .inl f_o_loopOf)), (q_o_loops_places, .inl (cI, n_o_loops_places, .inl f_o_loops_places))]) (w1 := [(q_o_loops, .inr (2, [.ref q_o_loops_places, .ref q_o_loops_counts, .int o_loops_depth]))]) (va_runV (As := []) (rest := []) ⟨hx, hb, hml, hown, hts⟩ (k_Lo_isEmpty l dC dI cI cJ o_loops_depth q_o_loops q_o_loops_places q_o_loops_counts r_2 h_1 _) (cwV 0 hts (gw_V tw_399 tw_400 tw_401 tw_6 tw_402) rfl rfl rfl (by decide +kernel) ⟨Nat.le_of_ble_eq_true rfl, Nat.le_of_ble_eq_true rfl⟩) (ck_preV (wc := [(q_o_loops, .inr (2, [.ref q_o_loops_places, .ref q_o_loops_counts, .int o_loops_depth]))]) hK hP hD hS hA hE 1 rfl rfl rfl [1] (by decide) rfl) rfl rfl hl.1 rfl (lv_room (Nat.le_of_ble_eq_true rfl)) d_Ch_examineWhole_4 ⟨Nat.le_of_ble_eq_true rfl, Nat.le_of_ble_eq_true rfl⟩) hP hD hS hA [1] [0, 2, 3, 4, 5] rfl rfl (by decide) (by decide) (fun H locs hP hD hS => ?_)
  have hP : va_P (dC, dI) vwCl [(q_o, .inr (4, [.ref q_o_loopOf, .ref q_o_loops, .int o_fault, .int o_place, .long o_steps])), (q_o_loops, .inr (2, [.ref q_o_loops_places, .ref q_o_loops_counts, .int o_loops_depth])), (q_p1, .inr (3, [.ref q_p1_words, .int p1_many])), (q_p1_words, .inl (cI, n_p1_words, .inl f_p1_words)), (q_o_loopOf, .inl (cI, n_o_loopOf, .inl f_o_loopOf)), (q_o_loops_places, .inl (cI, n_o_loops_places, .inl f_o_loops_places))] H := hP.sub [0, 5, 1, 2, 3, 4] rfl
  have hD : va_D A [(q_o, .inr (4, [.ref q_o_loopOf, .ref q_o_loops, .int o_fault, .int o_place, .long o_steps])), (q_o_loops, .inr (2, [.ref q_o_loops_places, .ref q_o_loops_counts, .int o_loops_depth])), (q_p1, .inr (3, [.ref q_p1_words, .int p1_many])), (q_p1_words, .inl (cI, n_p1_words, .inl f_p1_words)), (q_o_loopOf, .inl (cI, n_o_loopOf, .inl f_o_loopOf)), (q_o_loops_places, .inl (cI, n_o_loops_places, .inl f_o_loops_places))] := hD.sub [0, 5, 1, 2, 3, 4] (by decide) rfl
  refine lv_if_ne (tgt := 23) hx hb d_Ch_examineWhole_7 (by decide) (fun c_3 => ?_) (fun c_3 => ?_)
  · rw [if_neg c_3] at h
    refine lv_aload_n hx hb d_Ch_examineWhole_23 rfl (lv_at hl 0 rfl) ?_
    refine lv_aload_n hx hb d_Ch_examineWhole_24 rfl (lv_at hl 1 rfl) ?_
    obtain ⟨r_5, h_4, h⟩ := ch_bind h
    try dsimp only at h
    refine ck_goi (wc := [(q_p1, .inr (3, [.ref q_p1_words, .int p1_many])), (q_p1_words, .inl (cI, n_p1_words, .inl f_p1_words)), (q_o, .inr (4, [.ref q_o_loopOf, .ref q_o_loops, .int o_fault, .int o_place, .long o_steps])), (q_o_loopOf, .inl (cI, n_o_loopOf, .inl f_o_loopOf))]) (wr := [(q_o_loops, .inr (2, [.ref q_o_loops_places, .ref q_o_loops_counts, .int o_loops_depth])), (q_o_loops_places, .inl (cI, n_o_loops_places, .inl f_o_loops_places))]) (w1 := [(q_p1, .inr (3, [.ref q_p1_words, .int p1_many])), (q_p1_words, .inl (cI, n_p1_words, .inl f_p1_words)), (q_o, .inr (4, [.ref q_o_loopOf, .ref q_o_loops, .int o_fault, .int o_place, .long o_steps])), (q_o_loopOf, .inl (cI, n_o_loopOf, .inl f_o_loopOf))]) (va_runV (As := [.ref q_p1]) (rest := []) ⟨hx, hb, hml, hown, hts⟩ (k_Ch_firstStray l dC dI cI cJ fu p1_many n_p1_words f_p1_words o_fault o_place o_steps n_o_loopOf f_o_loopOf q_o q_p1 q_p1_words q_o_loopOf q_o_loops r_5 h_4 _) (cwV 1 hts (gw_V tw_431 tw_433 sw_114 tw_5 tw_434) rfl rfl rfl (by decide +kernel) ⟨Nat.le_of_ble_eq_true rfl, Nat.le_of_ble_eq_true rfl⟩) (ck_preV (wc := [(q_p1, .inr (3, [.ref q_p1_words, .int p1_many])), (q_p1_words, .inl (cI, n_p1_words, .inl f_p1_words)), (q_o, .inr (4, [.ref q_o_loopOf, .ref q_o_loops, .int o_fault, .int o_place, .long o_steps])), (q_o_loopOf, .inl (cI, n_o_loopOf, .inl f_o_loopOf))]) hK hP hD hS hA hE 0 rfl rfl rfl [2, 3, 0, 4] (by decide) rfl) rfl rfl hl.1 rfl (lv_room (Nat.le_of_ble_eq_true rfl)) d_Ch_examineWhole_25 ⟨Nat.le_of_ble_eq_true rfl, Nat.le_of_ble_eq_true rfl⟩) hP hD hS hA [2, 3, 0, 4] [1, 5] rfl rfl (by decide) (by decide) (fun H locs hP hD hS => ?_)
    have hP : va_P (dC, dI) vwCl [(q_o, .inr (4, [.ref q_o_loopOf, .ref q_o_loops, .int o_fault, .int o_place, .long o_steps])), (q_o_loops, .inr (2, [.ref q_o_loops_places, .ref q_o_loops_counts, .int o_loops_depth])), (q_p1, .inr (3, [.ref q_p1_words, .int p1_many])), (q_p1_words, .inl (cI, n_p1_words, .inl f_p1_words)), (q_o_loopOf, .inl (cI, n_o_loopOf, .inl f_o_loopOf)), (q_o_loops_places, .inl (cI, n_o_loops_places, .inl f_o_loops_places))] H := hP.sub [4, 0, 2, 3, 5, 1] rfl
    have hD : va_D A [(q_o, .inr (4, [.ref q_o_loopOf, .ref q_o_loops, .int o_fault, .int o_place, .long o_steps])), (q_o_loops, .inr (2, [.ref q_o_loops_places, .ref q_o_loops_counts, .int o_loops_depth])), (q_p1, .inr (3, [.ref q_p1_words, .int p1_many])), (q_p1_words, .inl (cI, n_p1_words, .inl f_p1_words)), (q_o_loopOf, .inl (cI, n_o_loopOf, .inl f_o_loopOf)), (q_o_loops_places, .inl (cI, n_o_loops_places, .inl f_o_loops_places))] := hD.sub [4, 0, 2, 3, 5, 1] (by decide) rfl
    refine lv_istore_n (lv' := [(2, .int r_5), (0, .ref q_o), (1, .ref q_p1)]) hx hb d_Ch_examineWhole_28 rfl hl (by decide) rfl (fun ls hl => ?_)
    refine lv_iload_n hx hb d_Ch_examineWhole_29 rfl (lv_at hl 0 rfl) ?_
    refine lv_iconst (v := -1) hx hb d_Ch_examineWhole_30 (by decide) ?_
    refine lv_icmp_eq (tgt := 43) hx hb d_Ch_examineWhole_31 (by decide) (fun c_6 => ?_) (fun c_6 => ?_)
    · rw [if_pos c_6] at h
      refine lv_aload_n hx hb d_Ch_examineWhole_43 rfl (lv_at hl 1 rfl) ?_
      refine va_get (D := (dC, dI)) (ci := 4) (v := .long o_steps) (C := R_Ch) (T := T_Ch) (N := 5) hx hb hts (iw_Ch _) hown hK hP 0 rfl rfl 4 (by decide) (hts (.fieldLink R_Ch 33 "ShaderMachine$Check" "steps" "J") (List.mem_cons_of_mem _ tw_110)) (fun _ h9 => h9) rfl d_Ch_examineWhole_44 ?_
      refine lv_ldc2 (v := 65536) hx hb hown (hts (.constantLong R_Ch 31 (65536)) (by decide +kernel)) d_Ch_examineWhole_47 ?_
      refine W.lcmp hx hb d_Ch_examineWhole_50 ?_
      refine lv_if_le (tgt := 61) hx hb d_Ch_examineWhole_51 (by decide) (fun c_7 => ?_) (fun c_7 => ?_)
      · rw [if_pos c_7] at h
        cases h
        exact ck_vret hx hb hr hlk hK hP hD hS d_Ch_examineWhole_61
      · rw [if_neg c_7] at h
        refine lv_aload_n hx hb d_Ch_examineWhole_54 rfl (lv_at hl 1 rfl) ?_
        refine lv_bipush (v := 8) hx hb d_Ch_examineWhole_55 (by decide) ?_
        refine lv_iconst (v := -1) hx hb d_Ch_examineWhole_57 (by decide) ?_
        obtain ⟨⟨w_9, w_10⟩, h_8, h⟩ := ch_bind h
        try dsimp only at h
        refine ck_gov (wc := [(q_o, .inr (4, [.ref q_o_loopOf, .ref q_o_loops, .int o_fault, .int o_place, .long o_steps]))]) (wr := [(q_o_loops, .inr (2, [.ref q_o_loops_places, .ref q_o_loops_counts, .int o_loops_depth])), (q_p1, .inr (3, [.ref q_p1_words, .int p1_many])), (q_p1_words, .inl (cI, n_p1_words, .inl f_p1_words)), (q_o_loopOf, .inl (cI, n_o_loopOf, .inl f_o_loopOf)), (q_o_loops_places, .inl (cI, n_o_loops_places, .inl f_o_loops_places))]) (w1 := [(q_o, .inr (4, [.ref q_o_loopOf, .ref q_o_loops, .int w_9, .int w_10, .long o_steps]))]) (va_runV (As := [.int (8 : Int32), .int (-1 : Int32)]) (rest := []) ⟨hx, hb, hml, hown, hts⟩ (k_Ch_tell l dC dI cI cJ (8 : Int32) (-1 : Int32) o_fault o_place o_steps q_o q_o_loopOf q_o_loops w_9 w_10 h_8 _) (cwV 2 hts (gw_V tw_315 tw_317 sw_78 tw_5 tw_318) rfl rfl rfl (by decide +kernel) ⟨Nat.le_of_ble_eq_true rfl, Nat.le_of_ble_eq_true rfl⟩) (ck_preV (wc := [(q_o, .inr (4, [.ref q_o_loopOf, .ref q_o_loops, .int o_fault, .int o_place, .long o_steps]))]) hK hP hD hS hA hE 0 rfl rfl rfl [0] (by decide) rfl) rfl rfl hl.1 rfl (lv_room (Nat.le_of_ble_eq_true rfl)) d_Ch_examineWhole_58 ⟨Nat.le_of_ble_eq_true rfl, Nat.le_of_ble_eq_true rfl⟩) hP hD hS hA [0] [1, 2, 3, 4, 5] rfl rfl (by decide) (by decide) (fun H locs hP hD hS => ?_)
        have hP : va_P (dC, dI) vwCl [(q_o, .inr (4, [.ref q_o_loopOf, .ref q_o_loops, .int w_9, .int w_10, .long o_steps])), (q_o_loops, .inr (2, [.ref q_o_loops_places, .ref q_o_loops_counts, .int o_loops_depth])), (q_p1, .inr (3, [.ref q_p1_words, .int p1_many])), (q_p1_words, .inl (cI, n_p1_words, .inl f_p1_words)), (q_o_loopOf, .inl (cI, n_o_loopOf, .inl f_o_loopOf)), (q_o_loops_places, .inl (cI, n_o_loops_places, .inl f_o_loops_places))] H := hP.sub [5, 0, 1, 2, 3, 4] rfl
        have hD : va_D A [(q_o, .inr (4, [.ref q_o_loopOf, .ref q_o_loops, .int w_9, .int w_10, .long o_steps])), (q_o_loops, .inr (2, [.ref q_o_loops_places, .ref q_o_loops_counts, .int o_loops_depth])), (q_p1, .inr (3, [.ref q_p1_words, .int p1_many])), (q_p1_words, .inl (cI, n_p1_words, .inl f_p1_words)), (q_o_loopOf, .inl (cI, n_o_loopOf, .inl f_o_loopOf)), (q_o_loops_places, .inl (cI, n_o_loops_places, .inl f_o_loops_places))] := hD.sub [5, 0, 1, 2, 3, 4] (by decide) rfl
        cases h
        exact ck_vret hx hb hr hlk hK hP hD hS d_Ch_examineWhole_61
    · rw [if_neg c_6] at h
      refine lv_aload_n hx hb d_Ch_examineWhole_34 rfl (lv_at hl 1 rfl) ?_
      refine lv_iconst (v := 5) hx hb d_Ch_examineWhole_35 (by decide) ?_
      refine lv_iload_n hx hb d_Ch_examineWhole_36 rfl (lv_at hl 0 rfl) ?_
      obtain ⟨⟨w_12, w_13⟩, h_11, h⟩ := ch_bind h
      try dsimp only at h
      refine ck_gov (wc := [(q_o, .inr (4, [.ref q_o_loopOf, .ref q_o_loops, .int o_fault, .int o_place, .long o_steps]))]) (wr := [(q_o_loops, .inr (2, [.ref q_o_loops_places, .ref q_o_loops_counts, .int o_loops_depth])), (q_p1, .inr (3, [.ref q_p1_words, .int p1_many])), (q_p1_words, .inl (cI, n_p1_words, .inl f_p1_words)), (q_o_loopOf, .inl (cI, n_o_loopOf, .inl f_o_loopOf)), (q_o_loops_places, .inl (cI, n_o_loops_places, .inl f_o_loops_places))]) (w1 := [(q_o, .inr (4, [.ref q_o_loopOf, .ref q_o_loops, .int w_12, .int w_13, .long o_steps]))]) (va_runV (As := [.int (5 : Int32), .int r_5]) (rest := []) ⟨hx, hb, hml, hown, hts⟩ (k_Ch_tell l dC dI cI cJ (5 : Int32) r_5 o_fault o_place o_steps q_o q_o_loopOf q_o_loops w_12 w_13 h_11 _) (cwV 2 hts (gw_V tw_315 tw_317 sw_78 tw_5 tw_318) rfl rfl rfl (by decide +kernel) ⟨Nat.le_of_ble_eq_true rfl, Nat.le_of_ble_eq_true rfl⟩) (ck_preV (wc := [(q_o, .inr (4, [.ref q_o_loopOf, .ref q_o_loops, .int o_fault, .int o_place, .long o_steps]))]) hK hP hD hS hA hE 0 rfl rfl rfl [0] (by decide) rfl) rfl rfl hl.1 rfl (lv_room (Nat.le_of_ble_eq_true rfl)) d_Ch_examineWhole_37 ⟨Nat.le_of_ble_eq_true rfl, Nat.le_of_ble_eq_true rfl⟩) hP hD hS hA [0] [1, 2, 3, 4, 5] rfl rfl (by decide) (by decide) (fun H locs hP hD hS => ?_)
      have hP : va_P (dC, dI) vwCl [(q_o, .inr (4, [.ref q_o_loopOf, .ref q_o_loops, .int w_12, .int w_13, .long o_steps])), (q_o_loops, .inr (2, [.ref q_o_loops_places, .ref q_o_loops_counts, .int o_loops_depth])), (q_p1, .inr (3, [.ref q_p1_words, .int p1_many])), (q_p1_words, .inl (cI, n_p1_words, .inl f_p1_words)), (q_o_loopOf, .inl (cI, n_o_loopOf, .inl f_o_loopOf)), (q_o_loops_places, .inl (cI, n_o_loops_places, .inl f_o_loops_places))] H := hP.sub [5, 0, 1, 2, 3, 4] rfl
      have hD : va_D A [(q_o, .inr (4, [.ref q_o_loopOf, .ref q_o_loops, .int w_12, .int w_13, .long o_steps])), (q_o_loops, .inr (2, [.ref q_o_loops_places, .ref q_o_loops_counts, .int o_loops_depth])), (q_p1, .inr (3, [.ref q_p1_words, .int p1_many])), (q_p1_words, .inl (cI, n_p1_words, .inl f_p1_words)), (q_o_loopOf, .inl (cI, n_o_loopOf, .inl f_o_loopOf)), (q_o_loops_places, .inl (cI, n_o_loops_places, .inl f_o_loops_places))] := hD.sub [5, 0, 1, 2, 3, 4] (by decide) rfl
      refine lv_goto (tgt := 61) hx hb d_Ch_examineWhole_40 (by decide) ?_
      cases h
      exact ck_vret hx hb hr hlk hK hP hD hS d_Ch_examineWhole_61
  · rw [if_pos c_3] at h
    refine lv_aload_n hx hb d_Ch_examineWhole_10 rfl (lv_at hl 0 rfl) ?_
    refine lv_iconst (v := 5) hx hb d_Ch_examineWhole_11 (by decide) ?_
    refine lv_aload_n hx hb d_Ch_examineWhole_12 rfl (lv_at hl 0 rfl) ?_
    refine va_get (D := (dC, dI)) (ci := 4) (v := .ref q_o_loops) (C := R_Ch) (T := T_Ch) (N := 5) hx hb hts (iw_Ch _) hown hK hP 0 rfl rfl 1 (by decide) (hts (.fieldLink R_Ch 20 "ShaderMachine$Check" "loops" "LShaderMachine$Loops;") (List.mem_cons_of_mem _ tw_107)) (fun _ h9 => h9) rfl d_Ch_examineWhole_13 ?_
    obtain ⟨r_15, h_14, h⟩ := ch_bind h
    try dsimp only at h
    refine ck_goi (wc := [(q_o_loops, .inr (2, [.ref q_o_loops_places, .ref q_o_loops_counts, .int o_loops_depth])), (q_o_loops_places, .inl (cI, n_o_loops_places, .inl f_o_loops_places))]) (wr := [(q_o, .inr (4, [.ref q_o_loopOf, .ref q_o_loops, .int o_fault, .int o_place, .long o_steps])), (q_p1, .inr (3, [.ref q_p1_words, .int p1_many])), (q_p1_words, .inl (cI, n_p1_words, .inl f_p1_words)), (q_o_loopOf, .inl (cI, n_o_loopOf, .inl f_o_loopOf))]) (w1 := [(q_o_loops, .inr (2, [.ref q_o_loops_places, .ref q_o_loops_counts, .int o_loops_depth])), (q_o_loops_places, .inl (cI, n_o_loops_places, .inl f_o_loops_places))]) (va_runV (As := []) (rest := [.int (5 : Int32), .ref q_o]) ⟨hx, hb, hml, hown, hts⟩ (k_Lo_innermost l dC dI cI cJ o_loops_depth n_o_loops_places f_o_loops_places q_o_loops q_o_loops_places q_o_loops_counts r_15 h_14 _) (cwV 0 hts (gw_V tw_411 tw_412 tw_413 tw_6 tw_414) rfl rfl rfl (by decide +kernel) ⟨Nat.le_of_ble_eq_true rfl, Nat.le_of_ble_eq_true rfl⟩) (ck_preV (wc := [(q_o_loops, .inr (2, [.ref q_o_loops_places, .ref q_o_loops_counts, .int o_loops_depth])), (q_o_loops_places, .inl (cI, n_o_loops_places, .inl f_o_loops_places))]) hK hP hD hS hA hE 1 rfl rfl rfl [1, 5] (by decide) rfl) rfl rfl hl.1 rfl (lv_room (Nat.le_of_ble_eq_true rfl)) d_Ch_examineWhole_16 ⟨Nat.le_of_ble_eq_true rfl, Nat.le_of_ble_eq_true rfl⟩) hP hD hS hA [1, 5] [0, 2, 3, 4] rfl rfl (by decide) (by decide) (fun H locs hP hD hS => ?_)
    have hP : va_P (dC, dI) vwCl [(q_o, .inr (4, [.ref q_o_loopOf, .ref q_o_loops, .int o_fault, .int o_place, .long o_steps])), (q_o_loops, .inr (2, [.ref q_o_loops_places, .ref q_o_loops_counts, .int o_loops_depth])), (q_p1, .inr (3, [.ref q_p1_words, .int p1_many])), (q_p1_words, .inl (cI, n_p1_words, .inl f_p1_words)), (q_o_loopOf, .inl (cI, n_o_loopOf, .inl f_o_loopOf)), (q_o_loops_places, .inl (cI, n_o_loops_places, .inl f_o_loops_places))] H := hP.sub [0, 4, 1, 2, 3, 5] rfl
    have hD : va_D A [(q_o, .inr (4, [.ref q_o_loopOf, .ref q_o_loops, .int o_fault, .int o_place, .long o_steps])), (q_o_loops, .inr (2, [.ref q_o_loops_places, .ref q_o_loops_counts, .int o_loops_depth])), (q_p1, .inr (3, [.ref q_p1_words, .int p1_many])), (q_p1_words, .inl (cI, n_p1_words, .inl f_p1_words)), (q_o_loopOf, .inl (cI, n_o_loopOf, .inl f_o_loopOf)), (q_o_loops_places, .inl (cI, n_o_loops_places, .inl f_o_loops_places))] := hD.sub [0, 4, 1, 2, 3, 5] (by decide) rfl
    obtain ⟨⟨w_17, w_18⟩, h_16, h⟩ := ch_bind h
    try dsimp only at h
    refine ck_gov (wc := [(q_o, .inr (4, [.ref q_o_loopOf, .ref q_o_loops, .int o_fault, .int o_place, .long o_steps]))]) (wr := [(q_o_loops, .inr (2, [.ref q_o_loops_places, .ref q_o_loops_counts, .int o_loops_depth])), (q_p1, .inr (3, [.ref q_p1_words, .int p1_many])), (q_p1_words, .inl (cI, n_p1_words, .inl f_p1_words)), (q_o_loopOf, .inl (cI, n_o_loopOf, .inl f_o_loopOf)), (q_o_loops_places, .inl (cI, n_o_loops_places, .inl f_o_loops_places))]) (w1 := [(q_o, .inr (4, [.ref q_o_loopOf, .ref q_o_loops, .int w_17, .int w_18, .long o_steps]))]) (va_runV (As := [.int (5 : Int32), .int r_15]) (rest := []) ⟨hx, hb, hml, hown, hts⟩ (k_Ch_tell l dC dI cI cJ (5 : Int32) r_15 o_fault o_place o_steps q_o q_o_loopOf q_o_loops w_17 w_18 h_16 _) (cwV 2 hts (gw_V tw_315 tw_317 sw_78 tw_5 tw_318) rfl rfl rfl (by decide +kernel) ⟨Nat.le_of_ble_eq_true rfl, Nat.le_of_ble_eq_true rfl⟩) (ck_preV (wc := [(q_o, .inr (4, [.ref q_o_loopOf, .ref q_o_loops, .int o_fault, .int o_place, .long o_steps]))]) hK hP hD hS hA hE 0 rfl rfl rfl [0] (by decide) rfl) rfl rfl hl.1 rfl (lv_room (Nat.le_of_ble_eq_true rfl)) d_Ch_examineWhole_19 ⟨Nat.le_of_ble_eq_true rfl, Nat.le_of_ble_eq_true rfl⟩) hP hD hS hA [0] [1, 2, 3, 4, 5] rfl rfl (by decide) (by decide) (fun H locs hP hD hS => ?_)
    have hP : va_P (dC, dI) vwCl [(q_o, .inr (4, [.ref q_o_loopOf, .ref q_o_loops, .int w_17, .int w_18, .long o_steps])), (q_o_loops, .inr (2, [.ref q_o_loops_places, .ref q_o_loops_counts, .int o_loops_depth])), (q_p1, .inr (3, [.ref q_p1_words, .int p1_many])), (q_p1_words, .inl (cI, n_p1_words, .inl f_p1_words)), (q_o_loopOf, .inl (cI, n_o_loopOf, .inl f_o_loopOf)), (q_o_loops_places, .inl (cI, n_o_loops_places, .inl f_o_loops_places))] H := hP.sub [5, 0, 1, 2, 3, 4] rfl
    have hD : va_D A [(q_o, .inr (4, [.ref q_o_loopOf, .ref q_o_loops, .int w_17, .int w_18, .long o_steps])), (q_o_loops, .inr (2, [.ref q_o_loops_places, .ref q_o_loops_counts, .int o_loops_depth])), (q_p1, .inr (3, [.ref q_p1_words, .int p1_many])), (q_p1_words, .inl (cI, n_p1_words, .inl f_p1_words)), (q_o_loopOf, .inl (cI, n_o_loopOf, .inl f_o_loopOf)), (q_o_loops_places, .inl (cI, n_o_loops_places, .inl f_o_loops_places))] := hD.sub [5, 0, 1, 2, 3, 4] (by decide) rfl
    cases h
    exact ck_vret hx hb hr hlk hK hP hD hS d_Ch_examineWhole_22
def pf_Ch_isTargetWrong (p1 : Int32) (p2 : Int32) : Option (Int32) :=
  Option.bind (pf_Ki_hasTarget p1) (fun r_2 => 
  if r_2 = 0 then
    if (p2 &&& (131008 : Int32)) = 0 then
      some (0 : Int32)
    else
      some (1 : Int32)
  else
    Option.bind (pf_Ta_setsAny p2) (fun r_5 => 
    if r_5 = 0 then
      some (1 : Int32)
    else
      Option.bind (pf_Ta_file p2) (fun r_8 => 
      if r_8 = 0 then
        Option.bind (pf_Ta_number p2) (fun r_11 => 
        if r_11 < (16 : Int32) then
          some (0 : Int32)
        else
          some (1 : Int32))
      else
      if r_8 = 1 then
        Option.bind (pf_Ta_number p2) (fun r_15 => 
        if r_15 < (8 : Int32) then
          some (0 : Int32)
        else
          some (1 : Int32))
      else
        some (1 : Int32))))
set_option maxHeartbeats 4000000 in
set_option maxRecDepth 100000 in
theorem k_Ch_isTargetWrong (l : Launch) (dC : Nat → ClassId) (dI : Nat → Nat → Nat) (cI cJ : ClassId) (p1 : Int32) (p2 : Int32) (r : Int32) (h : pf_Ch_isTargetWrong p1 p2 = some r) : ck_i l y_Ch_isTargetWrong wm_Ch_isTargetWrong ({ frames := 1, cells := 0, slots := 0, locals := 20 } : Room) [.int p1, .int p2] (dC, dI) [(cI, .int), (cJ, .long)] [] r [] := by
  refine ck_ofi (cc := c_Ch_isTargetWrong) (maxL := 2) (ret := (some .boolean)) (by decide +kernel) rfl ?_
  intro p e s m below meth c A C0 hK hP hD hS hE
  obtain ⟨hx, hb, hr, hml, hown, hts, hlk, hA, hin⟩ := C0
  unfold pf_Ch_isTargetWrong at h
  have hl := lv_entry ([.int p1, .int p2]) (n := 2) (Nat.le_of_ble_eq_true rfl)
  rw [lg_entry_eq]
  generalize (lg_sl ([.int p1, .int p2]) ++ List.replicate (2 - (lg_sl ([.int p1, .int p2])).length) Slot.unset).toArray = ls at hl ⊢
  have hl : lv_has ls 2 [(0, .int p1), (1, .int p2)] := hl
  refine lv_iload_n hx hb d_Ch_isTargetWrong_0 rfl (lv_at hl 0 rfl) ?_
  obtain ⟨r_2, h_1, h⟩ := ch_bind h
  try dsimp only at h
  refine ck_goi (wc := []) (wr := []) (w1 := []) (va_runS (As := [.int p1]) (rest := []) ⟨hx, hb, hml, hown, hts⟩ (k_Ki_hasTarget l dC dI cI cJ p1 r_2 h_1 _) (va_cwS 1 hts (gw_S tw_347 tw_348 tw_14 tw_349) rfl rfl rfl (by decide +kernel) ⟨Nat.le_of_ble_eq_true rfl, Nat.le_of_ble_eq_true rfl⟩) (ck_preS (wc := []) hK hP hD hS hA hE [] (by decide) rfl) rfl rfl hl.1 rfl (lv_room (Nat.le_of_ble_eq_true rfl)) d_Ch_isTargetWrong_1 ⟨Nat.le_of_ble_eq_true rfl, Nat.le_of_ble_eq_true rfl⟩) hP hD hS hA [] [] rfl rfl (by decide) (by decide) (fun H locs hP hD hS => ?_)
  have hP : va_P (dC, dI) vwCl [] H := hP.sub [] rfl
  have hD : va_D A [] := hD.sub [] (by decide) rfl
  refine lv_if_ne (tgt := 20) hx hb d_Ch_isTargetWrong_4 (by decide) (fun c_3 => ?_) (fun c_3 => ?_)
  · rw [if_neg c_3] at h
    refine lv_iload_n hx hb d_Ch_isTargetWrong_20 rfl (lv_at hl 1 rfl) ?_
    obtain ⟨r_5, h_4, h⟩ := ch_bind h
    try dsimp only at h
    refine ck_goi (wc := []) (wr := []) (w1 := []) (va_runS (As := [.int p2]) (rest := []) ⟨hx, hb, hml, hown, hts⟩ (k_Ta_setsAny l dC dI cI cJ p2 r_5 h_4 _) (va_cwS 1 hts (gw_S tw_351 tw_352 tw_15 tw_353) rfl rfl rfl (by decide +kernel) ⟨Nat.le_of_ble_eq_true rfl, Nat.le_of_ble_eq_true rfl⟩) (ck_preS (wc := []) hK hP hD hS hA hE [] (by decide) rfl) rfl rfl hl.1 rfl (lv_room (Nat.le_of_ble_eq_true rfl)) d_Ch_isTargetWrong_21 ⟨Nat.le_of_ble_eq_true rfl, Nat.le_of_ble_eq_true rfl⟩) hP hD hS hA [] [] rfl rfl (by decide) (by decide) (fun H locs hP hD hS => ?_)
    have hP : va_P (dC, dI) vwCl [] H := hP.sub [] rfl
    have hD : va_D A [] := hD.sub [] (by decide) rfl
    refine lv_if_ne (tgt := 29) hx hb d_Ch_isTargetWrong_24 (by decide) (fun c_6 => ?_) (fun c_6 => ?_)
    · rw [if_neg c_6] at h
      refine lv_iload_n hx hb d_Ch_isTargetWrong_29 rfl (lv_at hl 1 rfl) ?_
      obtain ⟨r_8, h_7, h⟩ := ch_bind h
      try dsimp only at h
      refine ck_goi (wc := []) (wr := []) (w1 := []) (va_runS (As := [.int p2]) (rest := []) ⟨hx, hb, hml, hown, hts⟩ (k_Ta_file l dC dI cI cJ p2 r_8 h_7 _) (va_cwS 1 hts (gw_S tw_354 tw_355 tw_15 tw_356) rfl rfl rfl (by decide +kernel) ⟨Nat.le_of_ble_eq_true rfl, Nat.le_of_ble_eq_true rfl⟩) (ck_preS (wc := []) hK hP hD hS hA hE [] (by decide) rfl) rfl rfl hl.1 rfl (lv_room (Nat.le_of_ble_eq_true rfl)) d_Ch_isTargetWrong_30 ⟨Nat.le_of_ble_eq_true rfl, Nat.le_of_ble_eq_true rfl⟩) hP hD hS hA [] [] rfl rfl (by decide) (by decide) (fun H locs hP hD hS => ?_)
      have hP : va_P (dC, dI) vwCl [] H := hP.sub [] rfl
      have hD : va_D A [] := hD.sub [] (by decide) rfl
      by_cases c_9 : r_8 = 0
      · rw [if_pos c_9] at h
        refine lv_lookup (off := 27) (tgt := 60) hx hb d_Ch_isTargetWrong_33 (by decide) (by rw [c_9]; try rfl) (by decide) ?_
        refine lv_iload_n hx hb d_Ch_isTargetWrong_60 rfl (lv_at hl 1 rfl) ?_
        obtain ⟨r_11, h_10, h⟩ := ch_bind h
        try dsimp only at h
        refine ck_goi (wc := []) (wr := []) (w1 := []) (va_runS (As := [.int p2]) (rest := []) ⟨hx, hb, hml, hown, hts⟩ (k_Ta_number l dC dI cI cJ p2 r_11 h_10 _) (va_cwS 1 hts (gw_S tw_357 tw_358 tw_15 tw_359) rfl rfl rfl (by decide +kernel) ⟨Nat.le_of_ble_eq_true rfl, Nat.le_of_ble_eq_true rfl⟩) (ck_preS (wc := []) hK hP hD hS hA hE [] (by decide) rfl) rfl rfl hl.1 rfl (lv_room (Nat.le_of_ble_eq_true rfl)) d_Ch_isTargetWrong_61 ⟨Nat.le_of_ble_eq_true rfl, Nat.le_of_ble_eq_true rfl⟩) hP hD hS hA [] [] rfl rfl (by decide) (by decide) (fun H locs hP hD hS => ?_)
        have hP : va_P (dC, dI) vwCl [] H := hP.sub [] rfl
        have hD : va_D A [] := hD.sub [] (by decide) rfl
        refine lv_bipush (v := 16) hx hb d_Ch_isTargetWrong_64 (by decide) ?_
        refine lv_icmp_lt (tgt := 73) hx hb d_Ch_isTargetWrong_66 (by decide) (fun c_12 => ?_) (fun c_12 => ?_)
        · rw [if_pos c_12] at h
          refine lv_iconst (v := 0) hx hb d_Ch_isTargetWrong_73 (by decide) ?_
          cases h
          exact ck_zret hx hb hr rfl hlk hK hP hD hS d_Ch_isTargetWrong_74
        · rw [if_neg c_12] at h
          refine lv_iconst (v := 1) hx hb d_Ch_isTargetWrong_69 (by decide) ?_
          refine lv_goto (tgt := 74) hx hb d_Ch_isTargetWrong_70 (by decide) ?_
          cases h
          exact ck_zret hx hb hr rfl hlk hK hP hD hS d_Ch_isTargetWrong_74
      rw [if_neg c_9] at h
      by_cases c_13 : r_8 = 1
      · rw [if_pos c_13] at h
        refine lv_lookup (off := 42) (tgt := 75) hx hb d_Ch_isTargetWrong_33 (by decide) (by rw [c_13]; try rfl) (by decide) ?_
        refine lv_iload_n hx hb d_Ch_isTargetWrong_75 rfl (lv_at hl 1 rfl) ?_
        obtain ⟨r_15, h_14, h⟩ := ch_bind h
        try dsimp only at h
        refine ck_goi (wc := []) (wr := []) (w1 := []) (va_runS (As := [.int p2]) (rest := []) ⟨hx, hb, hml, hown, hts⟩ (k_Ta_number l dC dI cI cJ p2 r_15 h_14 _) (va_cwS 1 hts (gw_S tw_357 tw_358 tw_15 tw_359) rfl rfl rfl (by decide +kernel) ⟨Nat.le_of_ble_eq_true rfl, Nat.le_of_ble_eq_true rfl⟩) (ck_preS (wc := []) hK hP hD hS hA hE [] (by decide) rfl) rfl rfl hl.1 rfl (lv_room (Nat.le_of_ble_eq_true rfl)) d_Ch_isTargetWrong_76 ⟨Nat.le_of_ble_eq_true rfl, Nat.le_of_ble_eq_true rfl⟩) hP hD hS hA [] [] rfl rfl (by decide) (by decide) (fun H locs hP hD hS => ?_)
        have hP : va_P (dC, dI) vwCl [] H := hP.sub [] rfl
        have hD : va_D A [] := hD.sub [] (by decide) rfl
        refine lv_bipush (v := 8) hx hb d_Ch_isTargetWrong_79 (by decide) ?_
        refine lv_icmp_lt (tgt := 88) hx hb d_Ch_isTargetWrong_81 (by decide) (fun c_16 => ?_) (fun c_16 => ?_)
        · rw [if_pos c_16] at h
          refine lv_iconst (v := 0) hx hb d_Ch_isTargetWrong_88 (by decide) ?_
          cases h
          exact ck_zret hx hb hr rfl hlk hK hP hD hS d_Ch_isTargetWrong_89
        · rw [if_neg c_16] at h
          refine lv_iconst (v := 1) hx hb d_Ch_isTargetWrong_84 (by decide) ?_
          refine lv_goto (tgt := 89) hx hb d_Ch_isTargetWrong_85 (by decide) ?_
          cases h
          exact ck_zret hx hb hr rfl hlk hK hP hD hS d_Ch_isTargetWrong_89
      rw [if_neg c_13] at h
      refine lv_lookup (off := 57) (tgt := 90) hx hb d_Ch_isTargetWrong_33 (by decide) (by rw [lv_osw c_9 (k := 0) (by decide), lv_osw c_13 (k := 1) (by decide)]; try rfl) (by decide) ?_
      refine lv_iconst (v := 1) hx hb d_Ch_isTargetWrong_90 (by decide) ?_
      cases h
      exact ck_zret hx hb hr rfl hlk hK hP hD hS d_Ch_isTargetWrong_91
    · rw [if_pos c_6] at h
      refine lv_iconst (v := 1) hx hb d_Ch_isTargetWrong_27 (by decide) ?_
      cases h
      exact ck_zret hx hb hr rfl hlk hK hP hD hS d_Ch_isTargetWrong_28
  · rw [if_pos c_3] at h
    refine lv_iload_n hx hb d_Ch_isTargetWrong_7 rfl (lv_at hl 1 rfl) ?_
    refine lv_ldc (v := 131008) hx hb hown (hts (.constant R_Ch 116 (131008)) (by decide +kernel)) d_Ch_isTargetWrong_8 ?_
    refine lv_iand hx hb d_Ch_isTargetWrong_10 ?_
    refine lv_if_eq (tgt := 18) hx hb d_Ch_isTargetWrong_11 (by decide) (fun c_17 => ?_) (fun c_17 => ?_)
    · rw [if_pos c_17] at h
      refine lv_iconst (v := 0) hx hb d_Ch_isTargetWrong_18 (by decide) ?_
      cases h
      exact ck_zret hx hb hr rfl hlk hK hP hD hS d_Ch_isTargetWrong_19
    · rw [if_neg c_17] at h
      refine lv_iconst (v := 1) hx hb d_Ch_isTargetWrong_14 (by decide) ?_
      refine lv_goto (tgt := 19) hx hb d_Ch_isTargetWrong_15 (by decide) ?_
      cases h
      exact ck_zret hx hb hr rfl hlk hK hP hD hS d_Ch_isTargetWrong_19
def pf_Ch_isSourceWrong (p1 : Int32) (p2 : Int32) : Option (Int32) :=
  if p2 = 0 then
    if p1 = 0 then
      some (0 : Int32)
    else
      some (1 : Int32)
  else
    Option.bind (pf_So_number p1) (fun r_3 => 
    Option.bind (pf_So_file p1) (fun r_5 => 
    if r_5 < 0 ∨ 2 < r_5 then
      if r_3 = 0 then
        some (0 : Int32)
      else
        some (1 : Int32)
    else
    if r_5 = 0 then
      if r_3 < (16 : Int32) then
        some (0 : Int32)
      else
        some (1 : Int32)
    else
    if r_5 = 1 then
      if r_3 < (8 : Int32) then
        some (0 : Int32)
      else
        some (1 : Int32)
    else
    if r_5 = 2 then
      if r_3 < (32 : Int32) then
        some (0 : Int32)
      else
        some (1 : Int32)
    else
      none))
set_option maxHeartbeats 4000000 in
set_option maxRecDepth 100000 in
theorem k_Ch_isSourceWrong (l : Launch) (dC : Nat → ClassId) (dI : Nat → Nat → Nat) (cI cJ : ClassId) (p1 : Int32) (p2 : Int32) (r : Int32) (h : pf_Ch_isSourceWrong p1 p2 = some r) : ck_i l y_Ch_isSourceWrong wm_Ch_isSourceWrong ({ frames := 1, cells := 0, slots := 0, locals := 20 } : Room) [.int p1, .int p2] (dC, dI) [(cI, .int), (cJ, .long)] [] r [] := by
  refine ck_ofi (cc := c_Ch_isSourceWrong) (maxL := 3) (ret := (some .boolean)) (by decide +kernel) rfl ?_
  intro p e s m below meth c A C0 hK hP hD hS hE
  obtain ⟨hx, hb, hr, hml, hown, hts, hlk, hA, hin⟩ := C0
  unfold pf_Ch_isSourceWrong at h
  have hl := lv_entry ([.int p1, .int p2]) (n := 3) (Nat.le_of_ble_eq_true rfl)
  rw [lg_entry_eq]
  generalize (lg_sl ([.int p1, .int p2]) ++ List.replicate (3 - (lg_sl ([.int p1, .int p2])).length) Slot.unset).toArray = ls at hl ⊢
  have hl : lv_has ls 3 [(0, .int p1), (1, .int p2)] := hl
  refine lv_iload_n hx hb d_Ch_isSourceWrong_0 rfl (lv_at hl 1 rfl) ?_
  refine lv_if_ne (tgt := 14) hx hb d_Ch_isSourceWrong_1 (by decide) (fun c_1 => ?_) (fun c_1 => ?_)
  · rw [if_neg c_1] at h
    refine lv_iload_n hx hb d_Ch_isSourceWrong_14 rfl (lv_at hl 0 rfl) ?_
    obtain ⟨r_3, h_2, h⟩ := ch_bind h
    try dsimp only at h
    refine ck_goi (wc := []) (wr := []) (w1 := []) (va_runS (As := [.int p1]) (rest := []) ⟨hx, hb, hml, hown, hts⟩ (k_So_number l dC dI cI cJ p1 r_3 h_2 _) (va_cwS 1 hts (gw_S tw_380 tw_381 tw_16 tw_382) rfl rfl rfl (by decide +kernel) ⟨Nat.le_of_ble_eq_true rfl, Nat.le_of_ble_eq_true rfl⟩) (ck_preS (wc := []) hK hP hD hS hA hE [] (by decide) rfl) rfl rfl hl.1 rfl (lv_room (Nat.le_of_ble_eq_true rfl)) d_Ch_isSourceWrong_15 ⟨Nat.le_of_ble_eq_true rfl, Nat.le_of_ble_eq_true rfl⟩) hP hD hS hA [] [] rfl rfl (by decide) (by decide) (fun H locs hP hD hS => ?_)
    have hP : va_P (dC, dI) vwCl [] H := hP.sub [] rfl
    have hD : va_D A [] := hD.sub [] (by decide) rfl
    refine lv_istore_n (lv' := [(2, .int r_3), (0, .int p1), (1, .int p2)]) hx hb d_Ch_isSourceWrong_18 rfl hl (by decide) rfl (fun ls hl => ?_)
    refine lv_iload_n hx hb d_Ch_isSourceWrong_19 rfl (lv_at hl 1 rfl) ?_
    obtain ⟨r_5, h_4, h⟩ := ch_bind h
    try dsimp only at h
    refine ck_goi (wc := []) (wr := []) (w1 := []) (va_runS (As := [.int p1]) (rest := []) ⟨hx, hb, hml, hown, hts⟩ (k_So_file l dC dI cI cJ p1 r_5 h_4 _) (va_cwS 1 hts (gw_S tw_383 tw_384 tw_16 tw_385) rfl rfl rfl (by decide +kernel) ⟨Nat.le_of_ble_eq_true rfl, Nat.le_of_ble_eq_true rfl⟩) (ck_preS (wc := []) hK hP hD hS hA hE [] (by decide) rfl) rfl rfl hl.1 rfl (lv_room (Nat.le_of_ble_eq_true rfl)) d_Ch_isSourceWrong_20 ⟨Nat.le_of_ble_eq_true rfl, Nat.le_of_ble_eq_true rfl⟩) hP hD hS hA [] [] rfl rfl (by decide) (by decide) (fun H locs hP hD hS => ?_)
    have hP : va_P (dC, dI) vwCl [] H := hP.sub [] rfl
    have hD : va_D A [] := hD.sub [] (by decide) rfl
    by_cases c_6 : r_5 < 0 ∨ 2 < r_5
    · rw [if_pos c_6] at h
      refine lv_tableOut (tgt := 84) hx hb d_Ch_isSourceWrong_23 (ch_out c_6 (by decide) (by decide)) (by decide) ?_
      refine lv_iload_n hx hb d_Ch_isSourceWrong_84 rfl (lv_at hl 0 rfl) ?_
      refine lv_if_eq (tgt := 92) hx hb d_Ch_isSourceWrong_85 (by decide) (fun c_7 => ?_) (fun c_7 => ?_)
      · rw [if_pos c_7] at h
        refine lv_iconst (v := 0) hx hb d_Ch_isSourceWrong_92 (by decide) ?_
        cases h
        exact ck_zret hx hb hr rfl hlk hK hP hD hS d_Ch_isSourceWrong_93
      · rw [if_neg c_7] at h
        refine lv_iconst (v := 1) hx hb d_Ch_isSourceWrong_88 (by decide) ?_
        refine lv_goto (tgt := 93) hx hb d_Ch_isSourceWrong_89 (by decide) ?_
        cases h
        exact ck_zret hx hb hr rfl hlk hK hP hD hS d_Ch_isSourceWrong_93
    rw [if_neg c_6] at h
    by_cases c_8 : r_5 = 0
    · rw [if_pos c_8] at h
      refine lv_tableIn (tgt := 48) hx hb d_Ch_isSourceWrong_23 (by rw [c_8]; decide) (by rw [c_8]; decide) (by rw [c_8]; rfl) (by decide) ?_
      refine lv_iload_n hx hb d_Ch_isSourceWrong_48 rfl (lv_at hl 0 rfl) ?_
      refine lv_bipush (v := 16) hx hb d_Ch_isSourceWrong_49 (by decide) ?_
      refine lv_icmp_lt (tgt := 58) hx hb d_Ch_isSourceWrong_51 (by decide) (fun c_9 => ?_) (fun c_9 => ?_)
      · rw [if_pos c_9] at h
        refine lv_iconst (v := 0) hx hb d_Ch_isSourceWrong_58 (by decide) ?_
        cases h
        exact ck_zret hx hb hr rfl hlk hK hP hD hS d_Ch_isSourceWrong_59
      · rw [if_neg c_9] at h
        refine lv_iconst (v := 1) hx hb d_Ch_isSourceWrong_54 (by decide) ?_
        refine lv_goto (tgt := 59) hx hb d_Ch_isSourceWrong_55 (by decide) ?_
        cases h
        exact ck_zret hx hb hr rfl hlk hK hP hD hS d_Ch_isSourceWrong_59
    rw [if_neg c_8] at h
    by_cases c_10 : r_5 = 1
    · rw [if_pos c_10] at h
      refine lv_tableIn (tgt := 60) hx hb d_Ch_isSourceWrong_23 (by rw [c_10]; decide) (by rw [c_10]; decide) (by rw [c_10]; rfl) (by decide) ?_
      refine lv_iload_n hx hb d_Ch_isSourceWrong_60 rfl (lv_at hl 0 rfl) ?_
      refine lv_bipush (v := 8) hx hb d_Ch_isSourceWrong_61 (by decide) ?_
      refine lv_icmp_lt (tgt := 70) hx hb d_Ch_isSourceWrong_63 (by decide) (fun c_11 => ?_) (fun c_11 => ?_)
      · rw [if_pos c_11] at h
        refine lv_iconst (v := 0) hx hb d_Ch_isSourceWrong_70 (by decide) ?_
        cases h
        exact ck_zret hx hb hr rfl hlk hK hP hD hS d_Ch_isSourceWrong_71
      · rw [if_neg c_11] at h
        refine lv_iconst (v := 1) hx hb d_Ch_isSourceWrong_66 (by decide) ?_
        refine lv_goto (tgt := 71) hx hb d_Ch_isSourceWrong_67 (by decide) ?_
        cases h
        exact ck_zret hx hb hr rfl hlk hK hP hD hS d_Ch_isSourceWrong_71
    rw [if_neg c_10] at h
    by_cases c_12 : r_5 = 2
    · rw [if_pos c_12] at h
      refine lv_tableIn (tgt := 72) hx hb d_Ch_isSourceWrong_23 (by rw [c_12]; decide) (by rw [c_12]; decide) (by rw [c_12]; rfl) (by decide) ?_
      refine lv_iload_n hx hb d_Ch_isSourceWrong_72 rfl (lv_at hl 0 rfl) ?_
      refine lv_bipush (v := 32) hx hb d_Ch_isSourceWrong_73 (by decide) ?_
      refine lv_icmp_lt (tgt := 82) hx hb d_Ch_isSourceWrong_75 (by decide) (fun c_13 => ?_) (fun c_13 => ?_)
      · rw [if_pos c_13] at h
        refine lv_iconst (v := 0) hx hb d_Ch_isSourceWrong_82 (by decide) ?_
        cases h
        exact ck_zret hx hb hr rfl hlk hK hP hD hS d_Ch_isSourceWrong_83
      · rw [if_neg c_13] at h
        refine lv_iconst (v := 1) hx hb d_Ch_isSourceWrong_78 (by decide) ?_
        refine lv_goto (tgt := 83) hx hb d_Ch_isSourceWrong_79 (by decide) ?_
        cases h
        exact ck_zret hx hb hr rfl hlk hK hP hD hS d_Ch_isSourceWrong_83
    rw [if_neg c_12] at h
    cases h
  · rw [if_pos c_1] at h
    refine lv_iload_n hx hb d_Ch_isSourceWrong_4 rfl (lv_at hl 0 rfl) ?_
    refine lv_if_eq (tgt := 12) hx hb d_Ch_isSourceWrong_5 (by decide) (fun c_14 => ?_) (fun c_14 => ?_)
    · rw [if_pos c_14] at h
      refine lv_iconst (v := 0) hx hb d_Ch_isSourceWrong_12 (by decide) ?_
      cases h
      exact ck_zret hx hb hr rfl hlk hK hP hD hS d_Ch_isSourceWrong_13
    · rw [if_neg c_14] at h
      refine lv_iconst (v := 1) hx hb d_Ch_isSourceWrong_8 (by decide) ?_
      refine lv_goto (tgt := 13) hx hb d_Ch_isSourceWrong_9 (by decide) ?_
      cases h
      exact ck_zret hx hb hr rfl hlk hK hP hD hS d_Ch_isSourceWrong_13
def pf_Ch_areSourcesWrong (p1 : Int32) (p2 : Int32) (p3 : Int32) : Option (Int32) :=
  Option.bind (pf_Ki_sources p1) (fun r_2 => 
  if r_2 < (1 : Int32) then
    Option.bind (pf_Ch_isSourceWrong (p2 &&& (65535 : Int32)) (0 : Int32)) (fun r_5 => 
    if r_5 = 0 then
      if r_2 < (2 : Int32) then
        Option.bind (pf_Ch_isSourceWrong ((p2.toUInt32 >>> ((16 : Int32).toUInt32 &&& Int32.toUInt32 31)).toInt32) (0 : Int32)) (fun r_9 => 
        if r_9 = 0 then
          if r_2 < (3 : Int32) then
            Option.bind (pf_Ch_isSourceWrong (p3 &&& (65535 : Int32)) (0 : Int32)) (fun r_13 => 
            if r_13 = 0 then
              if ((p3.toUInt32 >>> ((16 : Int32).toUInt32 &&& Int32.toUInt32 31)).toInt32) = 0 then
                some (0 : Int32)
              else
                some (1 : Int32)
            else
              some (1 : Int32))
          else
            Option.bind (pf_Ch_isSourceWrong (p3 &&& (65535 : Int32)) (1 : Int32)) (fun r_17 => 
            if r_17 = 0 then
              if ((p3.toUInt32 >>> ((16 : Int32).toUInt32 &&& Int32.toUInt32 31)).toInt32) = 0 then
                some (0 : Int32)
              else
                some (1 : Int32)
            else
              some (1 : Int32))
        else
          some (1 : Int32))
      else
        Option.bind (pf_Ch_isSourceWrong ((p2.toUInt32 >>> ((16 : Int32).toUInt32 &&& Int32.toUInt32 31)).toInt32) (1 : Int32)) (fun r_21 => 
        if r_21 = 0 then
          if r_2 < (3 : Int32) then
            Option.bind (pf_Ch_isSourceWrong (p3 &&& (65535 : Int32)) (0 : Int32)) (fun r_25 => 
            if r_25 = 0 then
              if ((p3.toUInt32 >>> ((16 : Int32).toUInt32 &&& Int32.toUInt32 31)).toInt32) = 0 then
                some (0 : Int32)
              else
                some (1 : Int32)
            else
              some (1 : Int32))
          else
            Option.bind (pf_Ch_isSourceWrong (p3 &&& (65535 : Int32)) (1 : Int32)) (fun r_29 => 
            if r_29 = 0 then
              if ((p3.toUInt32 >>> ((16 : Int32).toUInt32 &&& Int32.toUInt32 31)).toInt32) = 0 then
                some (0 : Int32)
              else
                some (1 : Int32)
            else
              some (1 : Int32))
        else
          some (1 : Int32))
    else
      some (1 : Int32))
  else
    Option.bind (pf_Ch_isSourceWrong (p2 &&& (65535 : Int32)) (1 : Int32)) (fun r_33 => 
    if r_33 = 0 then
      if r_2 < (2 : Int32) then
        Option.bind (pf_Ch_isSourceWrong ((p2.toUInt32 >>> ((16 : Int32).toUInt32 &&& Int32.toUInt32 31)).toInt32) (0 : Int32)) (fun r_37 => 
        if r_37 = 0 then
          if r_2 < (3 : Int32) then
            Option.bind (pf_Ch_isSourceWrong (p3 &&& (65535 : Int32)) (0 : Int32)) (fun r_41 => 
            if r_41 = 0 then
              if ((p3.toUInt32 >>> ((16 : Int32).toUInt32 &&& Int32.toUInt32 31)).toInt32) = 0 then
                some (0 : Int32)
              else
                some (1 : Int32)
            else
              some (1 : Int32))
          else
            Option.bind (pf_Ch_isSourceWrong (p3 &&& (65535 : Int32)) (1 : Int32)) (fun r_45 => 
            if r_45 = 0 then
              if ((p3.toUInt32 >>> ((16 : Int32).toUInt32 &&& Int32.toUInt32 31)).toInt32) = 0 then
                some (0 : Int32)
              else
                some (1 : Int32)
            else
              some (1 : Int32))
        else
          some (1 : Int32))
      else
        Option.bind (pf_Ch_isSourceWrong ((p2.toUInt32 >>> ((16 : Int32).toUInt32 &&& Int32.toUInt32 31)).toInt32) (1 : Int32)) (fun r_49 => 
        if r_49 = 0 then
          if r_2 < (3 : Int32) then
            Option.bind (pf_Ch_isSourceWrong (p3 &&& (65535 : Int32)) (0 : Int32)) (fun r_53 => 
            if r_53 = 0 then
              if ((p3.toUInt32 >>> ((16 : Int32).toUInt32 &&& Int32.toUInt32 31)).toInt32) = 0 then
                some (0 : Int32)
              else
                some (1 : Int32)
            else
              some (1 : Int32))
          else
            Option.bind (pf_Ch_isSourceWrong (p3 &&& (65535 : Int32)) (1 : Int32)) (fun r_57 => 
            if r_57 = 0 then
              if ((p3.toUInt32 >>> ((16 : Int32).toUInt32 &&& Int32.toUInt32 31)).toInt32) = 0 then
                some (0 : Int32)
              else
                some (1 : Int32)
            else
              some (1 : Int32))
        else
          some (1 : Int32))
    else
      some (1 : Int32)))
set_option maxHeartbeats 4000000 in
set_option maxRecDepth 100000 in
theorem k_Ch_areSourcesWrong (l : Launch) (dC : Nat → ClassId) (dI : Nat → Nat → Nat) (cI cJ : ClassId) (p1 : Int32) (p2 : Int32) (p3 : Int32) (r : Int32) (h : pf_Ch_areSourcesWrong p1 p2 p3 = some r) : ck_i l y_Ch_areSourcesWrong wm_Ch_areSourcesWrong ({ frames := 2, cells := 0, slots := 0, locals := 42 } : Room) [.int p1, .int p2, .int p3] (dC, dI) [(cI, .int), (cJ, .long)] [] r [] := by
  refine ck_ofi (cc := c_Ch_areSourcesWrong) (maxL := 4) (ret := (some .boolean)) (by decide +kernel) rfl ?_
  intro p e s m below meth c A C0 hK hP hD hS hE
  obtain ⟨hx, hb, hr, hml, hown, hts, hlk, hA, hin⟩ := C0
  unfold pf_Ch_areSourcesWrong at h
  have hl := lv_entry ([.int p1, .int p2, .int p3]) (n := 4) (Nat.le_of_ble_eq_true rfl)
  rw [lg_entry_eq]
  generalize (lg_sl ([.int p1, .int p2, .int p3]) ++ List.replicate (4 - (lg_sl ([.int p1, .int p2, .int p3])).length) Slot.unset).toArray = ls at hl ⊢
  have hl : lv_has ls 4 [(0, .int p1), (1, .int p2), (2, .int p3)] := hl
  refine lv_iload_n hx hb d_Ch_areSourcesWrong_0 rfl (lv_at hl 0 rfl) ?_
  obtain ⟨r_2, h_1, h⟩ := ch_bind h
  try dsimp only at h
  refine ck_goi (wc := []) (wr := []) (w1 := []) (va_runS (As := [.int p1]) (rest := []) ⟨hx, hb, hml, hown, hts⟩ (k_Ki_sources l dC dI cI cJ p1 r_2 h_1 _) (va_cwS 1 hts (gw_S tw_371 tw_372 tw_14 tw_373) rfl rfl rfl (by decide +kernel) ⟨Nat.le_of_ble_eq_true rfl, Nat.le_of_ble_eq_true rfl⟩) (ck_preS (wc := []) hK hP hD hS hA hE [] (by decide) rfl) rfl rfl hl.1 rfl (lv_room (Nat.le_of_ble_eq_true rfl)) d_Ch_areSourcesWrong_1 ⟨Nat.le_of_ble_eq_true rfl, Nat.le_of_ble_eq_true rfl⟩) hP hD hS hA [] [] rfl rfl (by decide) (by decide) (fun H locs hP hD hS => ?_)
  have hP : va_P (dC, dI) vwCl [] H := hP.sub [] rfl
  have hD : va_D A [] := hD.sub [] (by decide) rfl
  refine lv_istore_n (lv' := [(3, .int r_2), (0, .int p1), (1, .int p2), (2, .int p3)]) hx hb d_Ch_areSourcesWrong_4 rfl hl (by decide) rfl (fun ls hl => ?_)
  refine lv_iload_n hx hb d_Ch_areSourcesWrong_5 rfl (lv_at hl 2 rfl) ?_
  refine lv_ldc (v := 65535) hx hb hown (hts (.constant R_Ch 129 (65535)) (by decide +kernel)) d_Ch_areSourcesWrong_6 ?_
  refine lv_iand hx hb d_Ch_areSourcesWrong_8 ?_
  refine lv_iload_n hx hb d_Ch_areSourcesWrong_9 rfl (lv_at hl 0 rfl) ?_
  refine lv_iconst (v := 1) hx hb d_Ch_areSourcesWrong_10 (by decide) ?_
  refine lv_icmp_lt (tgt := 18) hx hb d_Ch_areSourcesWrong_11 (by decide) (fun c_3 => ?_) (fun c_3 => ?_)
  · rw [if_pos c_3] at h
    refine lv_iconst (v := 0) hx hb d_Ch_areSourcesWrong_18 (by decide) ?_
    obtain ⟨r_5, h_4, h⟩ := ch_bind h
    try dsimp only at h
    refine ck_goi (wc := []) (wr := []) (w1 := []) (va_runS (As := [.int (p2 &&& (65535 : Int32)), .int (0 : Int32)]) (rest := []) ⟨hx, hb, hml, hown, hts⟩ (k_Ch_isSourceWrong l dC dI cI cJ (p2 &&& (65535 : Int32)) (0 : Int32) r_5 h_4 _) (va_cwS 2 hts (gw_S tw_377 tw_378 tw_5 tw_379) rfl rfl rfl (by decide +kernel) ⟨Nat.le_of_ble_eq_true rfl, Nat.le_of_ble_eq_true rfl⟩) (ck_preS (wc := []) hK hP hD hS hA hE [] (by decide) rfl) rfl rfl hl.1 rfl (lv_room (Nat.le_of_ble_eq_true rfl)) d_Ch_areSourcesWrong_19 ⟨Nat.le_of_ble_eq_true rfl, Nat.le_of_ble_eq_true rfl⟩) hP hD hS hA [] [] rfl rfl (by decide) (by decide) (fun H locs hP hD hS => ?_)
    have hP : va_P (dC, dI) vwCl [] H := hP.sub [] rfl
    have hD : va_D A [] := hD.sub [] (by decide) rfl
    refine lv_if_ne (tgt := 72) hx hb d_Ch_areSourcesWrong_22 (by decide) (fun c_6 => ?_) (fun c_6 => ?_)
    · rw [if_neg c_6] at h
      refine lv_iconst (v := 1) hx hb d_Ch_areSourcesWrong_72 (by decide) ?_
      refine lv_goto (tgt := 77) hx hb d_Ch_areSourcesWrong_73 (by decide) ?_
      cases h
      exact ck_zret hx hb hr rfl hlk hK hP hD hS d_Ch_areSourcesWrong_77
    · rw [if_pos c_6] at h
      refine lv_iload_n hx hb d_Ch_areSourcesWrong_25 rfl (lv_at hl 2 rfl) ?_
      refine lv_bipush (v := 16) hx hb d_Ch_areSourcesWrong_26 (by decide) ?_
      refine lv_iushr hx hb d_Ch_areSourcesWrong_28 rfl ?_
      refine lv_iload_n hx hb d_Ch_areSourcesWrong_29 rfl (lv_at hl 0 rfl) ?_
      refine lv_iconst (v := 2) hx hb d_Ch_areSourcesWrong_30 (by decide) ?_
      refine lv_icmp_lt (tgt := 38) hx hb d_Ch_areSourcesWrong_31 (by decide) (fun c_7 => ?_) (fun c_7 => ?_)
      · rw [if_pos c_7] at h
        refine lv_iconst (v := 0) hx hb d_Ch_areSourcesWrong_38 (by decide) ?_
        obtain ⟨r_9, h_8, h⟩ := ch_bind h
        try dsimp only at h
        refine ck_goi (wc := []) (wr := []) (w1 := []) (va_runS (As := [.int ((p2.toUInt32 >>> ((16 : Int32).toUInt32 &&& Int32.toUInt32 31)).toInt32), .int (0 : Int32)]) (rest := []) ⟨hx, hb, hml, hown, hts⟩ (k_Ch_isSourceWrong l dC dI cI cJ ((p2.toUInt32 >>> ((16 : Int32).toUInt32 &&& Int32.toUInt32 31)).toInt32) (0 : Int32) r_9 h_8 _) (va_cwS 2 hts (gw_S tw_377 tw_378 tw_5 tw_379) rfl rfl rfl (by decide +kernel) ⟨Nat.le_of_ble_eq_true rfl, Nat.le_of_ble_eq_true rfl⟩) (ck_preS (wc := []) hK hP hD hS hA hE [] (by decide) rfl) rfl rfl hl.1 rfl (lv_room (Nat.le_of_ble_eq_true rfl)) d_Ch_areSourcesWrong_39 ⟨Nat.le_of_ble_eq_true rfl, Nat.le_of_ble_eq_true rfl⟩) hP hD hS hA [] [] rfl rfl (by decide) (by decide) (fun H locs hP hD hS => ?_)
        have hP : va_P (dC, dI) vwCl [] H := hP.sub [] rfl
        have hD : va_D A [] := hD.sub [] (by decide) rfl
        refine lv_if_ne (tgt := 72) hx hb d_Ch_areSourcesWrong_42 (by decide) (fun c_10 => ?_) (fun c_10 => ?_)
        · rw [if_neg c_10] at h
          refine lv_iconst (v := 1) hx hb d_Ch_areSourcesWrong_72 (by decide) ?_
          refine lv_goto (tgt := 77) hx hb d_Ch_areSourcesWrong_73 (by decide) ?_
          cases h
          exact ck_zret hx hb hr rfl hlk hK hP hD hS d_Ch_areSourcesWrong_77
        · rw [if_pos c_10] at h
          refine lv_iload_n hx hb d_Ch_areSourcesWrong_45 rfl (lv_at hl 3 rfl) ?_
          refine lv_ldc (v := 65535) hx hb hown (hts (.constant R_Ch 129 (65535)) (by decide +kernel)) d_Ch_areSourcesWrong_46 ?_
          refine lv_iand hx hb d_Ch_areSourcesWrong_48 ?_
          refine lv_iload_n hx hb d_Ch_areSourcesWrong_49 rfl (lv_at hl 0 rfl) ?_
          refine lv_iconst (v := 3) hx hb d_Ch_areSourcesWrong_50 (by decide) ?_
          refine lv_icmp_lt (tgt := 58) hx hb d_Ch_areSourcesWrong_51 (by decide) (fun c_11 => ?_) (fun c_11 => ?_)
          · rw [if_pos c_11] at h
            refine lv_iconst (v := 0) hx hb d_Ch_areSourcesWrong_58 (by decide) ?_
            obtain ⟨r_13, h_12, h⟩ := ch_bind h
            try dsimp only at h
            refine ck_goi (wc := []) (wr := []) (w1 := []) (va_runS (As := [.int (p3 &&& (65535 : Int32)), .int (0 : Int32)]) (rest := []) ⟨hx, hb, hml, hown, hts⟩ (k_Ch_isSourceWrong l dC dI cI cJ (p3 &&& (65535 : Int32)) (0 : Int32) r_13 h_12 _) (va_cwS 2 hts (gw_S tw_377 tw_378 tw_5 tw_379) rfl rfl rfl (by decide +kernel) ⟨Nat.le_of_ble_eq_true rfl, Nat.le_of_ble_eq_true rfl⟩) (ck_preS (wc := []) hK hP hD hS hA hE [] (by decide) rfl) rfl rfl hl.1 rfl (lv_room (Nat.le_of_ble_eq_true rfl)) d_Ch_areSourcesWrong_59 ⟨Nat.le_of_ble_eq_true rfl, Nat.le_of_ble_eq_true rfl⟩) hP hD hS hA [] [] rfl rfl (by decide) (by decide) (fun H locs hP hD hS => ?_)
            have hP : va_P (dC, dI) vwCl [] H := hP.sub [] rfl
            have hD : va_D A [] := hD.sub [] (by decide) rfl
            refine lv_if_ne (tgt := 72) hx hb d_Ch_areSourcesWrong_62 (by decide) (fun c_14 => ?_) (fun c_14 => ?_)
            · rw [if_neg c_14] at h
              refine lv_iconst (v := 1) hx hb d_Ch_areSourcesWrong_72 (by decide) ?_
              refine lv_goto (tgt := 77) hx hb d_Ch_areSourcesWrong_73 (by decide) ?_
              cases h
              exact ck_zret hx hb hr rfl hlk hK hP hD hS d_Ch_areSourcesWrong_77
            · rw [if_pos c_14] at h
              refine lv_iload_n hx hb d_Ch_areSourcesWrong_65 rfl (lv_at hl 3 rfl) ?_
              refine lv_bipush (v := 16) hx hb d_Ch_areSourcesWrong_66 (by decide) ?_
              refine lv_iushr hx hb d_Ch_areSourcesWrong_68 rfl ?_
              refine lv_if_eq (tgt := 76) hx hb d_Ch_areSourcesWrong_69 (by decide) (fun c_15 => ?_) (fun c_15 => ?_)
              · rw [if_pos c_15] at h
                refine lv_iconst (v := 0) hx hb d_Ch_areSourcesWrong_76 (by decide) ?_
                cases h
                exact ck_zret hx hb hr rfl hlk hK hP hD hS d_Ch_areSourcesWrong_77
              · rw [if_neg c_15] at h
                refine lv_iconst (v := 1) hx hb d_Ch_areSourcesWrong_72 (by decide) ?_
                refine lv_goto (tgt := 77) hx hb d_Ch_areSourcesWrong_73 (by decide) ?_
                cases h
                exact ck_zret hx hb hr rfl hlk hK hP hD hS d_Ch_areSourcesWrong_77
          · rw [if_neg c_11] at h
            refine lv_iconst (v := 1) hx hb d_Ch_areSourcesWrong_54 (by decide) ?_
            refine lv_goto (tgt := 59) hx hb d_Ch_areSourcesWrong_55 (by decide) ?_
            obtain ⟨r_17, h_16, h⟩ := ch_bind h
            try dsimp only at h
            refine ck_goi (wc := []) (wr := []) (w1 := []) (va_runS (As := [.int (p3 &&& (65535 : Int32)), .int (1 : Int32)]) (rest := []) ⟨hx, hb, hml, hown, hts⟩ (k_Ch_isSourceWrong l dC dI cI cJ (p3 &&& (65535 : Int32)) (1 : Int32) r_17 h_16 _) (va_cwS 2 hts (gw_S tw_377 tw_378 tw_5 tw_379) rfl rfl rfl (by decide +kernel) ⟨Nat.le_of_ble_eq_true rfl, Nat.le_of_ble_eq_true rfl⟩) (ck_preS (wc := []) hK hP hD hS hA hE [] (by decide) rfl) rfl rfl hl.1 rfl (lv_room (Nat.le_of_ble_eq_true rfl)) d_Ch_areSourcesWrong_59 ⟨Nat.le_of_ble_eq_true rfl, Nat.le_of_ble_eq_true rfl⟩) hP hD hS hA [] [] rfl rfl (by decide) (by decide) (fun H locs hP hD hS => ?_)
            have hP : va_P (dC, dI) vwCl [] H := hP.sub [] rfl
            have hD : va_D A [] := hD.sub [] (by decide) rfl
            refine lv_if_ne (tgt := 72) hx hb d_Ch_areSourcesWrong_62 (by decide) (fun c_18 => ?_) (fun c_18 => ?_)
            · rw [if_neg c_18] at h
              refine lv_iconst (v := 1) hx hb d_Ch_areSourcesWrong_72 (by decide) ?_
              refine lv_goto (tgt := 77) hx hb d_Ch_areSourcesWrong_73 (by decide) ?_
              cases h
              exact ck_zret hx hb hr rfl hlk hK hP hD hS d_Ch_areSourcesWrong_77
            · rw [if_pos c_18] at h
              refine lv_iload_n hx hb d_Ch_areSourcesWrong_65 rfl (lv_at hl 3 rfl) ?_
              refine lv_bipush (v := 16) hx hb d_Ch_areSourcesWrong_66 (by decide) ?_
              refine lv_iushr hx hb d_Ch_areSourcesWrong_68 rfl ?_
              refine lv_if_eq (tgt := 76) hx hb d_Ch_areSourcesWrong_69 (by decide) (fun c_19 => ?_) (fun c_19 => ?_)
              · rw [if_pos c_19] at h
                refine lv_iconst (v := 0) hx hb d_Ch_areSourcesWrong_76 (by decide) ?_
                cases h
                exact ck_zret hx hb hr rfl hlk hK hP hD hS d_Ch_areSourcesWrong_77
              · rw [if_neg c_19] at h
                refine lv_iconst (v := 1) hx hb d_Ch_areSourcesWrong_72 (by decide) ?_
                refine lv_goto (tgt := 77) hx hb d_Ch_areSourcesWrong_73 (by decide) ?_
                cases h
                exact ck_zret hx hb hr rfl hlk hK hP hD hS d_Ch_areSourcesWrong_77
      · rw [if_neg c_7] at h
        refine lv_iconst (v := 1) hx hb d_Ch_areSourcesWrong_34 (by decide) ?_
        refine lv_goto (tgt := 39) hx hb d_Ch_areSourcesWrong_35 (by decide) ?_
        obtain ⟨r_21, h_20, h⟩ := ch_bind h
        try dsimp only at h
        refine ck_goi (wc := []) (wr := []) (w1 := []) (va_runS (As := [.int ((p2.toUInt32 >>> ((16 : Int32).toUInt32 &&& Int32.toUInt32 31)).toInt32), .int (1 : Int32)]) (rest := []) ⟨hx, hb, hml, hown, hts⟩ (k_Ch_isSourceWrong l dC dI cI cJ ((p2.toUInt32 >>> ((16 : Int32).toUInt32 &&& Int32.toUInt32 31)).toInt32) (1 : Int32) r_21 h_20 _) (va_cwS 2 hts (gw_S tw_377 tw_378 tw_5 tw_379) rfl rfl rfl (by decide +kernel) ⟨Nat.le_of_ble_eq_true rfl, Nat.le_of_ble_eq_true rfl⟩) (ck_preS (wc := []) hK hP hD hS hA hE [] (by decide) rfl) rfl rfl hl.1 rfl (lv_room (Nat.le_of_ble_eq_true rfl)) d_Ch_areSourcesWrong_39 ⟨Nat.le_of_ble_eq_true rfl, Nat.le_of_ble_eq_true rfl⟩) hP hD hS hA [] [] rfl rfl (by decide) (by decide) (fun H locs hP hD hS => ?_)
        have hP : va_P (dC, dI) vwCl [] H := hP.sub [] rfl
        have hD : va_D A [] := hD.sub [] (by decide) rfl
        refine lv_if_ne (tgt := 72) hx hb d_Ch_areSourcesWrong_42 (by decide) (fun c_22 => ?_) (fun c_22 => ?_)
        · rw [if_neg c_22] at h
          refine lv_iconst (v := 1) hx hb d_Ch_areSourcesWrong_72 (by decide) ?_
          refine lv_goto (tgt := 77) hx hb d_Ch_areSourcesWrong_73 (by decide) ?_
          cases h
          exact ck_zret hx hb hr rfl hlk hK hP hD hS d_Ch_areSourcesWrong_77
        · rw [if_pos c_22] at h
          refine lv_iload_n hx hb d_Ch_areSourcesWrong_45 rfl (lv_at hl 3 rfl) ?_
          refine lv_ldc (v := 65535) hx hb hown (hts (.constant R_Ch 129 (65535)) (by decide +kernel)) d_Ch_areSourcesWrong_46 ?_
          refine lv_iand hx hb d_Ch_areSourcesWrong_48 ?_
          refine lv_iload_n hx hb d_Ch_areSourcesWrong_49 rfl (lv_at hl 0 rfl) ?_
          refine lv_iconst (v := 3) hx hb d_Ch_areSourcesWrong_50 (by decide) ?_
          refine lv_icmp_lt (tgt := 58) hx hb d_Ch_areSourcesWrong_51 (by decide) (fun c_23 => ?_) (fun c_23 => ?_)
          · rw [if_pos c_23] at h
            refine lv_iconst (v := 0) hx hb d_Ch_areSourcesWrong_58 (by decide) ?_
            obtain ⟨r_25, h_24, h⟩ := ch_bind h
            try dsimp only at h
            refine ck_goi (wc := []) (wr := []) (w1 := []) (va_runS (As := [.int (p3 &&& (65535 : Int32)), .int (0 : Int32)]) (rest := []) ⟨hx, hb, hml, hown, hts⟩ (k_Ch_isSourceWrong l dC dI cI cJ (p3 &&& (65535 : Int32)) (0 : Int32) r_25 h_24 _) (va_cwS 2 hts (gw_S tw_377 tw_378 tw_5 tw_379) rfl rfl rfl (by decide +kernel) ⟨Nat.le_of_ble_eq_true rfl, Nat.le_of_ble_eq_true rfl⟩) (ck_preS (wc := []) hK hP hD hS hA hE [] (by decide) rfl) rfl rfl hl.1 rfl (lv_room (Nat.le_of_ble_eq_true rfl)) d_Ch_areSourcesWrong_59 ⟨Nat.le_of_ble_eq_true rfl, Nat.le_of_ble_eq_true rfl⟩) hP hD hS hA [] [] rfl rfl (by decide) (by decide) (fun H locs hP hD hS => ?_)
            have hP : va_P (dC, dI) vwCl [] H := hP.sub [] rfl
            have hD : va_D A [] := hD.sub [] (by decide) rfl
            refine lv_if_ne (tgt := 72) hx hb d_Ch_areSourcesWrong_62 (by decide) (fun c_26 => ?_) (fun c_26 => ?_)
            · rw [if_neg c_26] at h
              refine lv_iconst (v := 1) hx hb d_Ch_areSourcesWrong_72 (by decide) ?_
              refine lv_goto (tgt := 77) hx hb d_Ch_areSourcesWrong_73 (by decide) ?_
              cases h
              exact ck_zret hx hb hr rfl hlk hK hP hD hS d_Ch_areSourcesWrong_77
            · rw [if_pos c_26] at h
              refine lv_iload_n hx hb d_Ch_areSourcesWrong_65 rfl (lv_at hl 3 rfl) ?_
              refine lv_bipush (v := 16) hx hb d_Ch_areSourcesWrong_66 (by decide) ?_
              refine lv_iushr hx hb d_Ch_areSourcesWrong_68 rfl ?_
              refine lv_if_eq (tgt := 76) hx hb d_Ch_areSourcesWrong_69 (by decide) (fun c_27 => ?_) (fun c_27 => ?_)
              · rw [if_pos c_27] at h
                refine lv_iconst (v := 0) hx hb d_Ch_areSourcesWrong_76 (by decide) ?_
                cases h
                exact ck_zret hx hb hr rfl hlk hK hP hD hS d_Ch_areSourcesWrong_77
              · rw [if_neg c_27] at h
                refine lv_iconst (v := 1) hx hb d_Ch_areSourcesWrong_72 (by decide) ?_
                refine lv_goto (tgt := 77) hx hb d_Ch_areSourcesWrong_73 (by decide) ?_
                cases h
                exact ck_zret hx hb hr rfl hlk hK hP hD hS d_Ch_areSourcesWrong_77
          · rw [if_neg c_23] at h
            refine lv_iconst (v := 1) hx hb d_Ch_areSourcesWrong_54 (by decide) ?_
            refine lv_goto (tgt := 59) hx hb d_Ch_areSourcesWrong_55 (by decide) ?_
            obtain ⟨r_29, h_28, h⟩ := ch_bind h
            try dsimp only at h
            refine ck_goi (wc := []) (wr := []) (w1 := []) (va_runS (As := [.int (p3 &&& (65535 : Int32)), .int (1 : Int32)]) (rest := []) ⟨hx, hb, hml, hown, hts⟩ (k_Ch_isSourceWrong l dC dI cI cJ (p3 &&& (65535 : Int32)) (1 : Int32) r_29 h_28 _) (va_cwS 2 hts (gw_S tw_377 tw_378 tw_5 tw_379) rfl rfl rfl (by decide +kernel) ⟨Nat.le_of_ble_eq_true rfl, Nat.le_of_ble_eq_true rfl⟩) (ck_preS (wc := []) hK hP hD hS hA hE [] (by decide) rfl) rfl rfl hl.1 rfl (lv_room (Nat.le_of_ble_eq_true rfl)) d_Ch_areSourcesWrong_59 ⟨Nat.le_of_ble_eq_true rfl, Nat.le_of_ble_eq_true rfl⟩) hP hD hS hA [] [] rfl rfl (by decide) (by decide) (fun H locs hP hD hS => ?_)
            have hP : va_P (dC, dI) vwCl [] H := hP.sub [] rfl
            have hD : va_D A [] := hD.sub [] (by decide) rfl
            refine lv_if_ne (tgt := 72) hx hb d_Ch_areSourcesWrong_62 (by decide) (fun c_30 => ?_) (fun c_30 => ?_)
            · rw [if_neg c_30] at h
              refine lv_iconst (v := 1) hx hb d_Ch_areSourcesWrong_72 (by decide) ?_
              refine lv_goto (tgt := 77) hx hb d_Ch_areSourcesWrong_73 (by decide) ?_
              cases h
              exact ck_zret hx hb hr rfl hlk hK hP hD hS d_Ch_areSourcesWrong_77
            · rw [if_pos c_30] at h
              refine lv_iload_n hx hb d_Ch_areSourcesWrong_65 rfl (lv_at hl 3 rfl) ?_
              refine lv_bipush (v := 16) hx hb d_Ch_areSourcesWrong_66 (by decide) ?_
              refine lv_iushr hx hb d_Ch_areSourcesWrong_68 rfl ?_
              refine lv_if_eq (tgt := 76) hx hb d_Ch_areSourcesWrong_69 (by decide) (fun c_31 => ?_) (fun c_31 => ?_)
              · rw [if_pos c_31] at h
                refine lv_iconst (v := 0) hx hb d_Ch_areSourcesWrong_76 (by decide) ?_
                cases h
                exact ck_zret hx hb hr rfl hlk hK hP hD hS d_Ch_areSourcesWrong_77
              · rw [if_neg c_31] at h
                refine lv_iconst (v := 1) hx hb d_Ch_areSourcesWrong_72 (by decide) ?_
                refine lv_goto (tgt := 77) hx hb d_Ch_areSourcesWrong_73 (by decide) ?_
                cases h
                exact ck_zret hx hb hr rfl hlk hK hP hD hS d_Ch_areSourcesWrong_77
  · rw [if_neg c_3] at h
    refine lv_iconst (v := 1) hx hb d_Ch_areSourcesWrong_14 (by decide) ?_
    refine lv_goto (tgt := 19) hx hb d_Ch_areSourcesWrong_15 (by decide) ?_
    obtain ⟨r_33, h_32, h⟩ := ch_bind h
    try dsimp only at h
    refine ck_goi (wc := []) (wr := []) (w1 := []) (va_runS (As := [.int (p2 &&& (65535 : Int32)), .int (1 : Int32)]) (rest := []) ⟨hx, hb, hml, hown, hts⟩ (k_Ch_isSourceWrong l dC dI cI cJ (p2 &&& (65535 : Int32)) (1 : Int32) r_33 h_32 _) (va_cwS 2 hts (gw_S tw_377 tw_378 tw_5 tw_379) rfl rfl rfl (by decide +kernel) ⟨Nat.le_of_ble_eq_true rfl, Nat.le_of_ble_eq_true rfl⟩) (ck_preS (wc := []) hK hP hD hS hA hE [] (by decide) rfl) rfl rfl hl.1 rfl (lv_room (Nat.le_of_ble_eq_true rfl)) d_Ch_areSourcesWrong_19 ⟨Nat.le_of_ble_eq_true rfl, Nat.le_of_ble_eq_true rfl⟩) hP hD hS hA [] [] rfl rfl (by decide) (by decide) (fun H locs hP hD hS => ?_)
    have hP : va_P (dC, dI) vwCl [] H := hP.sub [] rfl
    have hD : va_D A [] := hD.sub [] (by decide) rfl
    refine lv_if_ne (tgt := 72) hx hb d_Ch_areSourcesWrong_22 (by decide) (fun c_34 => ?_) (fun c_34 => ?_)
    · rw [if_neg c_34] at h
      refine lv_iconst (v := 1) hx hb d_Ch_areSourcesWrong_72 (by decide) ?_
      refine lv_goto (tgt := 77) hx hb d_Ch_areSourcesWrong_73 (by decide) ?_
      cases h
      exact ck_zret hx hb hr rfl hlk hK hP hD hS d_Ch_areSourcesWrong_77
    · rw [if_pos c_34] at h
      refine lv_iload_n hx hb d_Ch_areSourcesWrong_25 rfl (lv_at hl 2 rfl) ?_
      refine lv_bipush (v := 16) hx hb d_Ch_areSourcesWrong_26 (by decide) ?_
      refine lv_iushr hx hb d_Ch_areSourcesWrong_28 rfl ?_
      refine lv_iload_n hx hb d_Ch_areSourcesWrong_29 rfl (lv_at hl 0 rfl) ?_
      refine lv_iconst (v := 2) hx hb d_Ch_areSourcesWrong_30 (by decide) ?_
      refine lv_icmp_lt (tgt := 38) hx hb d_Ch_areSourcesWrong_31 (by decide) (fun c_35 => ?_) (fun c_35 => ?_)
      · rw [if_pos c_35] at h
        refine lv_iconst (v := 0) hx hb d_Ch_areSourcesWrong_38 (by decide) ?_
        obtain ⟨r_37, h_36, h⟩ := ch_bind h
        try dsimp only at h
        refine ck_goi (wc := []) (wr := []) (w1 := []) (va_runS (As := [.int ((p2.toUInt32 >>> ((16 : Int32).toUInt32 &&& Int32.toUInt32 31)).toInt32), .int (0 : Int32)]) (rest := []) ⟨hx, hb, hml, hown, hts⟩ (k_Ch_isSourceWrong l dC dI cI cJ ((p2.toUInt32 >>> ((16 : Int32).toUInt32 &&& Int32.toUInt32 31)).toInt32) (0 : Int32) r_37 h_36 _) (va_cwS 2 hts (gw_S tw_377 tw_378 tw_5 tw_379) rfl rfl rfl (by decide +kernel) ⟨Nat.le_of_ble_eq_true rfl, Nat.le_of_ble_eq_true rfl⟩) (ck_preS (wc := []) hK hP hD hS hA hE [] (by decide) rfl) rfl rfl hl.1 rfl (lv_room (Nat.le_of_ble_eq_true rfl)) d_Ch_areSourcesWrong_39 ⟨Nat.le_of_ble_eq_true rfl, Nat.le_of_ble_eq_true rfl⟩) hP hD hS hA [] [] rfl rfl (by decide) (by decide) (fun H locs hP hD hS => ?_)
        have hP : va_P (dC, dI) vwCl [] H := hP.sub [] rfl
        have hD : va_D A [] := hD.sub [] (by decide) rfl
        refine lv_if_ne (tgt := 72) hx hb d_Ch_areSourcesWrong_42 (by decide) (fun c_38 => ?_) (fun c_38 => ?_)
        · rw [if_neg c_38] at h
          refine lv_iconst (v := 1) hx hb d_Ch_areSourcesWrong_72 (by decide) ?_
          refine lv_goto (tgt := 77) hx hb d_Ch_areSourcesWrong_73 (by decide) ?_
          cases h
          exact ck_zret hx hb hr rfl hlk hK hP hD hS d_Ch_areSourcesWrong_77
        · rw [if_pos c_38] at h
          refine lv_iload_n hx hb d_Ch_areSourcesWrong_45 rfl (lv_at hl 3 rfl) ?_
          refine lv_ldc (v := 65535) hx hb hown (hts (.constant R_Ch 129 (65535)) (by decide +kernel)) d_Ch_areSourcesWrong_46 ?_
          refine lv_iand hx hb d_Ch_areSourcesWrong_48 ?_
          refine lv_iload_n hx hb d_Ch_areSourcesWrong_49 rfl (lv_at hl 0 rfl) ?_
          refine lv_iconst (v := 3) hx hb d_Ch_areSourcesWrong_50 (by decide) ?_
          refine lv_icmp_lt (tgt := 58) hx hb d_Ch_areSourcesWrong_51 (by decide) (fun c_39 => ?_) (fun c_39 => ?_)
          · rw [if_pos c_39] at h
            refine lv_iconst (v := 0) hx hb d_Ch_areSourcesWrong_58 (by decide) ?_
            obtain ⟨r_41, h_40, h⟩ := ch_bind h
            try dsimp only at h
            refine ck_goi (wc := []) (wr := []) (w1 := []) (va_runS (As := [.int (p3 &&& (65535 : Int32)), .int (0 : Int32)]) (rest := []) ⟨hx, hb, hml, hown, hts⟩ (k_Ch_isSourceWrong l dC dI cI cJ (p3 &&& (65535 : Int32)) (0 : Int32) r_41 h_40 _) (va_cwS 2 hts (gw_S tw_377 tw_378 tw_5 tw_379) rfl rfl rfl (by decide +kernel) ⟨Nat.le_of_ble_eq_true rfl, Nat.le_of_ble_eq_true rfl⟩) (ck_preS (wc := []) hK hP hD hS hA hE [] (by decide) rfl) rfl rfl hl.1 rfl (lv_room (Nat.le_of_ble_eq_true rfl)) d_Ch_areSourcesWrong_59 ⟨Nat.le_of_ble_eq_true rfl, Nat.le_of_ble_eq_true rfl⟩) hP hD hS hA [] [] rfl rfl (by decide) (by decide) (fun H locs hP hD hS => ?_)
            have hP : va_P (dC, dI) vwCl [] H := hP.sub [] rfl
            have hD : va_D A [] := hD.sub [] (by decide) rfl
            refine lv_if_ne (tgt := 72) hx hb d_Ch_areSourcesWrong_62 (by decide) (fun c_42 => ?_) (fun c_42 => ?_)
            · rw [if_neg c_42] at h
              refine lv_iconst (v := 1) hx hb d_Ch_areSourcesWrong_72 (by decide) ?_
              refine lv_goto (tgt := 77) hx hb d_Ch_areSourcesWrong_73 (by decide) ?_
              cases h
              exact ck_zret hx hb hr rfl hlk hK hP hD hS d_Ch_areSourcesWrong_77
            · rw [if_pos c_42] at h
              refine lv_iload_n hx hb d_Ch_areSourcesWrong_65 rfl (lv_at hl 3 rfl) ?_
              refine lv_bipush (v := 16) hx hb d_Ch_areSourcesWrong_66 (by decide) ?_
              refine lv_iushr hx hb d_Ch_areSourcesWrong_68 rfl ?_
              refine lv_if_eq (tgt := 76) hx hb d_Ch_areSourcesWrong_69 (by decide) (fun c_43 => ?_) (fun c_43 => ?_)
              · rw [if_pos c_43] at h
                refine lv_iconst (v := 0) hx hb d_Ch_areSourcesWrong_76 (by decide) ?_
                cases h
                exact ck_zret hx hb hr rfl hlk hK hP hD hS d_Ch_areSourcesWrong_77
              · rw [if_neg c_43] at h
                refine lv_iconst (v := 1) hx hb d_Ch_areSourcesWrong_72 (by decide) ?_
                refine lv_goto (tgt := 77) hx hb d_Ch_areSourcesWrong_73 (by decide) ?_
                cases h
                exact ck_zret hx hb hr rfl hlk hK hP hD hS d_Ch_areSourcesWrong_77
          · rw [if_neg c_39] at h
            refine lv_iconst (v := 1) hx hb d_Ch_areSourcesWrong_54 (by decide) ?_
            refine lv_goto (tgt := 59) hx hb d_Ch_areSourcesWrong_55 (by decide) ?_
            obtain ⟨r_45, h_44, h⟩ := ch_bind h
            try dsimp only at h
            refine ck_goi (wc := []) (wr := []) (w1 := []) (va_runS (As := [.int (p3 &&& (65535 : Int32)), .int (1 : Int32)]) (rest := []) ⟨hx, hb, hml, hown, hts⟩ (k_Ch_isSourceWrong l dC dI cI cJ (p3 &&& (65535 : Int32)) (1 : Int32) r_45 h_44 _) (va_cwS 2 hts (gw_S tw_377 tw_378 tw_5 tw_379) rfl rfl rfl (by decide +kernel) ⟨Nat.le_of_ble_eq_true rfl, Nat.le_of_ble_eq_true rfl⟩) (ck_preS (wc := []) hK hP hD hS hA hE [] (by decide) rfl) rfl rfl hl.1 rfl (lv_room (Nat.le_of_ble_eq_true rfl)) d_Ch_areSourcesWrong_59 ⟨Nat.le_of_ble_eq_true rfl, Nat.le_of_ble_eq_true rfl⟩) hP hD hS hA [] [] rfl rfl (by decide) (by decide) (fun H locs hP hD hS => ?_)
            have hP : va_P (dC, dI) vwCl [] H := hP.sub [] rfl
            have hD : va_D A [] := hD.sub [] (by decide) rfl
            refine lv_if_ne (tgt := 72) hx hb d_Ch_areSourcesWrong_62 (by decide) (fun c_46 => ?_) (fun c_46 => ?_)
            · rw [if_neg c_46] at h
              refine lv_iconst (v := 1) hx hb d_Ch_areSourcesWrong_72 (by decide) ?_
              refine lv_goto (tgt := 77) hx hb d_Ch_areSourcesWrong_73 (by decide) ?_
              cases h
              exact ck_zret hx hb hr rfl hlk hK hP hD hS d_Ch_areSourcesWrong_77
            · rw [if_pos c_46] at h
              refine lv_iload_n hx hb d_Ch_areSourcesWrong_65 rfl (lv_at hl 3 rfl) ?_
              refine lv_bipush (v := 16) hx hb d_Ch_areSourcesWrong_66 (by decide) ?_
              refine lv_iushr hx hb d_Ch_areSourcesWrong_68 rfl ?_
              refine lv_if_eq (tgt := 76) hx hb d_Ch_areSourcesWrong_69 (by decide) (fun c_47 => ?_) (fun c_47 => ?_)
              · rw [if_pos c_47] at h
                refine lv_iconst (v := 0) hx hb d_Ch_areSourcesWrong_76 (by decide) ?_
                cases h
                exact ck_zret hx hb hr rfl hlk hK hP hD hS d_Ch_areSourcesWrong_77
              · rw [if_neg c_47] at h
                refine lv_iconst (v := 1) hx hb d_Ch_areSourcesWrong_72 (by decide) ?_
                refine lv_goto (tgt := 77) hx hb d_Ch_areSourcesWrong_73 (by decide) ?_
                cases h
                exact ck_zret hx hb hr rfl hlk hK hP hD hS d_Ch_areSourcesWrong_77
      · rw [if_neg c_35] at h
        refine lv_iconst (v := 1) hx hb d_Ch_areSourcesWrong_34 (by decide) ?_
        refine lv_goto (tgt := 39) hx hb d_Ch_areSourcesWrong_35 (by decide) ?_
        obtain ⟨r_49, h_48, h⟩ := ch_bind h
        try dsimp only at h
        refine ck_goi (wc := []) (wr := []) (w1 := []) (va_runS (As := [.int ((p2.toUInt32 >>> ((16 : Int32).toUInt32 &&& Int32.toUInt32 31)).toInt32), .int (1 : Int32)]) (rest := []) ⟨hx, hb, hml, hown, hts⟩ (k_Ch_isSourceWrong l dC dI cI cJ ((p2.toUInt32 >>> ((16 : Int32).toUInt32 &&& Int32.toUInt32 31)).toInt32) (1 : Int32) r_49 h_48 _) (va_cwS 2 hts (gw_S tw_377 tw_378 tw_5 tw_379) rfl rfl rfl (by decide +kernel) ⟨Nat.le_of_ble_eq_true rfl, Nat.le_of_ble_eq_true rfl⟩) (ck_preS (wc := []) hK hP hD hS hA hE [] (by decide) rfl) rfl rfl hl.1 rfl (lv_room (Nat.le_of_ble_eq_true rfl)) d_Ch_areSourcesWrong_39 ⟨Nat.le_of_ble_eq_true rfl, Nat.le_of_ble_eq_true rfl⟩) hP hD hS hA [] [] rfl rfl (by decide) (by decide) (fun H locs hP hD hS => ?_)
        have hP : va_P (dC, dI) vwCl [] H := hP.sub [] rfl
        have hD : va_D A [] := hD.sub [] (by decide) rfl
        refine lv_if_ne (tgt := 72) hx hb d_Ch_areSourcesWrong_42 (by decide) (fun c_50 => ?_) (fun c_50 => ?_)
        · rw [if_neg c_50] at h
          refine lv_iconst (v := 1) hx hb d_Ch_areSourcesWrong_72 (by decide) ?_
          refine lv_goto (tgt := 77) hx hb d_Ch_areSourcesWrong_73 (by decide) ?_
          cases h
          exact ck_zret hx hb hr rfl hlk hK hP hD hS d_Ch_areSourcesWrong_77
        · rw [if_pos c_50] at h
          refine lv_iload_n hx hb d_Ch_areSourcesWrong_45 rfl (lv_at hl 3 rfl) ?_
          refine lv_ldc (v := 65535) hx hb hown (hts (.constant R_Ch 129 (65535)) (by decide +kernel)) d_Ch_areSourcesWrong_46 ?_
          refine lv_iand hx hb d_Ch_areSourcesWrong_48 ?_
          refine lv_iload_n hx hb d_Ch_areSourcesWrong_49 rfl (lv_at hl 0 rfl) ?_
          refine lv_iconst (v := 3) hx hb d_Ch_areSourcesWrong_50 (by decide) ?_
          refine lv_icmp_lt (tgt := 58) hx hb d_Ch_areSourcesWrong_51 (by decide) (fun c_51 => ?_) (fun c_51 => ?_)
          · rw [if_pos c_51] at h
            refine lv_iconst (v := 0) hx hb d_Ch_areSourcesWrong_58 (by decide) ?_
            obtain ⟨r_53, h_52, h⟩ := ch_bind h
            try dsimp only at h
            refine ck_goi (wc := []) (wr := []) (w1 := []) (va_runS (As := [.int (p3 &&& (65535 : Int32)), .int (0 : Int32)]) (rest := []) ⟨hx, hb, hml, hown, hts⟩ (k_Ch_isSourceWrong l dC dI cI cJ (p3 &&& (65535 : Int32)) (0 : Int32) r_53 h_52 _) (va_cwS 2 hts (gw_S tw_377 tw_378 tw_5 tw_379) rfl rfl rfl (by decide +kernel) ⟨Nat.le_of_ble_eq_true rfl, Nat.le_of_ble_eq_true rfl⟩) (ck_preS (wc := []) hK hP hD hS hA hE [] (by decide) rfl) rfl rfl hl.1 rfl (lv_room (Nat.le_of_ble_eq_true rfl)) d_Ch_areSourcesWrong_59 ⟨Nat.le_of_ble_eq_true rfl, Nat.le_of_ble_eq_true rfl⟩) hP hD hS hA [] [] rfl rfl (by decide) (by decide) (fun H locs hP hD hS => ?_)
            have hP : va_P (dC, dI) vwCl [] H := hP.sub [] rfl
            have hD : va_D A [] := hD.sub [] (by decide) rfl
            refine lv_if_ne (tgt := 72) hx hb d_Ch_areSourcesWrong_62 (by decide) (fun c_54 => ?_) (fun c_54 => ?_)
            · rw [if_neg c_54] at h
              refine lv_iconst (v := 1) hx hb d_Ch_areSourcesWrong_72 (by decide) ?_
              refine lv_goto (tgt := 77) hx hb d_Ch_areSourcesWrong_73 (by decide) ?_
              cases h
              exact ck_zret hx hb hr rfl hlk hK hP hD hS d_Ch_areSourcesWrong_77
            · rw [if_pos c_54] at h
              refine lv_iload_n hx hb d_Ch_areSourcesWrong_65 rfl (lv_at hl 3 rfl) ?_
              refine lv_bipush (v := 16) hx hb d_Ch_areSourcesWrong_66 (by decide) ?_
              refine lv_iushr hx hb d_Ch_areSourcesWrong_68 rfl ?_
              refine lv_if_eq (tgt := 76) hx hb d_Ch_areSourcesWrong_69 (by decide) (fun c_55 => ?_) (fun c_55 => ?_)
              · rw [if_pos c_55] at h
                refine lv_iconst (v := 0) hx hb d_Ch_areSourcesWrong_76 (by decide) ?_
                cases h
                exact ck_zret hx hb hr rfl hlk hK hP hD hS d_Ch_areSourcesWrong_77
              · rw [if_neg c_55] at h
                refine lv_iconst (v := 1) hx hb d_Ch_areSourcesWrong_72 (by decide) ?_
                refine lv_goto (tgt := 77) hx hb d_Ch_areSourcesWrong_73 (by decide) ?_
                cases h
                exact ck_zret hx hb hr rfl hlk hK hP hD hS d_Ch_areSourcesWrong_77
          · rw [if_neg c_51] at h
            refine lv_iconst (v := 1) hx hb d_Ch_areSourcesWrong_54 (by decide) ?_
            refine lv_goto (tgt := 59) hx hb d_Ch_areSourcesWrong_55 (by decide) ?_
            obtain ⟨r_57, h_56, h⟩ := ch_bind h
            try dsimp only at h
            refine ck_goi (wc := []) (wr := []) (w1 := []) (va_runS (As := [.int (p3 &&& (65535 : Int32)), .int (1 : Int32)]) (rest := []) ⟨hx, hb, hml, hown, hts⟩ (k_Ch_isSourceWrong l dC dI cI cJ (p3 &&& (65535 : Int32)) (1 : Int32) r_57 h_56 _) (va_cwS 2 hts (gw_S tw_377 tw_378 tw_5 tw_379) rfl rfl rfl (by decide +kernel) ⟨Nat.le_of_ble_eq_true rfl, Nat.le_of_ble_eq_true rfl⟩) (ck_preS (wc := []) hK hP hD hS hA hE [] (by decide) rfl) rfl rfl hl.1 rfl (lv_room (Nat.le_of_ble_eq_true rfl)) d_Ch_areSourcesWrong_59 ⟨Nat.le_of_ble_eq_true rfl, Nat.le_of_ble_eq_true rfl⟩) hP hD hS hA [] [] rfl rfl (by decide) (by decide) (fun H locs hP hD hS => ?_)
            have hP : va_P (dC, dI) vwCl [] H := hP.sub [] rfl
            have hD : va_D A [] := hD.sub [] (by decide) rfl
            refine lv_if_ne (tgt := 72) hx hb d_Ch_areSourcesWrong_62 (by decide) (fun c_58 => ?_) (fun c_58 => ?_)
            · rw [if_neg c_58] at h
              refine lv_iconst (v := 1) hx hb d_Ch_areSourcesWrong_72 (by decide) ?_
              refine lv_goto (tgt := 77) hx hb d_Ch_areSourcesWrong_73 (by decide) ?_
              cases h
              exact ck_zret hx hb hr rfl hlk hK hP hD hS d_Ch_areSourcesWrong_77
            · rw [if_pos c_58] at h
              refine lv_iload_n hx hb d_Ch_areSourcesWrong_65 rfl (lv_at hl 3 rfl) ?_
              refine lv_bipush (v := 16) hx hb d_Ch_areSourcesWrong_66 (by decide) ?_
              refine lv_iushr hx hb d_Ch_areSourcesWrong_68 rfl ?_
              refine lv_if_eq (tgt := 76) hx hb d_Ch_areSourcesWrong_69 (by decide) (fun c_59 => ?_) (fun c_59 => ?_)
              · rw [if_pos c_59] at h
                refine lv_iconst (v := 0) hx hb d_Ch_areSourcesWrong_76 (by decide) ?_
                cases h
                exact ck_zret hx hb hr rfl hlk hK hP hD hS d_Ch_areSourcesWrong_77
              · rw [if_neg c_59] at h
                refine lv_iconst (v := 1) hx hb d_Ch_areSourcesWrong_72 (by decide) ?_
                refine lv_goto (tgt := 77) hx hb d_Ch_areSourcesWrong_73 (by decide) ?_
                cases h
                exact ck_zret hx hb hr rfl hlk hK hP hD hS d_Ch_areSourcesWrong_77
def pf_Ch_isNumberWrong (p1 : Int32) (p2 : Int32) (p3 : Int32) (p4 : Int32) : Option (Int32) :=
  Option.bind (pf_Ki_goes p1) (fun r_2 => 
  if r_2 = 0 then
    if p1 = (34 : Int32) then
      if p2 < (1 : Int32) then
        some (1 : Int32)
      else
        if p2 ≤ (255 : Int32) then
          some (0 : Int32)
        else
          some (1 : Int32)
    else
      Option.bind (pf_Ki_readsTexture p1) (fun r_6 => 
      if r_6 = 0 then
        if p2 = 0 then
          some (0 : Int32)
        else
          some (1 : Int32)
      else
        if p2 < (4 : Int32) then
          some (0 : Int32)
        else
          some (1 : Int32))
  else
    if p2 ≤ p3 then
      some (1 : Int32)
    else
      if p2 < p4 then
        some (0 : Int32)
      else
        some (1 : Int32))
set_option maxHeartbeats 4000000 in
set_option maxRecDepth 100000 in
theorem k_Ch_isNumberWrong (l : Launch) (dC : Nat → ClassId) (dI : Nat → Nat → Nat) (cI cJ : ClassId) (p1 : Int32) (p2 : Int32) (p3 : Int32) (p4 : Int32) (r : Int32) (h : pf_Ch_isNumberWrong p1 p2 p3 p4 = some r) : ck_i l y_Ch_isNumberWrong wm_Ch_isNumberWrong ({ frames := 1, cells := 0, slots := 0, locals := 20 } : Room) [.int p1, .int p2, .int p3, .int p4] (dC, dI) [(cI, .int), (cJ, .long)] [] r [] := by
  refine ck_ofi (cc := c_Ch_isNumberWrong) (maxL := 4) (ret := (some .boolean)) (by decide +kernel) rfl ?_
  intro p e s m below meth c A C0 hK hP hD hS hE
  obtain ⟨hx, hb, hr, hml, hown, hts, hlk, hA, hin⟩ := C0
  unfold pf_Ch_isNumberWrong at h
  have hl := lv_entry ([.int p1, .int p2, .int p3, .int p4]) (n := 4) (Nat.le_of_ble_eq_true rfl)
  rw [lg_entry_eq]
  generalize (lg_sl ([.int p1, .int p2, .int p3, .int p4]) ++ List.replicate (4 - (lg_sl ([.int p1, .int p2, .int p3, .int p4])).length) Slot.unset).toArray = ls at hl ⊢
  have hl : lv_has ls 4 [(0, .int p1), (1, .int p2), (2, .int p3), (3, .int p4)] := hl
  refine lv_iload_n hx hb d_Ch_isNumberWrong_0 rfl (lv_at hl 0 rfl) ?_
  obtain ⟨r_2, h_1, h⟩ := ch_bind h
  try dsimp only at h
  refine ck_goi (wc := []) (wr := []) (w1 := []) (va_runS (As := [.int p1]) (rest := []) ⟨hx, hb, hml, hown, hts⟩ (k_Ki_goes l dC dI cI cJ p1 r_2 h_1 _) (va_cwS 1 hts (gw_S tw_393 tw_394 tw_14 tw_395) rfl rfl rfl (by decide +kernel) ⟨Nat.le_of_ble_eq_true rfl, Nat.le_of_ble_eq_true rfl⟩) (ck_preS (wc := []) hK hP hD hS hA hE [] (by decide) rfl) rfl rfl hl.1 rfl (lv_room (Nat.le_of_ble_eq_true rfl)) d_Ch_isNumberWrong_1 ⟨Nat.le_of_ble_eq_true rfl, Nat.le_of_ble_eq_true rfl⟩) hP hD hS hA [] [] rfl rfl (by decide) (by decide) (fun H locs hP hD hS => ?_)
  have hP : va_P (dC, dI) vwCl [] H := hP.sub [] rfl
  have hD : va_D A [] := hD.sub [] (by decide) rfl
  refine lv_if_eq (tgt := 23) hx hb d_Ch_isNumberWrong_4 (by decide) (fun c_3 => ?_) (fun c_3 => ?_)
  · rw [if_pos c_3] at h
    refine lv_iload_n hx hb d_Ch_isNumberWrong_23 rfl (lv_at hl 0 rfl) ?_
    refine lv_bipush (v := 34) hx hb d_Ch_isNumberWrong_24 (by decide) ?_
    refine lv_icmp_ne (tgt := 47) hx hb d_Ch_isNumberWrong_26 (by decide) (fun c_4 => ?_) (fun c_4 => ?_)
    · rw [if_neg c_4] at h
      refine lv_iload_n hx hb d_Ch_isNumberWrong_47 rfl (lv_at hl 0 rfl) ?_
      obtain ⟨r_6, h_5, h⟩ := ch_bind h
      try dsimp only at h
      refine ck_goi (wc := []) (wr := []) (w1 := []) (va_runS (As := [.int p1]) (rest := []) ⟨hx, hb, hml, hown, hts⟩ (k_Ki_readsTexture l dC dI cI cJ p1 r_6 h_5 _) (va_cwS 1 hts (gw_S tw_396 tw_397 tw_14 tw_398) rfl rfl rfl (by decide +kernel) ⟨Nat.le_of_ble_eq_true rfl, Nat.le_of_ble_eq_true rfl⟩) (ck_preS (wc := []) hK hP hD hS hA hE [] (by decide) rfl) rfl rfl hl.1 rfl (lv_room (Nat.le_of_ble_eq_true rfl)) d_Ch_isNumberWrong_48 ⟨Nat.le_of_ble_eq_true rfl, Nat.le_of_ble_eq_true rfl⟩) hP hD hS hA [] [] rfl rfl (by decide) (by decide) (fun H locs hP hD hS => ?_)
      have hP : va_P (dC, dI) vwCl [] H := hP.sub [] rfl
      have hD : va_D A [] := hD.sub [] (by decide) rfl
      refine lv_if_eq (tgt := 65) hx hb d_Ch_isNumberWrong_51 (by decide) (fun c_7 => ?_) (fun c_7 => ?_)
      · rw [if_pos c_7] at h
        refine lv_iload_n hx hb d_Ch_isNumberWrong_65 rfl (lv_at hl 1 rfl) ?_
        refine lv_if_eq (tgt := 73) hx hb d_Ch_isNumberWrong_66 (by decide) (fun c_8 => ?_) (fun c_8 => ?_)
        · rw [if_pos c_8] at h
          refine lv_iconst (v := 0) hx hb d_Ch_isNumberWrong_73 (by decide) ?_
          cases h
          exact ck_zret hx hb hr rfl hlk hK hP hD hS d_Ch_isNumberWrong_74
        · rw [if_neg c_8] at h
          refine lv_iconst (v := 1) hx hb d_Ch_isNumberWrong_69 (by decide) ?_
          refine lv_goto (tgt := 74) hx hb d_Ch_isNumberWrong_70 (by decide) ?_
          cases h
          exact ck_zret hx hb hr rfl hlk hK hP hD hS d_Ch_isNumberWrong_74
      · rw [if_neg c_7] at h
        refine lv_iload_n hx hb d_Ch_isNumberWrong_54 rfl (lv_at hl 1 rfl) ?_
        refine lv_iconst (v := 4) hx hb d_Ch_isNumberWrong_55 (by decide) ?_
        refine lv_icmp_lt (tgt := 63) hx hb d_Ch_isNumberWrong_56 (by decide) (fun c_9 => ?_) (fun c_9 => ?_)
        · rw [if_pos c_9] at h
          refine lv_iconst (v := 0) hx hb d_Ch_isNumberWrong_63 (by decide) ?_
          cases h
          exact ck_zret hx hb hr rfl hlk hK hP hD hS d_Ch_isNumberWrong_64
        · rw [if_neg c_9] at h
          refine lv_iconst (v := 1) hx hb d_Ch_isNumberWrong_59 (by decide) ?_
          refine lv_goto (tgt := 64) hx hb d_Ch_isNumberWrong_60 (by decide) ?_
          cases h
          exact ck_zret hx hb hr rfl hlk hK hP hD hS d_Ch_isNumberWrong_64
    · rw [if_pos c_4] at h
      refine lv_iload_n hx hb d_Ch_isNumberWrong_29 rfl (lv_at hl 1 rfl) ?_
      refine lv_iconst (v := 1) hx hb d_Ch_isNumberWrong_30 (by decide) ?_
      refine lv_icmp_lt (tgt := 41) hx hb d_Ch_isNumberWrong_31 (by decide) (fun c_10 => ?_) (fun c_10 => ?_)
      · rw [if_pos c_10] at h
        refine lv_iconst (v := 1) hx hb d_Ch_isNumberWrong_41 (by decide) ?_
        refine lv_goto (tgt := 46) hx hb d_Ch_isNumberWrong_42 (by decide) ?_
        cases h
        exact ck_zret hx hb hr rfl hlk hK hP hD hS d_Ch_isNumberWrong_46
      · rw [if_neg c_10] at h
        refine lv_iload_n hx hb d_Ch_isNumberWrong_34 rfl (lv_at hl 1 rfl) ?_
        refine lv_sipush (v := 255) hx hb d_Ch_isNumberWrong_35 (by decide) ?_
        refine lv_icmp_le (tgt := 45) hx hb d_Ch_isNumberWrong_38 (by decide) (fun c_11 => ?_) (fun c_11 => ?_)
        · rw [if_pos c_11] at h
          refine lv_iconst (v := 0) hx hb d_Ch_isNumberWrong_45 (by decide) ?_
          cases h
          exact ck_zret hx hb hr rfl hlk hK hP hD hS d_Ch_isNumberWrong_46
        · rw [if_neg c_11] at h
          refine lv_iconst (v := 1) hx hb d_Ch_isNumberWrong_41 (by decide) ?_
          refine lv_goto (tgt := 46) hx hb d_Ch_isNumberWrong_42 (by decide) ?_
          cases h
          exact ck_zret hx hb hr rfl hlk hK hP hD hS d_Ch_isNumberWrong_46
  · rw [if_neg c_3] at h
    refine lv_iload_n hx hb d_Ch_isNumberWrong_7 rfl (lv_at hl 1 rfl) ?_
    refine lv_iload_n hx hb d_Ch_isNumberWrong_8 rfl (lv_at hl 2 rfl) ?_
    refine lv_icmp_le (tgt := 17) hx hb d_Ch_isNumberWrong_9 (by decide) (fun c_12 => ?_) (fun c_12 => ?_)
    · rw [if_pos c_12] at h
      refine lv_iconst (v := 1) hx hb d_Ch_isNumberWrong_17 (by decide) ?_
      refine lv_goto (tgt := 22) hx hb d_Ch_isNumberWrong_18 (by decide) ?_
      cases h
      exact ck_zret hx hb hr rfl hlk hK hP hD hS d_Ch_isNumberWrong_22
    · rw [if_neg c_12] at h
      refine lv_iload_n hx hb d_Ch_isNumberWrong_12 rfl (lv_at hl 1 rfl) ?_
      refine lv_iload_n hx hb d_Ch_isNumberWrong_13 rfl (lv_at hl 3 rfl) ?_
      refine lv_icmp_lt (tgt := 21) hx hb d_Ch_isNumberWrong_14 (by decide) (fun c_13 => ?_) (fun c_13 => ?_)
      · rw [if_pos c_13] at h
        refine lv_iconst (v := 0) hx hb d_Ch_isNumberWrong_21 (by decide) ?_
        cases h
        exact ck_zret hx hb hr rfl hlk hK hP hD hS d_Ch_isNumberWrong_22
      · rw [if_neg c_13] at h
        refine lv_iconst (v := 1) hx hb d_Ch_isNumberWrong_17 (by decide) ?_
        refine lv_goto (tgt := 22) hx hb d_Ch_isNumberWrong_18 (by decide) ?_
        cases h
        exact ck_zret hx hb hr rfl hlk hK hP hD hS d_Ch_isNumberWrong_22
