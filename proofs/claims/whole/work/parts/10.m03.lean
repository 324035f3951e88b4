def pf_Ch_faultOf (p2 : Int32) (p3 : Int32) (p1_many : Int32) (n_p1_words : Nat) (f_p1_words : Nat → Int32) (o_loops_depth : Int32) : Option (Int32) :=
  Option.bind (pf_Pr_kind p2 p1_many n_p1_words f_p1_words) (fun r_2 => 
  if r_2 ≤ (40 : Int32) then
    Option.bind (pf_Pr_first p2 p1_many n_p1_words f_p1_words) (fun r_5 => 
    Option.bind (pf_Ch_isTargetWrong r_2 r_5) (fun r_7 => 
    if r_7 = 0 then
      Option.bind (pf_Pr_second p2 p1_many n_p1_words f_p1_words) (fun r_10 => 
      Option.bind (pf_Pr_third p2 p1_many n_p1_words f_p1_words) (fun r_12 => 
      Option.bind (pf_Ch_areSourcesWrong r_2 r_10 r_12) (fun r_14 => 
      if r_14 = 0 then
        Option.bind (pf_Pr_number p2 p1_many n_p1_words f_p1_words) (fun r_17 => 
        Option.bind (pf_Pr_many p1_many) (fun r_19 => 
        Option.bind (pf_Ch_isNumberWrong r_2 r_17 p2 r_19) (fun r_21 => 
        if r_21 = 0 then
          if r_2 = (35 : Int32) then
            Option.bind (pf_Lo_isEmpty o_loops_depth) (fun r_51 => 
            if r_51 = 0 then
              if r_2 = (34 : Int32) then
                Option.bind (pf_Lo_isFull o_loops_depth) (fun r_66 => 
                if r_66 = 0 then
                  if r_2 = 0 then
                    Option.bind (pf_Pr_many p1_many) (fun r_75 => 
                    if p2 = (r_75 - (1 : Int32)) then
                      if r_2 = (38 : Int32) then
                        if p3 = 0 then
                          some (7 : Int32)
                        else
                          some (0 : Int32)
                      else
                        some (0 : Int32)
                    else
                      some (6 : Int32))
                  else
                    Option.bind (pf_Pr_many p1_many) (fun r_70 => 
                    if p2 = (r_70 - (1 : Int32)) then
                      some (6 : Int32)
                    else
                      if r_2 = (38 : Int32) then
                        if p3 = 0 then
                          some (7 : Int32)
                        else
                          some (0 : Int32)
                      else
                        some (0 : Int32))
                else
                  some (5 : Int32))
              else
                if r_2 = 0 then
                  Option.bind (pf_Pr_many p1_many) (fun r_61 => 
                  if p2 = (r_61 - (1 : Int32)) then
                    if r_2 = (38 : Int32) then
                      if p3 = 0 then
                        some (7 : Int32)
                      else
                        some (0 : Int32)
                    else
                      some (0 : Int32)
                  else
                    some (6 : Int32))
                else
                  Option.bind (pf_Pr_many p1_many) (fun r_56 => 
                  if p2 = (r_56 - (1 : Int32)) then
                    some (6 : Int32)
                  else
                    if r_2 = (38 : Int32) then
                      if p3 = 0 then
                        some (7 : Int32)
                      else
                        some (0 : Int32)
                    else
                      some (0 : Int32))
            else
              some (5 : Int32))
          else
            if r_2 = (34 : Int32) then
              Option.bind (pf_Lo_isFull o_loops_depth) (fun r_37 => 
              if r_37 = 0 then
                if r_2 = 0 then
                  Option.bind (pf_Pr_many p1_many) (fun r_46 => 
                  if p2 = (r_46 - (1 : Int32)) then
                    if r_2 = (38 : Int32) then
                      if p3 = 0 then
                        some (7 : Int32)
                      else
                        some (0 : Int32)
                    else
                      some (0 : Int32)
                  else
                    some (6 : Int32))
                else
                  Option.bind (pf_Pr_many p1_many) (fun r_41 => 
                  if p2 = (r_41 - (1 : Int32)) then
                    some (6 : Int32)
                  else
                    if r_2 = (38 : Int32) then
                      if p3 = 0 then
                        some (7 : Int32)
                      else
                        some (0 : Int32)
                    else
                      some (0 : Int32))
              else
                some (5 : Int32))
            else
              if r_2 = 0 then
                Option.bind (pf_Pr_many p1_many) (fun r_32 => 
                if p2 = (r_32 - (1 : Int32)) then
                  if r_2 = (38 : Int32) then
                    if p3 = 0 then
                      some (7 : Int32)
                    else
                      some (0 : Int32)
                  else
                    some (0 : Int32)
                else
                  some (6 : Int32))
              else
                Option.bind (pf_Pr_many p1_many) (fun r_27 => 
                if p2 = (r_27 - (1 : Int32)) then
                  some (6 : Int32)
                else
                  if r_2 = (38 : Int32) then
                    if p3 = 0 then
                      some (7 : Int32)
                    else
                      some (0 : Int32)
                  else
                    some (0 : Int32))
        else
          some (4 : Int32))))
      else
        some (3 : Int32))))
    else
      some (2 : Int32)))
  else
    some (1 : Int32))
set_option maxHeartbeats 4000000 in
set_option maxRecDepth 100000 in
theorem k_Ch_faultOf (l : Launch) (dC : Nat → ClassId) (dI : Nat → Nat → Nat) (cI cJ : ClassId) (p2 : Int32) (p3 : Int32) (p1_many : Int32) (n_p1_words : Nat) (f_p1_words : Nat → Int32) (o_fault : Int32) (o_place : Int32) (o_steps : Int64) (o_loops_depth : Int32) (q_o : Nat) (q_p1 : Nat) (q_p1_words : Nat) (q_o_loopOf : Nat) (q_o_loops : Nat) (q_o_loops_places : Nat) (q_o_loops_counts : Nat) (r : Int32) (h : pf_Ch_faultOf p2 p3 p1_many n_p1_words f_p1_words o_loops_depth = some r) : ck_i l y_Ch_faultOf wm_Ch_faultOf ({ frames := 3, cells := 0, slots := 0, locals := 65 } : Room) [.ref q_o, .ref q_p1, .int p2, .int p3] (dC, dI) [(cI, .int), (cJ, .long)] [(q_p1, .inr (3, [.ref q_p1_words, .int p1_many])), (q_p1_words, .inl (cI, n_p1_words, .inl f_p1_words)), (q_o, .inr (4, [.ref q_o_loopOf, .ref q_o_loops, .int o_fault, .int o_place, .long o_steps])), (q_o_loops, .inr (2, [.ref q_o_loops_places, .ref q_o_loops_counts, .int o_loops_depth]))] r [(q_p1, .inr (3, [.ref q_p1_words, .int p1_many])), (q_p1_words, .inl (cI, n_p1_words, .inl f_p1_words)), (q_o, .inr (4, [.ref q_o_loopOf, .ref q_o_loops, .int o_fault, .int o_place, .long o_steps])), (q_o_loops, .inr (2, [.ref q_o_loops_places, .ref q_o_loops_counts, .int o_loops_depth]))] := by
  refine ck_ofi (cc := c_Ch_faultOf) (maxL := 5) (ret := (some .int)) (by decide +kernel) rfl ?_
  intro p e s m below meth c A C0 hK hP hD hS hE
  obtain ⟨hx, hb, hr, hml, hown, hts, hlk, hA, hin⟩ := C0
  unfold pf_Ch_faultOf at h
  have hl := lv_entry ([.ref q_o, .ref q_p1, .int p2, .int p3]) (n := 5) (Nat.le_of_ble_eq_true rfl)
  rw [lg_entry_eq]
  generalize (lg_sl ([.ref q_o, .ref q_p1, .int p2, .int p3]) ++ List.replicate (5 - (lg_sl ([.ref q_o, .ref q_p1, .int p2, .int p3])).length) Slot.unset).toArray = ls at hl ⊢
  have hl : lv_has ls 5 [(0, .ref q_o), (1, .ref q_p1), (2, .int p2), (3, .int p3)] := hl
  refine lv_aload_n hx hb d_Ch_faultOf_0 rfl (lv_at hl 1 rfl) ?_
  refine lv_iload_n hx hb d_Ch_faultOf_1 rfl (lv_at hl 2 rfl) ?_
  obtain ⟨r_2, h_1, h⟩ := ch_bind h
  try dsimp only at h
  refine ck_goi (wc := [(q_p1, .inr (3, [.ref q_p1_words, .int p1_many])), (q_p1_words, .inl (cI, n_p1_words, .inl f_p1_words))]) (wr := [(q_o, .inr (4, [.ref q_o_loopOf, .ref q_o_loops, .int o_fault, .int o_place, .long o_steps])), (q_o_loops, .inr (2, [.ref q_o_loops_places, .ref q_o_loops_counts, .int o_loops_depth]))]) (w1 := [(q_p1, .inr (3, [.ref q_p1_words, .int p1_many])), (q_p1_words, .inl (cI, n_p1_words, .inl f_p1_words))]) (va_runV (As := [.int p2]) (rest := []) ⟨hx, hb, hml, hown, hts⟩ (k_Pr_kind l dC dI cI cJ p2 p1_many n_p1_words f_p1_words q_p1 q_p1_words r_2 h_1 _) (cwV 1 hts (gw_V tw_331 tw_332 tw_333 tw_8 tw_334) rfl rfl rfl (by decide +kernel) ⟨Nat.le_of_ble_eq_true rfl, Nat.le_of_ble_eq_true rfl⟩) (ck_preV (wc := [(q_p1, .inr (3, [.ref q_p1_words, .int p1_many])), (q_p1_words, .inl (cI, n_p1_words, .inl f_p1_words))]) hK hP hD hS hA hE 0 rfl rfl rfl [0, 1] (by decide) rfl) rfl rfl hl.1 rfl (lv_room (Nat.le_of_ble_eq_true rfl)) d_Ch_faultOf_2 ⟨Nat.le_of_ble_eq_true rfl, Nat.le_of_ble_eq_true rfl⟩) hP hD hS hA [0, 1] [2, 3] rfl rfl (by decide) (by decide) (fun H locs hP hD hS => ?_)
  have hP : va_P (dC, dI) vwCl [(q_p1, .inr (3, [.ref q_p1_words, .int p1_many])), (q_p1_words, .inl (cI, n_p1_words, .inl f_p1_words)), (q_o, .inr (4, [.ref q_o_loopOf, .ref q_o_loops, .int o_fault, .int o_place, .long o_steps])), (q_o_loops, .inr (2, [.ref q_o_loops_places, .ref q_o_loops_counts, .int o_loops_depth]))] H := hP.sub [2, 3, 0, 1] rfl
  have hD : va_D A [(q_p1, .inr (3, [.ref q_p1_words, .int p1_many])), (q_p1_words, .inl (cI, n_p1_words, .inl f_p1_words)), (q_o, .inr (4, [.ref q_o_loopOf, .ref q_o_loops, .int o_fault, .int o_place, .long o_steps])), (q_o_loops, .inr (2, [.ref q_o_loops_places, .ref q_o_loops_counts, .int o_loops_depth]))] := hD.sub [2, 3, 0, 1] (by decide) rfl
  refine lv_istore (lv' := [(4, .int r_2), (0, .ref q_o), (1, .ref q_p1), (2, .int p2), (3, .int p3)]) hx hb d_Ch_faultOf_5 hl (by decide) rfl (fun ls hl => ?_)
  refine lv_iload hx hb d_Ch_faultOf_7 (lv_at hl 0 rfl) ?_
  refine lv_bipush (v := 40) hx hb d_Ch_faultOf_9 (by decide) ?_
  refine lv_icmp_le (tgt := 16) hx hb d_Ch_faultOf_11 (by decide) (fun c_3 => ?_) (fun c_3 => ?_)
  · rw [if_pos c_3] at h
    refine lv_iload hx hb d_Ch_faultOf_16 (lv_at hl 0 rfl) ?_
    refine lv_aload_n hx hb d_Ch_faultOf_18 rfl (lv_at hl 2 rfl) ?_
    refine lv_iload_n hx hb d_Ch_faultOf_19 rfl (lv_at hl 3 rfl) ?_
    obtain ⟨r_5, h_4, h⟩ := ch_bind h
    try dsimp only at h
    refine ck_goi (wc := [(q_p1, .inr (3, [.ref q_p1_words, .int p1_many])), (q_p1_words, .inl (cI, n_p1_words, .inl f_p1_words))]) (wr := [(q_o, .inr (4, [.ref q_o_loopOf, .ref q_o_loops, .int o_fault, .int o_place, .long o_steps])), (q_o_loops, .inr (2, [.ref q_o_loops_places, .ref q_o_loops_counts, .int o_loops_depth]))]) (w1 := [(q_p1, .inr (3, [.ref q_p1_words, .int p1_many])), (q_p1_words, .inl (cI, n_p1_words, .inl f_p1_words))]) (va_runV (As := [.int p2]) (rest := [.int r_2]) ⟨hx, hb, hml, hown, hts⟩ (k_Pr_first l dC dI cI cJ p2 p1_many n_p1_words f_p1_words q_p1 q_p1_words r_5 h_4 _) (cwV 1 hts (gw_V tw_343 tw_336 tw_337 tw_8 tw_338) rfl rfl rfl (by decide +kernel) ⟨Nat.le_of_ble_eq_true rfl, Nat.le_of_ble_eq_true rfl⟩) (ck_preV (wc := [(q_p1, .inr (3, [.ref q_p1_words, .int p1_many])), (q_p1_words, .inl (cI, n_p1_words, .inl f_p1_words))]) hK hP hD hS hA hE 0 rfl rfl rfl [0, 1] (by decide) rfl) rfl rfl hl.1 rfl (lv_room (Nat.le_of_ble_eq_true rfl)) d_Ch_faultOf_20 ⟨Nat.le_of_ble_eq_true rfl, Nat.le_of_ble_eq_true rfl⟩) hP hD hS hA [0, 1] [2, 3] rfl rfl (by decide) (by decide) (fun H locs hP hD hS => ?_)
    have hP : va_P (dC, dI) vwCl [(q_p1, .inr (3, [.ref q_p1_words, .int p1_many])), (q_p1_words, .inl (cI, n_p1_words, .inl f_p1_words)), (q_o, .inr (4, [.ref q_o_loopOf, .ref q_o_loops, .int o_fault, .int o_place, .long o_steps])), (q_o_loops, .inr (2, [.ref q_o_loops_places, .ref q_o_loops_counts, .int o_loops_depth]))] H := hP.sub [2, 3, 0, 1] rfl
    have hD : va_D A [(q_p1, .inr (3, [.ref q_p1_words, .int p1_many])), (q_p1_words, .inl (cI, n_p1_words, .inl f_p1_words)), (q_o, .inr (4, [.ref q_o_loopOf, .ref q_o_loops, .int o_fault, .int o_place, .long o_steps])), (q_o_loops, .inr (2, [.ref q_o_loops_places, .ref q_o_loops_counts, .int o_loops_depth]))] := hD.sub [2, 3, 0, 1] (by decide) rfl
    obtain ⟨r_7, h_6, h⟩ := ch_bind h
    try dsimp only at h
    refine ck_goi (wc := []) (wr := [(q_p1, .inr (3, [.ref q_p1_words, .int p1_many])), (q_p1_words, .inl (cI, n_p1_words, .inl f_p1_words)), (q_o, .inr (4, [.ref q_o_loopOf, .ref q_o_loops, .int o_fault, .int o_place, .long o_steps])), (q_o_loops, .inr (2, [.ref q_o_loops_places, .ref q_o_loops_counts, .int o_loops_depth]))]) (w1 := []) (va_runS (As := [.int r_2, .int r_5]) (rest := []) ⟨hx, hb, hml, hown, hts⟩ (k_Ch_isTargetWrong l dC dI cI cJ r_2 r_5 r_7 h_6 _) (va_cwS 2 hts (gw_S tw_344 tw_345 tw_5 tw_346) rfl rfl rfl (by decide +kernel) ⟨Nat.le_of_ble_eq_true rfl, Nat.le_of_ble_eq_true rfl⟩) (ck_preS (wc := []) hK hP hD hS hA hE [] (by decide) rfl) rfl rfl hl.1 rfl (lv_room (Nat.le_of_ble_eq_true rfl)) d_Ch_faultOf_23 ⟨Nat.le_of_ble_eq_true rfl, Nat.le_of_ble_eq_true rfl⟩) hP hD hS hA [] [0, 1, 2, 3] rfl rfl (by decide) (by decide) (fun H locs hP hD hS => ?_)
    have hP : va_P (dC, dI) vwCl [(q_p1, .inr (3, [.ref q_p1_words, .int p1_many])), (q_p1_words, .inl (cI, n_p1_words, .inl f_p1_words)), (q_o, .inr (4, [.ref q_o_loopOf, .ref q_o_loops, .int o_fault, .int o_place, .long o_steps])), (q_o_loops, .inr (2, [.ref q_o_loops_places, .ref q_o_loops_counts, .int o_loops_depth]))] H := hP.sub [0, 1, 2, 3] rfl
    have hD : va_D A [(q_p1, .inr (3, [.ref q_p1_words, .int p1_many])), (q_p1_words, .inl (cI, n_p1_words, .inl f_p1_words)), (q_o, .inr (4, [.ref q_o_loopOf, .ref q_o_loops, .int o_fault, .int o_place, .long o_steps])), (q_o_loops, .inr (2, [.ref q_o_loops_places, .ref q_o_loops_counts, .int o_loops_depth]))] := hD.sub [0, 1, 2, 3] (by decide) rfl
    refine lv_if_eq (tgt := 31) hx hb d_Ch_faultOf_26 (by decide) (fun c_8 => ?_) (fun c_8 => ?_)
    · rw [if_pos c_8] at h
      refine lv_iload hx hb d_Ch_faultOf_31 (lv_at hl 0 rfl) ?_
      refine lv_aload_n hx hb d_Ch_faultOf_33 rfl (lv_at hl 2 rfl) ?_
      refine lv_iload_n hx hb d_Ch_faultOf_34 rfl (lv_at hl 3 rfl) ?_
      obtain ⟨r_10, h_9, h⟩ := ch_bind h
      try dsimp only at h
      refine ck_goi (wc := [(q_p1, .inr (3, [.ref q_p1_words, .int p1_many])), (q_p1_words, .inl (cI, n_p1_words, .inl f_p1_words))]) (wr := [(q_o, .inr (4, [.ref q_o_loopOf, .ref q_o_loops, .int o_fault, .int o_place, .long o_steps])), (q_o_loops, .inr (2, [.ref q_o_loops_places, .ref q_o_loops_counts, .int o_loops_depth]))]) (w1 := [(q_p1, .inr (3, [.ref q_p1_words, .int p1_many])), (q_p1_words, .inl (cI, n_p1_words, .inl f_p1_words))]) (va_runV (As := [.int p2]) (rest := [.int r_2]) ⟨hx, hb, hml, hown, hts⟩ (k_Pr_second l dC dI cI cJ p2 p1_many n_p1_words f_p1_words q_p1 q_p1_words r_10 h_9 _) (cwV 1 hts (gw_V tw_360 tw_361 tw_362 tw_8 tw_363) rfl rfl rfl (by decide +kernel) ⟨Nat.le_of_ble_eq_true rfl, Nat.le_of_ble_eq_true rfl⟩) (ck_preV (wc := [(q_p1, .inr (3, [.ref q_p1_words, .int p1_many])), (q_p1_words, .inl (cI, n_p1_words, .inl f_p1_words))]) hK hP hD hS hA hE 0 rfl rfl rfl [0, 1] (by decide) rfl) rfl rfl hl.1 rfl (lv_room (Nat.le_of_ble_eq_true rfl)) d_Ch_faultOf_35 ⟨Nat.le_of_ble_eq_true rfl, Nat.le_of_ble_eq_true rfl⟩) hP hD hS hA [0, 1] [2, 3] rfl rfl (by decide) (by decide) (fun H locs hP hD hS => ?_)
      have hP : va_P (dC, dI) vwCl [(q_p1, .inr (3, [.ref q_p1_words, .int p1_many])), (q_p1_words, .inl (cI, n_p1_words, .inl f_p1_words)), (q_o, .inr (4, [.ref q_o_loopOf, .ref q_o_loops, .int o_fault, .int o_place, .long o_steps])), (q_o_loops, .inr (2, [.ref q_o_loops_places, .ref q_o_loops_counts, .int o_loops_depth]))] H := hP.sub [2, 3, 0, 1] rfl
      have hD : va_D A [(q_p1, .inr (3, [.ref q_p1_words, .int p1_many])), (q_p1_words, .inl (cI, n_p1_words, .inl f_p1_words)), (q_o, .inr (4, [.ref q_o_loopOf, .ref q_o_loops, .int o_fault, .int o_place, .long o_steps])), (q_o_loops, .inr (2, [.ref q_o_loops_places, .ref q_o_loops_counts, .int o_loops_depth]))] := hD.sub [2, 3, 0, 1] (by decide) rfl
      refine lv_aload_n hx hb d_Ch_faultOf_38 rfl (lv_at hl 2 rfl) ?_
      refine lv_iload_n hx hb d_Ch_faultOf_39 rfl (lv_at hl 3 rfl) ?_
      obtain ⟨r_12, h_11, h⟩ := ch_bind h
      try dsimp only at h
      refine ck_goi (wc := [(q_p1, .inr (3, [.ref q_p1_words, .int p1_many])), (q_p1_words, .inl (cI, n_p1_words, .inl f_p1_words))]) (wr := [(q_o, .inr (4, [.ref q_o_loopOf, .ref q_o_loops, .int o_fault, .int o_place, .long o_steps])), (q_o_loops, .inr (2, [.ref q_o_loops_places, .ref q_o_loops_counts, .int o_loops_depth]))]) (w1 := [(q_p1, .inr (3, [.ref q_p1_words, .int p1_many])), (q_p1_words, .inl (cI, n_p1_words, .inl f_p1_words))]) (va_runV (As := [.int p2]) (rest := [.int r_10, .int r_2]) ⟨hx, hb, hml, hown, hts⟩ (k_Pr_third l dC dI cI cJ p2 p1_many n_p1_words f_p1_words q_p1 q_p1_words r_12 h_11 _) (cwV 1 hts (gw_V tw_364 tw_365 tw_366 tw_8 tw_367) rfl rfl rfl (by decide +kernel) ⟨Nat.le_of_ble_eq_true rfl, Nat.le_of_ble_eq_true rfl⟩) (ck_preV (wc := [(q_p1, .inr (3, [.ref q_p1_words, .int p1_many])), (q_p1_words, .inl (cI, n_p1_words, .inl f_p1_words))]) hK hP hD hS hA hE 0 rfl rfl rfl [0, 1] (by decide) rfl) rfl rfl hl.1 rfl (lv_room (Nat.le_of_ble_eq_true rfl)) d_Ch_faultOf_40 ⟨Nat.le_of_ble_eq_true rfl, Nat.le_of_ble_eq_true rfl⟩) hP hD hS hA [0, 1] [2, 3] rfl rfl (by decide) (by decide) (fun H locs hP hD hS => ?_)
      have hP : va_P (dC, dI) vwCl [(q_p1, .inr (3, [.ref q_p1_words, .int p1_many])), (q_p1_words, .inl (cI, n_p1_words, .inl f_p1_words)), (q_o, .inr (4, [.ref q_o_loopOf, .ref q_o_loops, .int o_fault, .int o_place, .long o_steps])), (q_o_loops, .inr (2, [.ref q_o_loops_places, .ref q_o_loops_counts, .int o_loops_depth]))] H := hP.sub [2, 3, 0, 1] rfl
      have hD : va_D A [(q_p1, .inr (3, [.ref q_p1_words, .int p1_many])), (q_p1_words, .inl (cI, n_p1_words, .inl f_p1_words)), (q_o, .inr (4, [.ref q_o_loopOf, .ref q_o_loops, .int o_fault, .int o_place, .long o_steps])), (q_o_loops, .inr (2, [.ref q_o_loops_places, .ref q_o_loops_counts, .int o_loops_depth]))] := hD.sub [2, 3, 0, 1] (by decide) rfl
      obtain ⟨r_14, h_13, h⟩ := ch_bind h
      try dsimp only at h
      refine ck_goi (wc := []) (wr := [(q_p1, .inr (3, [.ref q_p1_words, .int p1_many])), (q_p1_words, .inl (cI, n_p1_words, .inl f_p1_words)), (q_o, .inr (4, [.ref q_o_loopOf, .ref q_o_loops, .int o_fault, .int o_place, .long o_steps])), (q_o_loops, .inr (2, [.ref q_o_loops_places, .ref q_o_loops_counts, .int o_loops_depth]))]) (w1 := []) (va_runS (As := [.int r_2, .int r_10, .int r_12]) (rest := []) ⟨hx, hb, hml, hown, hts⟩ (k_Ch_areSourcesWrong l dC dI cI cJ r_2 r_10 r_12 r_14 h_13 _) (va_cwS 3 hts (gw_S tw_368 tw_369 tw_5 tw_370) rfl rfl rfl (by decide +kernel) ⟨Nat.le_of_ble_eq_true rfl, Nat.le_of_ble_eq_true rfl⟩) (ck_preS (wc := []) hK hP hD hS hA hE [] (by decide) rfl) rfl rfl hl.1 rfl (lv_room (Nat.le_of_ble_eq_true rfl)) d_Ch_faultOf_43 ⟨Nat.le_of_ble_eq_true rfl, Nat.le_of_ble_eq_true rfl⟩) hP hD hS hA [] [0, 1, 2, 3] rfl rfl (by decide) (by decide) (fun H locs hP hD hS => ?_)
      have hP : va_P (dC, dI) vwCl [(q_p1, .inr (3, [.ref q_p1_words, .int p1_many])), (q_p1_words, .inl (cI, n_p1_words, .inl f_p1_words)), (q_o, .inr (4, [.ref q_o_loopOf, .ref q_o_loops, .int o_fault, .int o_place, .long o_steps])), (q_o_loops, .inr (2, [.ref q_o_loops_places, .ref q_o_loops_counts, .int o_loops_depth]))] H := hP.sub [0, 1, 2, 3] rfl
      have hD : va_D A [(q_p1, .inr (3, [.ref q_p1_words, .int p1_many])), (q_p1_words, .inl (cI, n_p1_words, .inl f_p1_words)), (q_o, .inr (4, [.ref q_o_loopOf, .ref q_o_loops, .int o_fault, .int o_place, .long o_steps])), (q_o_loops, .inr (2, [.ref q_o_loops_places, .ref q_o_loops_counts, .int o_loops_depth]))] := hD.sub [0, 1, 2, 3] (by decide) rfl
      refine lv_if_eq (tgt := 51) hx hb d_Ch_faultOf_46 (by decide) (fun c_15 => ?_) (fun c_15 => ?_)
      · rw [if_pos c_15] at h
        refine lv_iload hx hb d_Ch_faultOf_51 (lv_at hl 0 rfl) ?_
        refine lv_aload_n hx hb d_Ch_faultOf_53 rfl (lv_at hl 2 rfl) ?_
        refine lv_iload_n hx hb d_Ch_faultOf_54 rfl (lv_at hl 3 rfl) ?_
        obtain ⟨r_17, h_16, h⟩ := ch_bind h
        try dsimp only at h
        refine ck_goi (wc := [(q_p1, .inr (3, [.ref q_p1_words, .int p1_many])), (q_p1_words, .inl (cI, n_p1_words, .inl f_p1_words))]) (wr := [(q_o, .inr (4, [.ref q_o_loopOf, .ref q_o_loops, .int o_fault, .int o_place, .long o_steps])), (q_o_loops, .inr (2, [.ref q_o_loops_places, .ref q_o_loops_counts, .int o_loops_depth]))]) (w1 := [(q_p1, .inr (3, [.ref q_p1_words, .int p1_many])), (q_p1_words, .inl (cI, n_p1_words, .inl f_p1_words))]) (va_runV (As := [.int p2]) (rest := [.int r_2]) ⟨hx, hb, hml, hown, hts⟩ (k_Pr_number l dC dI cI cJ p2 p1_many n_p1_words f_p1_words q_p1 q_p1_words r_17 h_16 _) (cwV 1 hts (gw_V tw_386 tw_387 tw_388 tw_8 tw_389) rfl rfl rfl (by decide +kernel) ⟨Nat.le_of_ble_eq_true rfl, Nat.le_of_ble_eq_true rfl⟩) (ck_preV (wc := [(q_p1, .inr (3, [.ref q_p1_words, .int p1_many])), (q_p1_words, .inl (cI, n_p1_words, .inl f_p1_words))]) hK hP hD hS hA hE 0 rfl rfl rfl [0, 1] (by decide) rfl) rfl rfl hl.1 rfl (lv_room (Nat.le_of_ble_eq_true rfl)) d_Ch_faultOf_55 ⟨Nat.le_of_ble_eq_true rfl, Nat.le_of_ble_eq_true rfl⟩) hP hD hS hA [0, 1] [2, 3] rfl rfl (by decide) (by decide) (fun H locs hP hD hS => ?_)
        have hP : va_P (dC, dI) vwCl [(q_p1, .inr (3, [.ref q_p1_words, .int p1_many])), (q_p1_words, .inl (cI, n_p1_words, .inl f_p1_words)), (q_o, .inr (4, [.ref q_o_loopOf, .ref q_o_loops, .int o_fault, .int o_place, .long o_steps])), (q_o_loops, .inr (2, [.ref q_o_loops_places, .ref q_o_loops_counts, .int o_loops_depth]))] H := hP.sub [2, 3, 0, 1] rfl
        have hD : va_D A [(q_p1, .inr (3, [.ref q_p1_words, .int p1_many])), (q_p1_words, .inl (cI, n_p1_words, .inl f_p1_words)), (q_o, .inr (4, [.ref q_o_loopOf, .ref q_o_loops, .int o_fault, .int o_place, .long o_steps])), (q_o_loops, .inr (2, [.ref q_o_loops_places, .ref q_o_loops_counts, .int o_loops_depth]))] := hD.sub [2, 3, 0, 1] (by decide) rfl
        refine lv_iload_n hx hb d_Ch_faultOf_58 rfl (lv_at hl 3 rfl) ?_
        refine lv_aload_n hx hb d_Ch_faultOf_59 rfl (lv_at hl 2 rfl) ?_
        obtain ⟨r_19, h_18, h⟩ := ch_bind h
        try dsimp only at h
        refine ck_goi (wc := [(q_p1, .inr (3, [.ref q_p1_words, .int p1_many]))]) (wr := [(q_p1_words, .inl (cI, n_p1_words, .inl f_p1_words)), (q_o, .inr (4, [.ref q_o_loopOf, .ref q_o_loops, .int o_fault, .int o_place, .long o_steps])), (q_o_loops, .inr (2, [.ref q_o_loops_places, .ref q_o_loops_counts, .int o_loops_depth]))]) (w1 := [(q_p1, .inr (3, [.ref q_p1_words, .int p1_many]))]) (va_runV (As := []) (rest := [.int p2, .int r_17, .int r_2]) ⟨hx, hb, hml, hown, hts⟩ (k_Pr_many l dC dI cI cJ p1_many q_p1 q_p1_words r_19 h_18 _) (cwV 0 hts (gw_V tw_323 tw_324 tw_325 tw_8 tw_326) rfl rfl rfl (by decide +kernel) ⟨Nat.le_of_ble_eq_true rfl, Nat.le_of_ble_eq_true rfl⟩) (ck_preV (wc := [(q_p1, .inr (3, [.ref q_p1_words, .int p1_many]))]) hK hP hD hS hA hE 0 rfl rfl rfl [0] (by decide) rfl) rfl rfl hl.1 rfl (lv_room (Nat.le_of_ble_eq_true rfl)) d_Ch_faultOf_60 ⟨Nat.le_of_ble_eq_true rfl, Nat.le_of_ble_eq_true rfl⟩) hP hD hS hA [0] [1, 2, 3] rfl rfl (by decide) (by decide) (fun H locs hP hD hS => ?_)
        have hP : va_P (dC, dI) vwCl [(q_p1, .inr (3, [.ref q_p1_words, .int p1_many])), (q_p1_words, .inl (cI, n_p1_words, .inl f_p1_words)), (q_o, .inr (4, [.ref q_o_loopOf, .ref q_o_loops, .int o_fault, .int o_place, .long o_steps])), (q_o_loops, .inr (2, [.ref q_o_loops_places, .ref q_o_loops_counts, .int o_loops_depth]))] H := hP.sub [3, 0, 1, 2] rfl
        have hD : va_D A [(q_p1, .inr (3, [.ref q_p1_words, .int p1_many])), (q_p1_words, .inl (cI, n_p1_words, .inl f_p1_words)), (q_o, .inr (4, [.ref q_o_loopOf, .ref q_o_loops, .int o_fault, .int o_place, .long o_steps])), (q_o_loops, .inr (2, [.ref q_o_loops_places, .ref q_o_loops_counts, .int o_loops_depth]))] := hD.sub [3, 0, 1, 2] (by decide) rfl
        obtain ⟨r_21, h_20, h⟩ := ch_bind h
        try dsimp only at h
        refine ck_goi (wc := []) (wr := [(q_p1, .inr (3, [.ref q_p1_words, .int p1_many])), (q_p1_words, .inl (cI, n_p1_words, .inl f_p1_words)), (q_o, .inr (4, [.ref q_o_loopOf, .ref q_o_loops, .int o_fault, .int o_place, .long o_steps])), (q_o_loops, .inr (2, [.ref q_o_loops_places, .ref q_o_loops_counts, .int o_loops_depth]))]) (w1 := []) (va_runS (As := [.int r_2, .int r_17, .int p2, .int r_19]) (rest := []) ⟨hx, hb, hml, hown, hts⟩ (k_Ch_isNumberWrong l dC dI cI cJ r_2 r_17 p2 r_19 r_21 h_20 _) (va_cwS 4 hts (gw_S tw_390 tw_391 tw_5 tw_392) rfl rfl rfl (by decide +kernel) ⟨Nat.le_of_ble_eq_true rfl, Nat.le_of_ble_eq_true rfl⟩) (ck_preS (wc := []) hK hP hD hS hA hE [] (by decide) rfl) rfl rfl hl.1 rfl (lv_room (Nat.le_of_ble_eq_true rfl)) d_Ch_faultOf_63 ⟨Nat.le_of_ble_eq_true rfl, Nat.le_of_ble_eq_true rfl⟩) hP hD hS hA [] [0, 1, 2, 3] rfl rfl (by decide) (by decide) (fun H locs hP hD hS => ?_)
        have hP : va_P (dC, dI) vwCl [(q_p1, .inr (3, [.ref q_p1_words, .int p1_many])), (q_p1_words, .inl (cI, n_p1_words, .inl f_p1_words)), (q_o, .inr (4, [.ref q_o_loopOf, .ref q_o_loops, .int o_fault, .int o_place, .long o_steps])), (q_o_loops, .inr (2, [.ref q_o_loops_places, .ref q_o_loops_counts, .int o_loops_depth]))] H := hP.sub [0, 1, 2, 3] rfl
        have hD : va_D A [(q_p1, .inr (3, [.ref q_p1_words, .int p1_many])), (q_p1_words, .inl (cI, n_p1_words, .inl f_p1_words)), (q_o, .inr (4, [.ref q_o_loopOf, .ref q_o_loops, .int o_fault, .int o_place, .long o_steps])), (q_o_loops, .inr (2, [.ref q_o_loops_places, .ref q_o_loops_counts, .int o_loops_depth]))] := hD.sub [0, 1, 2, 3] (by decide) rfl
        refine lv_if_eq (tgt := 71) hx hb d_Ch_faultOf_66 (by decide) (fun c_22 => ?_) (fun c_22 => ?_)
        · rw [if_pos c_22] at h
          refine lv_iload hx hb d_Ch_faultOf_71 (lv_at hl 0 rfl) ?_
          refine lv_bipush (v := 35) hx hb d_Ch_faultOf_73 (by decide) ?_
          refine lv_icmp_ne (tgt := 88) hx hb d_Ch_faultOf_75 (by decide) (fun c_23 => ?_) (fun c_23 => ?_)
          · rw [if_neg c_23] at h
            refine lv_iload hx hb d_Ch_faultOf_88 (lv_at hl 0 rfl) ?_
            refine lv_bipush (v := 34) hx hb d_Ch_faultOf_90 (by decide) ?_
            refine lv_icmp_ne (tgt := 107) hx hb d_Ch_faultOf_92 (by decide) (fun c_24 => ?_) (fun c_24 => ?_)
            · rw [if_neg c_24] at h
              refine lv_iload hx hb d_Ch_faultOf_107 (lv_at hl 0 rfl) ?_
              refine lv_if_ne (tgt := 116) hx hb d_Ch_faultOf_109 (by decide) (fun c_25 => ?_) (fun c_25 => ?_)
              · rw [if_neg c_25] at h
                refine lv_iconst (v := 0) hx hb d_Ch_faultOf_116 (by decide) ?_
                refine lv_iload_n hx hb d_Ch_faultOf_117 rfl (lv_at hl 3 rfl) ?_
                refine lv_aload_n hx hb d_Ch_faultOf_118 rfl (lv_at hl 2 rfl) ?_
                obtain ⟨r_27, h_26, h⟩ := ch_bind h
                try dsimp only at h
                refine ck_goi (wc := [(q_p1, .inr (3, [.ref q_p1_words, .int p1_many]))]) (wr := [(q_p1_words, .inl (cI, n_p1_words, .inl f_p1_words)), (q_o, .inr (4, [.ref q_o_loopOf, .ref q_o_loops, .int o_fault, .int o_place, .long o_steps])), (q_o_loops, .inr (2, [.ref q_o_loops_places, .ref q_o_loops_counts, .int o_loops_depth]))]) (w1 := [(q_p1, .inr (3, [.ref q_p1_words, .int p1_many]))]) (va_runV (As := []) (rest := [.int p2, .int (0 : Int32)]) ⟨hx, hb, hml, hown, hts⟩ (k_Pr_many l dC dI cI cJ p1_many q_p1 q_p1_words r_27 h_26 _) (cwV 0 hts (gw_V tw_323 tw_324 tw_325 tw_8 tw_326) rfl rfl rfl (by decide +kernel) ⟨Nat.le_of_ble_eq_true rfl, Nat.le_of_ble_eq_true rfl⟩) (ck_preV (wc := [(q_p1, .inr (3, [.ref q_p1_words, .int p1_many]))]) hK hP hD hS hA hE 0 rfl rfl rfl [0] (by decide) rfl) rfl rfl hl.1 rfl (lv_room (Nat.le_of_ble_eq_true rfl)) d_Ch_faultOf_119 ⟨Nat.le_of_ble_eq_true rfl, Nat.le_of_ble_eq_true rfl⟩) hP hD hS hA [0] [1, 2, 3] rfl rfl (by decide) (by decide) (fun H locs hP hD hS => ?_)
                have hP : va_P (dC, dI) vwCl [(q_p1, .inr (3, [.ref q_p1_words, .int p1_many])), (q_p1_words, .inl (cI, n_p1_words, .inl f_p1_words)), (q_o, .inr (4, [.ref q_o_loopOf, .ref q_o_loops, .int o_fault, .int o_place, .long o_steps])), (q_o_loops, .inr (2, [.ref q_o_loops_places, .ref q_o_loops_counts, .int o_loops_depth]))] H := hP.sub [3, 0, 1, 2] rfl
                have hD : va_D A [(q_p1, .inr (3, [.ref q_p1_words, .int p1_many])), (q_p1_words, .inl (cI, n_p1_words, .inl f_p1_words)), (q_o, .inr (4, [.ref q_o_loopOf, .ref q_o_loops, .int o_fault, .int o_place, .long o_steps])), (q_o_loops, .inr (2, [.ref q_o_loops_places, .ref q_o_loops_counts, .int o_loops_depth]))] := hD.sub [3, 0, 1, 2] (by decide) rfl
                refine lv_iconst (v := 1) hx hb d_Ch_faultOf_122 (by decide) ?_
                refine lv_isub hx hb d_Ch_faultOf_123 ?_
                refine lv_icmp_ne (tgt := 131) hx hb d_Ch_faultOf_124 (by decide) (fun c_28 => ?_) (fun c_28 => ?_)
                · rw [if_neg c_28] at h
                  refine lv_iconst (v := 0) hx hb d_Ch_faultOf_131 (by decide) ?_
                  refine lv_icmp_eq (tgt := 138) hx hb d_Ch_faultOf_132 (by decide) (fun _ => ?_) (fun c9 => absurd (by decide) c9)
                  refine lv_iload hx hb d_Ch_faultOf_138 (lv_at hl 0 rfl) ?_
                  refine lv_bipush (v := 38) hx hb d_Ch_faultOf_140 (by decide) ?_
                  refine lv_icmp_ne (tgt := 154) hx hb d_Ch_faultOf_142 (by decide) (fun c_29 => ?_) (fun c_29 => ?_)
                  · rw [if_neg c_29] at h
                    refine lv_iconst (v := 0) hx hb d_Ch_faultOf_154 (by decide) ?_
                    cases h
                    exact ck_iret hx hb hr hlk hK hP hD hS d_Ch_faultOf_155
                  · rw [if_pos c_29] at h
                    refine lv_iload_n hx hb d_Ch_faultOf_145 rfl (lv_at hl 4 rfl) ?_
                    refine lv_if_ne (tgt := 154) hx hb d_Ch_faultOf_146 (by decide) (fun c_30 => ?_) (fun c_30 => ?_)
                    · rw [if_neg c_30] at h
                      refine lv_iconst (v := 0) hx hb d_Ch_faultOf_154 (by decide) ?_
                      cases h
                      exact ck_iret hx hb hr hlk hK hP hD hS d_Ch_faultOf_155
                    · rw [if_pos c_30] at h
                      refine lv_bipush (v := 7) hx hb d_Ch_faultOf_149 (by decide) ?_
                      refine lv_goto (tgt := 155) hx hb d_Ch_faultOf_151 (by decide) ?_
                      cases h
                      exact ck_iret hx hb hr hlk hK hP hD hS d_Ch_faultOf_155
                · rw [if_pos c_28] at h
                  refine lv_iconst (v := 1) hx hb d_Ch_faultOf_127 (by decide) ?_
                  refine lv_goto (tgt := 132) hx hb d_Ch_faultOf_128 (by decide) ?_
                  refine lv_icmp_eq (tgt := 138) hx hb d_Ch_faultOf_132 (by decide) (fun c9 => absurd c9 (by decide)) (fun _ => ?_)
                  refine lv_bipush (v := 6) hx hb d_Ch_faultOf_135 (by decide) ?_
                  cases h
                  exact ck_iret hx hb hr hlk hK hP hD hS d_Ch_faultOf_137
              · rw [if_pos c_25] at h
                refine lv_iconst (v := 1) hx hb d_Ch_faultOf_112 (by decide) ?_
                refine lv_goto (tgt := 117) hx hb d_Ch_faultOf_113 (by decide) ?_
                refine lv_iload_n hx hb d_Ch_faultOf_117 rfl (lv_at hl 3 rfl) ?_
                refine lv_aload_n hx hb d_Ch_faultOf_118 rfl (lv_at hl 2 rfl) ?_
                obtain ⟨r_32, h_31, h⟩ := ch_bind h
                try dsimp only at h
                refine ck_goi (wc := [(q_p1, .inr (3, [.ref q_p1_words, .int p1_many]))]) (wr := [(q_p1_words, .inl (cI, n_p1_words, .inl f_p1_words)), (q_o, .inr (4, [.ref q_o_loopOf, .ref q_o_loops, .int o_fault, .int o_place, .long o_steps])), (q_o_loops, .inr (2, [.ref q_o_loops_places, .ref q_o_loops_counts, .int o_loops_depth]))]) (w1 := [(q_p1, .inr (3, [.ref q_p1_words, .int p1_many]))]) (va_runV (As := []) (rest := [.int p2, .int (1 : Int32)]) ⟨hx, hb, hml, hown, hts⟩ (k_Pr_many l dC dI cI cJ p1_many q_p1 q_p1_words r_32 h_31 _) (cwV 0 hts (gw_V tw_323 tw_324 tw_325 tw_8 tw_326) rfl rfl rfl (by decide +kernel) ⟨Nat.le_of_ble_eq_true rfl, Nat.le_of_ble_eq_true rfl⟩) (ck_preV (wc := [(q_p1, .inr (3, [.ref q_p1_words, .int p1_many]))]) hK hP hD hS hA hE 0 rfl rfl rfl [0] (by decide) rfl) rfl rfl hl.1 rfl (lv_room (Nat.le_of_ble_eq_true rfl)) d_Ch_faultOf_119 ⟨Nat.le_of_ble_eq_true rfl, Nat.le_of_ble_eq_true rfl⟩) hP hD hS hA [0] [1, 2, 3] rfl rfl (by decide) (by decide) (fun H locs hP hD hS => ?_)
                have hP : va_P (dC, dI) vwCl [(q_p1, .inr (3, [.ref q_p1_words, .int p1_many])), (q_p1_words, .inl (cI, n_p1_words, .inl f_p1_words)), (q_o, .inr (4, [.ref q_o_loopOf, .ref q_o_loops, .int o_fault, .int o_place, .long o_steps])), (q_o_loops, .inr (2, [.ref q_o_loops_places, .ref q_o_loops_counts, .int o_loops_depth]))] H := hP.sub [3, 0, 1, 2] rfl
                have hD : va_D A [(q_p1, .inr (3, [.ref q_p1_words, .int p1_many])), (q_p1_words, .inl (cI, n_p1_words, .inl f_p1_words)), (q_o, .inr (4, [.ref q_o_loopOf, .ref q_o_loops, .int o_fault, .int o_place, .long o_steps])), (q_o_loops, .inr (2, [.ref q_o_loops_places, .ref q_o_loops_counts, .int o_loops_depth]))] := hD.sub [3, 0, 1, 2] (by decide) rfl
                refine lv_iconst (v := 1) hx hb d_Ch_faultOf_122 (by decide) ?_
                refine lv_isub hx hb d_Ch_faultOf_123 ?_
                refine lv_icmp_ne (tgt := 131) hx hb d_Ch_faultOf_124 (by decide) (fun c_33 => ?_) (fun c_33 => ?_)
                · rw [if_neg c_33] at h
                  refine lv_iconst (v := 0) hx hb d_Ch_faultOf_131 (by decide) ?_
                  refine lv_icmp_eq (tgt := 138) hx hb d_Ch_faultOf_132 (by decide) (fun c9 => absurd c9 (by decide)) (fun _ => ?_)
                  refine lv_bipush (v := 6) hx hb d_Ch_faultOf_135 (by decide) ?_
                  cases h
                  exact ck_iret hx hb hr hlk hK hP hD hS d_Ch_faultOf_137
                · rw [if_pos c_33] at h
                  refine lv_iconst (v := 1) hx hb d_Ch_faultOf_127 (by decide) ?_
                  refine lv_goto (tgt := 132) hx hb d_Ch_faultOf_128 (by decide) ?_
                  refine lv_icmp_eq (tgt := 138) hx hb d_Ch_faultOf_132 (by decide) (fun _ => ?_) (fun c9 => absurd (by decide) c9)
                  refine lv_iload hx hb d_Ch_faultOf_138 (lv_at hl 0 rfl) ?_
                  refine lv_bipush (v := 38) hx hb d_Ch_faultOf_140 (by decide) ?_
                  refine lv_icmp_ne (tgt := 154) hx hb d_Ch_faultOf_142 (by decide) (fun c_34 => ?_) (fun c_34 => ?_)
                  · rw [if_neg c_34] at h
                    refine lv_iconst (v := 0) hx hb d_Ch_faultOf_154 (by decide) ?_
                    cases h
                    exact ck_iret hx hb hr hlk hK hP hD hS d_Ch_faultOf_155
                  · rw [if_pos c_34] at h
                    refine lv_iload_n hx hb d_Ch_faultOf_145 rfl (lv_at hl 4 rfl) ?_
                    refine lv_if_ne (tgt := 154) hx hb d_Ch_faultOf_146 (by decide) (fun c_35 => ?_) (fun c_35 => ?_)
                    · rw [if_neg c_35] at h
                      refine lv_iconst (v := 0) hx hb d_Ch_faultOf_154 (by decide) ?_
                      cases h
                      exact ck_iret hx hb hr hlk hK hP hD hS d_Ch_faultOf_155
                    · rw [if_pos c_35] at h
                      refine lv_bipush (v := 7) hx hb d_Ch_faultOf_149 (by decide) ?_
                      refine lv_goto (tgt := 155) hx hb d_Ch_faultOf_151 (by decide) ?_
                      cases h
                      exact ck_iret hx hb hr hlk hK hP hD hS d_Ch_faultOf_155
            · rw [if_pos c_24] at h
              refine lv_aload_n hx hb d_Ch_faultOf_95 rfl (lv_at hl 1 rfl) ?_
              refine va_get (D := (dC, dI)) (ci := 4) (v := .ref q_o_loops) (C := R_Ch) (T := T_Ch) (N := 5) hx hb hts (iw_Ch _) hown hK hP 2 rfl rfl 1 (by decide) (hts (.fieldLink R_Ch 20 "ShaderMachine$Check" "loops" "LShaderMachine$Loops;") (List.mem_cons_of_mem _ tw_107)) (fun _ h9 => h9) rfl d_Ch_faultOf_96 ?_
              obtain ⟨r_37, h_36, h⟩ := ch_bind h
              try dsimp only at h
              refine ck_goi (wc := [(q_o_loops, .inr (2, [.ref q_o_loops_places, .ref q_o_loops_counts, .int o_loops_depth]))]) (wr := [(q_p1, .inr (3, [.ref q_p1_words, .int p1_many])), (q_p1_words, .inl (cI, n_p1_words, .inl f_p1_words)), (q_o, .inr (4, [.ref q_o_loopOf, .ref q_o_loops, .int o_fault, .int o_place, .long o_steps]))]) (w1 := [(q_o_loops, .inr (2, [.ref q_o_loops_places, .ref q_o_loops_counts, .int o_loops_depth]))]) (va_runV (As := []) (rest := []) ⟨hx, hb, hml, hown, hts⟩ (k_Lo_isFull l dC dI cI cJ o_loops_depth q_o_loops q_o_loops_places q_o_loops_counts r_37 h_36 _) (cwV 0 hts (gw_V tw_403 tw_404 tw_405 tw_6 tw_406) rfl rfl rfl (by decide +kernel) ⟨Nat.le_of_ble_eq_true rfl, Nat.le_of_ble_eq_true rfl⟩) (ck_preV (wc := [(q_o_loops, .inr (2, [.ref q_o_loops_places, .ref q_o_loops_counts, .int o_loops_depth]))]) hK hP hD hS hA hE 3 rfl rfl rfl [3] (by decide) rfl) rfl rfl hl.1 rfl (lv_room (Nat.le_of_ble_eq_true rfl)) d_Ch_faultOf_99 ⟨Nat.le_of_ble_eq_true rfl, Nat.le_of_ble_eq_true rfl⟩) hP hD hS hA [3] [0, 1, 2] rfl rfl (by decide) (by decide) (fun H locs hP hD hS => ?_)
              have hP : va_P (dC, dI) vwCl [(q_p1, .inr (3, [.ref q_p1_words, .int p1_many])), (q_p1_words, .inl (cI, n_p1_words, .inl f_p1_words)), (q_o, .inr (4, [.ref q_o_loopOf, .ref q_o_loops, .int o_fault, .int o_place, .long o_steps])), (q_o_loops, .inr (2, [.ref q_o_loops_places, .ref q_o_loops_counts, .int o_loops_depth]))] H := hP.sub [0, 1, 2, 3] rfl
              have hD : va_D A [(q_p1, .inr (3, [.ref q_p1_words, .int p1_many])), (q_p1_words, .inl (cI, n_p1_words, .inl f_p1_words)), (q_o, .inr (4, [.ref q_o_loopOf, .ref q_o_loops, .int o_fault, .int o_place, .long o_steps])), (q_o_loops, .inr (2, [.ref q_o_loops_places, .ref q_o_loops_counts, .int o_loops_depth]))] := hD.sub [0, 1, 2, 3] (by decide) rfl
              refine lv_if_eq (tgt := 107) hx hb d_Ch_faultOf_102 (by decide) (fun c_38 => ?_) (fun c_38 => ?_)
              · rw [if_pos c_38] at h
                refine lv_iload hx hb d_Ch_faultOf_107 (lv_at hl 0 rfl) ?_
                refine lv_if_ne (tgt := 116) hx hb d_Ch_faultOf_109 (by decide) (fun c_39 => ?_) (fun c_39 => ?_)
                · rw [if_neg c_39] at h
                  refine lv_iconst (v := 0) hx hb d_Ch_faultOf_116 (by decide) ?_
                  refine lv_iload_n hx hb d_Ch_faultOf_117 rfl (lv_at hl 3 rfl) ?_
                  refine lv_aload_n hx hb d_Ch_faultOf_118 rfl (lv_at hl 2 rfl) ?_
                  obtain ⟨r_41, h_40, h⟩ := ch_bind h
                  try dsimp only at h
                  refine ck_goi (wc := [(q_p1, .inr (3, [.ref q_p1_words, .int p1_many]))]) (wr := [(q_p1_words, .inl (cI, n_p1_words, .inl f_p1_words)), (q_o, .inr (4, [.ref q_o_loopOf, .ref q_o_loops, .int o_fault, .int o_place, .long o_steps])), (q_o_loops, .inr (2, [.ref q_o_loops_places, .ref q_o_loops_counts, .int o_loops_depth]))]) (w1 := [(q_p1, .inr (3, [.ref q_p1_words, .int p1_many]))]) (va_runV (As := []) (rest := [.int p2, .int (0 : Int32)]) ⟨hx, hb, hml, hown, hts⟩ (k_Pr_many l dC dI cI cJ p1_many q_p1 q_p1_words r_41 h_40 _) (cwV 0 hts (gw_V tw_323 tw_324 tw_325 tw_8 tw_326) rfl rfl rfl (by decide +kernel) ⟨Nat.le_of_ble_eq_true rfl, Nat.le_of_ble_eq_true rfl⟩) (ck_preV (wc := [(q_p1, .inr (3, [.ref q_p1_words, .int p1_many]))]) hK hP hD hS hA hE 0 rfl rfl rfl [0] (by decide) rfl) rfl rfl hl.1 rfl (lv_room (Nat.le_of_ble_eq_true rfl)) d_Ch_faultOf_119 ⟨Nat.le_of_ble_eq_true rfl, Nat.le_of_ble_eq_true rfl⟩) hP hD hS hA [0] [1, 2, 3] rfl rfl (by decide) (by decide) (fun H locs hP hD hS => ?_)
                  have hP : va_P (dC, dI) vwCl [(q_p1, .inr (3, [.ref q_p1_words, .int p1_many])), (q_p1_words, .inl (cI, n_p1_words, .inl f_p1_words)), (q_o, .inr (4, [.ref q_o_loopOf, .ref q_o_loops, .int o_fault, .int o_place, .long o_steps])), (q_o_loops, .inr (2, [.ref q_o_loops_places, .ref q_o_loops_counts, .int o_loops_depth]))] H := hP.sub [3, 0, 1, 2] rfl
                  have hD : va_D A [(q_p1, .inr (3, [.ref q_p1_words, .int p1_many])), (q_p1_words, .inl (cI, n_p1_words, .inl f_p1_words)), (q_o, .inr (4, [.ref q_o_loopOf, .ref q_o_loops, .int o_fault, .int o_place, .long o_steps])), (q_o_loops, .inr (2, [.ref q_o_loops_places, .ref q_o_loops_counts, .int o_loops_depth]))] := hD.sub [3, 0, 1, 2] (by decide) rfl
                  refine lv_iconst (v := 1) hx hb d_Ch_faultOf_122 (by decide) ?_
                  refine lv_isub hx hb d_Ch_faultOf_123 ?_
                  refine lv_icmp_ne (tgt := 131) hx hb d_Ch_faultOf_124 (by decide) (fun c_42 => ?_) (fun c_42 => ?_)
                  · rw [if_neg c_42] at h
                    refine lv_iconst (v := 0) hx hb d_Ch_faultOf_131 (by decide) ?_
                    refine lv_icmp_eq (tgt := 138) hx hb d_Ch_faultOf_132 (by decide) (fun _ => ?_) (fun c9 => absurd (by decide) c9)
                    refine lv_iload hx hb d_Ch_faultOf_138 (lv_at hl 0 rfl) ?_
                    refine lv_bipush (v := 38) hx hb d_Ch_faultOf_140 (by decide) ?_
                    refine lv_icmp_ne (tgt := 154) hx hb d_Ch_faultOf_142 (by decide) (fun c_43 => ?_) (fun c_43 => ?_)
                    · rw [if_neg c_43] at h
                      refine lv_iconst (v := 0) hx hb d_Ch_faultOf_154 (by decide) ?_
                      cases h
                      exact ck_iret hx hb hr hlk hK hP hD hS d_Ch_faultOf_155
                    · rw [if_pos c_43] at h
                      refine lv_iload_n hx hb d_Ch_faultOf_145 rfl (lv_at hl 4 rfl) ?_
                      refine lv_if_ne (tgt := 154) hx hb d_Ch_faultOf_146 (by decide) (fun c_44 => ?_) (fun c_44 => ?_)
                      · rw [if_neg c_44] at h
                        refine lv_iconst (v := 0) hx hb d_Ch_faultOf_154 (by decide) ?_
                        cases h
                        exact ck_iret hx hb hr hlk hK hP hD hS d_Ch_faultOf_155
                      · rw [if_pos c_44] at h
                        refine lv_bipush (v := 7) hx hb d_Ch_faultOf_149 (by decide) ?_
                        refine lv_goto (tgt := 155) hx hb d_Ch_faultOf_151 (by decide) ?_
                        cases h
                        exact ck_iret hx hb hr hlk hK hP hD hS d_Ch_faultOf_155
                  · rw [if_pos c_42] at h
                    refine lv_iconst (v := 1) hx hb d_Ch_faultOf_127 (by decide) ?_
                    refine lv_goto (tgt := 132) hx hb d_Ch_faultOf_128 (by decide) ?_
                    refine lv_icmp_eq (tgt := 138) hx hb d_Ch_faultOf_132 (by decide) (fun c9 => absurd c9 (by decide)) (fun _ => ?_)
                    refine lv_bipush (v := 6) hx hb d_Ch_faultOf_135 (by decide) ?_
                    cases h
                    exact ck_iret hx hb hr hlk hK hP hD hS d_Ch_faultOf_137
                · rw [if_pos c_39] at h
                  refine lv_iconst (v := 1) hx hb d_Ch_faultOf_112 (by decide) ?_
                  refine lv_goto (tgt := 117) hx hb d_Ch_faultOf_113 (by decide) ?_
                  refine lv_iload_n hx hb d_Ch_faultOf_117 rfl (lv_at hl 3 rfl) ?_
                  refine lv_aload_n hx hb d_Ch_faultOf_118 rfl (lv_at hl 2 rfl) ?_
                  obtain ⟨r_46, h_45, h⟩ := ch_bind h
                  try dsimp only at h
                  refine ck_goi (wc := [(q_p1, .inr (3, [.ref q_p1_words, .int p1_many]))]) (wr := [(q_p1_words, .inl (cI, n_p1_words, .inl f_p1_words)), (q_o, .inr (4, [.ref q_o_loopOf, .ref q_o_loops, .int o_fault, .int o_place, .long o_steps])), (q_o_loops, .inr (2, [.ref q_o_loops_places, .ref q_o_loops_counts, .int o_loops_depth]))]) (w1 := [(q_p1, .inr (3, [.ref q_p1_words, .int p1_many]))]) (va_runV (As := []) (rest := [.int p2, .int (1 : Int32)]) ⟨hx, hb, hml, hown, hts⟩ (k_Pr_many l dC dI cI cJ p1_many q_p1 q_p1_words r_46 h_45 _) (cwV 0 hts (gw_V tw_323 tw_324 tw_325 tw_8 tw_326) rfl rfl rfl (by decide +kernel) ⟨Nat.le_of_ble_eq_true rfl, Nat.le_of_ble_eq_true rfl⟩) (ck_preV (wc := [(q_p1, .inr (3, [.ref q_p1_words, .int p1_many]))]) hK hP hD hS hA hE 0 rfl rfl rfl [0] (by decide) rfl) rfl rfl hl.1 rfl (lv_room (Nat.le_of_ble_eq_true rfl)) d_Ch_faultOf_119 ⟨Nat.le_of_ble_eq_true rfl, Nat.le_of_ble_eq_true rfl⟩) hP hD hS hA [0] [1, 2, 3] rfl rfl (by decide) (by decide) (fun H locs hP hD hS => ?_)
                  have hP : va_P (dC, dI) vwCl [(q_p1, .inr (3, [.ref q_p1_words, .int p1_many])), (q_p1_words, .inl (cI, n_p1_words, .inl f_p1_words)), (q_o, .inr (4, [.ref q_o_loopOf, .ref q_o_loops, .int o_fault, .int o_place, .long o_steps])), (q_o_loops, .inr (2, [.ref q_o_loops_places, .ref q_o_loops_counts, .int o_loops_depth]))] H := hP.sub [3, 0, 1, 2] rfl
                  have hD : va_D A [(q_p1, .inr (3, [.ref q_p1_words, .int p1_many])), (q_p1_words, .inl (cI, n_p1_words, .inl f_p1_words)), (q_o, .inr (4, [.ref q_o_loopOf, .ref q_o_loops, .int o_fault, .int o_place, .long o_steps])), (q_o_loops, .inr (2, [.ref q_o_loops_places, .ref q_o_loops_counts, .int o_loops_depth]))] := hD.sub [3, 0, 1, 2] (by decide) rfl
                  refine lv_iconst (v := 1) hx hb d_Ch_faultOf_122 (by decide) ?_
                  refine lv_isub hx hb d_Ch_faultOf_123 ?_
                  refine lv_icmp_ne (tgt := 131) hx hb d_Ch_faultOf_124 (by decide) (fun c_47 => ?_) (fun c_47 => ?_)
                  · rw [if_neg c_47] at h
                    refine lv_iconst (v := 0) hx hb d_Ch_faultOf_131 (by decide) ?_
                    refine lv_icmp_eq (tgt := 138) hx hb d_Ch_faultOf_132 (by decide) (fun c9 => absurd c9 (by decide)) (fun _ => ?_)
                    refine lv_bipush (v := 6) hx hb d_Ch_faultOf_135 (by decide) ?_
                    cases h
                    exact ck_iret hx hb hr hlk hK hP hD hS d_Ch_faultOf_137
                  · rw [if_pos c_47] at h
                    refine lv_iconst (v := 1) hx hb d_Ch_faultOf_127 (by decide) ?_
                    refine lv_goto (tgt := 132) hx hb d_Ch_faultOf_128 (by decide) ?_
                    refine lv_icmp_eq (tgt := 138) hx hb d_Ch_faultOf_132 (by decide) (fun _ => ?_) (fun c9 => absurd (by decide) c9)
                    refine lv_iload hx hb d_Ch_faultOf_138 (lv_at hl 0 rfl) ?_
                    refine lv_bipush (v := 38) hx hb d_Ch_faultOf_140 (by decide) ?_
                    refine lv_icmp_ne (tgt := 154) hx hb d_Ch_faultOf_142 (by decide) (fun c_48 => ?_) (fun c_48 => ?_)
                    · rw [if_neg c_48] at h
                      refine lv_iconst (v := 0) hx hb d_Ch_faultOf_154 (by decide) ?_
                      cases h
                      exact ck_iret hx hb hr hlk hK hP hD hS d_Ch_faultOf_155
                    · rw [if_pos c_48] at h
                      refine lv_iload_n hx hb d_Ch_faultOf_145 rfl (lv_at hl 4 rfl) ?_
                      refine lv_if_ne (tgt := 154) hx hb d_Ch_faultOf_146 (by decide) (fun c_49 => ?_) (fun c_49 => ?_)
                      · rw [if_neg c_49] at h
                        refine lv_iconst (v := 0) hx hb d_Ch_faultOf_154 (by decide) ?_
                        cases h
                        exact ck_iret hx hb hr hlk hK hP hD hS d_Ch_faultOf_155
                      · rw [if_pos c_49] at h
                        refine lv_bipush (v := 7) hx hb d_Ch_faultOf_149 (by decide) ?_
                        refine lv_goto (tgt := 155) hx hb d_Ch_faultOf_151 (by decide) ?_
                        cases h
                        exact ck_iret hx hb hr hlk hK hP hD hS d_Ch_faultOf_155
              · rw [if_neg c_38] at h
                refine lv_iconst (v := 5) hx hb d_Ch_faultOf_105 (by decide) ?_
                cases h
                exact ck_iret hx hb hr hlk hK hP hD hS d_Ch_faultOf_106
          · rw [if_pos c_23] at h
            refine lv_aload_n hx hb d_Ch_faultOf_78 rfl (lv_at hl 1 rfl) ?_
            refine va_get (D := (dC, dI)) (ci := 4) (v := .ref q_o_loops) (C := R_Ch) (T := T_Ch) (N := 5) hx hb hts (iw_Ch _) hown hK hP 2 rfl rfl 1 (by decide) (hts (.fieldLink R_Ch 20 "ShaderMachine$Check" "loops" "LShaderMachine$Loops;") (List.mem_cons_of_mem _ tw_107)) (fun _ h9 => h9) rfl d_Ch_faultOf_79 ?_
            obtain ⟨r_51, h_50, h⟩ := ch_bind h
            try dsimp only at h
            refine ck_goi (wc := [(q_o_loops, .inr (2, [.ref q_o_loops_places, .ref q_o_loops_counts, .int o_loops_depth]))]) (wr := [(q_p1, .inr (3, [.ref q_p1_words, .int p1_many])), (q_p1_words, .inl (cI, n_p1_words, .inl f_p1_words)), (q_o, .inr (4, [.ref q_o_loopOf, .ref q_o_loops, .int o_fault, .int o_place, .long o_steps]))]) (w1 := [(q_o_loops, .inr (2, [.ref q_o_loops_places, .ref q_o_loops_counts, .int o_loops_depth]))]) (va_runV (As := []) (rest := []) ⟨hx, hb, hml, hown, hts⟩ (k_Lo_isEmpty l dC dI cI cJ o_loops_depth q_o_loops q_o_loops_places q_o_loops_counts r_51 h_50 _) (cwV 0 hts (gw_V tw_399 tw_400 tw_401 tw_6 tw_402) rfl rfl rfl (by decide +kernel) ⟨Nat.le_of_ble_eq_true rfl, Nat.le_of_ble_eq_true rfl⟩) (ck_preV (wc := [(q_o_loops, .inr (2, [.ref q_o_loops_places, .ref q_o_loops_counts, .int o_loops_depth]))]) hK hP hD hS hA hE 3 rfl rfl rfl [3] (by decide) rfl) rfl rfl hl.1 rfl (lv_room (Nat.le_of_ble_eq_true rfl)) d_Ch_faultOf_82 ⟨Nat.le_of_ble_eq_true rfl, Nat.le_of_ble_eq_true rfl⟩) hP hD hS hA [3] [0, 1, 2] rfl rfl (by decide) (by decide) (fun H locs hP hD hS => ?_)
            have hP : va_P (dC, dI) vwCl [(q_p1, .inr (3, [.ref q_p1_words, .int p1_many])), (q_p1_words, .inl (cI, n_p1_words, .inl f_p1_words)), (q_o, .inr (4, [.ref q_o_loopOf, .ref q_o_loops, .int o_fault, .int o_place, .long o_steps])), (q_o_loops, .inr (2, [.ref q_o_loops_places, .ref q_o_loops_counts, .int o_loops_depth]))] H := hP.sub [0, 1, 2, 3] rfl
            have hD : va_D A [(q_p1, .inr (3, [.ref q_p1_words, .int p1_many])), (q_p1_words, .inl (cI, n_p1_words, .inl f_p1_words)), (q_o, .inr (4, [.ref q_o_loopOf, .ref q_o_loops, .int o_fault, .int o_place, .long o_steps])), (q_o_loops, .inr (2, [.ref q_o_loops_places, .ref q_o_loops_counts, .int o_loops_depth]))] := hD.sub [0, 1, 2, 3] (by decide) rfl
            refine lv_if_ne (tgt := 105) hx hb d_Ch_faultOf_85 (by decide) (fun c_52 => ?_) (fun c_52 => ?_)
            · rw [if_neg c_52] at h
              refine lv_iconst (v := 5) hx hb d_Ch_faultOf_105 (by decide) ?_
              cases h
              exact ck_iret hx hb hr hlk hK hP hD hS d_Ch_faultOf_106
            · rw [if_pos c_52] at h
              refine lv_iload hx hb d_Ch_faultOf_88 (lv_at hl 0 rfl) ?_
              refine lv_bipush (v := 34) hx hb d_Ch_faultOf_90 (by decide) ?_
              refine lv_icmp_ne (tgt := 107) hx hb d_Ch_faultOf_92 (by decide) (fun c_53 => ?_) (fun c_53 => ?_)
              · rw [if_neg c_53] at h
                refine lv_iload hx hb d_Ch_faultOf_107 (lv_at hl 0 rfl) ?_
                refine lv_if_ne (tgt := 116) hx hb d_Ch_faultOf_109 (by decide) (fun c_54 => ?_) (fun c_54 => ?_)
                · rw [if_neg c_54] at h
                  refine lv_iconst (v := 0) hx hb d_Ch_faultOf_116 (by decide) ?_
                  refine lv_iload_n hx hb d_Ch_faultOf_117 rfl (lv_at hl 3 rfl) ?_
                  refine lv_aload_n hx hb d_Ch_faultOf_118 rfl (lv_at hl 2 rfl) ?_
                  obtain ⟨r_56, h_55, h⟩ := ch_bind h
                  try dsimp only at h
                  refine ck_goi (wc := [(q_p1, .inr (3, [.ref q_p1_words, .int p1_many]))]) (wr := [(q_p1_words, .inl (cI, n_p1_words, .inl f_p1_words)), (q_o, .inr (4, [.ref q_o_loopOf, .ref q_o_loops, .int o_fault, .int o_place, .long o_steps])), (q_o_loops, .inr (2, [.ref q_o_loops_places, .ref q_o_loops_counts, .int o_loops_depth]))]) (w1 := [(q_p1, .inr (3, [.ref q_p1_words, .int p1_many]))]) (va_runV (As := []) (rest := [.int p2, .int (0 : Int32)]) ⟨hx, hb, hml, hown, hts⟩ (k_Pr_many l dC dI cI cJ p1_many q_p1 q_p1_words r_56 h_55 _) (cwV 0 hts (gw_V tw_323 tw_324 tw_325 tw_8 tw_326) rfl rfl rfl (by decide +kernel) ⟨Nat.le_of_ble_eq_true rfl, Nat.le_of_ble_eq_true rfl⟩) (ck_preV (wc := [(q_p1, .inr (3, [.ref q_p1_words, .int p1_many]))]) hK hP hD hS hA hE 0 rfl rfl rfl [0] (by decide) rfl) rfl rfl hl.1 rfl (lv_room (Nat.le_of_ble_eq_true rfl)) d_Ch_faultOf_119 ⟨Nat.le_of_ble_eq_true rfl, Nat.le_of_ble_eq_true rfl⟩) hP hD hS hA [0] [1, 2, 3] rfl rfl (by decide) (by decide) (fun H locs hP hD hS => ?_)
                  have hP : va_P (dC, dI) vwCl [(q_p1, .inr (3, [.ref q_p1_words, .int p1_many])), (q_p1_words, .inl (cI, n_p1_words, .inl f_p1_words)), (q_o, .inr (4, [.ref q_o_loopOf, .ref q_o_loops, .int o_fault, .int o_place, .long o_steps])), (q_o_loops, .inr (2, [.ref q_o_loops_places, .ref q_o_loops_counts, .int o_loops_depth]))] H := hP.sub [3, 0, 1, 2] rfl
                  have hD : va_D A [(q_p1, .inr (3, [.ref q_p1_words, .int p1_many])), (q_p1_words, .inl (cI, n_p1_words, .inl f_p1_words)), (q_o, .inr (4, [.ref q_o_loopOf, .ref q_o_loops, .int o_fault, .int o_place, .long o_steps])), (q_o_loops, .inr (2, [.ref q_o_loops_places, .ref q_o_loops_counts, .int o_loops_depth]))] := hD.sub [3, 0, 1, 2] (by decide) rfl
                  refine lv_iconst (v := 1) hx hb d_Ch_faultOf_122 (by decide) ?_
                  refine lv_isub hx hb d_Ch_faultOf_123 ?_
                  refine lv_icmp_ne (tgt := 131) hx hb d_Ch_faultOf_124 (by decide) (fun c_57 => ?_) (fun c_57 => ?_)
                  · rw [if_neg c_57] at h
                    refine lv_iconst (v := 0) hx hb d_Ch_faultOf_131 (by decide) ?_
                    refine lv_icmp_eq (tgt := 138) hx hb d_Ch_faultOf_132 (by decide) (fun _ => ?_) (fun c9 => absurd (by decide) c9)
                    refine lv_iload hx hb d_Ch_faultOf_138 (lv_at hl 0 rfl) ?_
                    refine lv_bipush (v := 38) hx hb d_Ch_faultOf_140 (by decide) ?_
                    refine lv_icmp_ne (tgt := 154) hx hb d_Ch_faultOf_142 (by decide) (fun c_58 => ?_) (fun c_58 => ?_)
                    · rw [if_neg c_58] at h
                      refine lv_iconst (v := 0) hx hb d_Ch_faultOf_154 (by decide) ?_
                      cases h
                      exact ck_iret hx hb hr hlk hK hP hD hS d_Ch_faultOf_155
                    · rw [if_pos c_58] at h
                      refine lv_iload_n hx hb d_Ch_faultOf_145 rfl (lv_at hl 4 rfl) ?_
                      refine lv_if_ne (tgt := 154) hx hb d_Ch_faultOf_146 (by decide) (fun c_59 => ?_) (fun c_59 => ?_)
                      · rw [if_neg c_59] at h
                        refine lv_iconst (v := 0) hx hb d_Ch_faultOf_154 (by decide) ?_
                        cases h
                        exact ck_iret hx hb hr hlk hK hP hD hS d_Ch_faultOf_155
                      · rw [if_pos c_59] at h
                        refine lv_bipush (v := 7) hx hb d_Ch_faultOf_149 (by decide) ?_
                        refine lv_goto (tgt := 155) hx hb d_Ch_faultOf_151 (by decide) ?_
                        cases h
                        exact ck_iret hx hb hr hlk hK hP hD hS d_Ch_faultOf_155
                  · rw [if_pos c_57] at h
                    refine lv_iconst (v := 1) hx hb d_Ch_faultOf_127 (by decide) ?_
                    refine lv_goto (tgt := 132) hx hb d_Ch_faultOf_128 (by decide) ?_
                    refine lv_icmp_eq (tgt := 138) hx hb d_Ch_faultOf_132 (by decide) (fun c9 => absurd c9 (by decide)) (fun _ => ?_)
                    refine lv_bipush (v := 6) hx hb d_Ch_faultOf_135 (by decide) ?_
                    cases h
                    exact ck_iret hx hb hr hlk hK hP hD hS d_Ch_faultOf_137
                · rw [if_pos c_54] at h
                  refine lv_iconst (v := 1) hx hb d_Ch_faultOf_112 (by decide) ?_
                  refine lv_goto (tgt := 117) hx hb d_Ch_faultOf_113 (by decide) ?_
                  refine lv_iload_n hx hb d_Ch_faultOf_117 rfl (lv_at hl 3 rfl) ?_
                  refine lv_aload_n hx hb d_Ch_faultOf_118 rfl (lv_at hl 2 rfl) ?_
                  obtain ⟨r_61, h_60, h⟩ := ch_bind h
                  try dsimp only at h
                  refine ck_goi (wc := [(q_p1, .inr (3, [.ref q_p1_words, .int p1_many]))]) (wr := [(q_p1_words, .inl (cI, n_p1_words, .inl f_p1_words)), (q_o, .inr (4, [.ref q_o_loopOf, .ref q_o_loops, .int o_fault, .int o_place, .long o_steps])), (q_o_loops, .inr (2, [.ref q_o_loops_places, .ref q_o_loops_counts, .int o_loops_depth]))]) (w1 := [(q_p1, .inr (3, [.ref q_p1_words, .int p1_many]))]) (va_runV (As := []) (rest := [.int p2, .int (1 : Int32)]) ⟨hx, hb, hml, hown, hts⟩ (k_Pr_many l dC dI cI cJ p1_many q_p1 q_p1_words r_61 h_60 _) (cwV 0 hts (gw_V tw_323 tw_324 tw_325 tw_8 tw_326) rfl rfl rfl (by decide +kernel) ⟨Nat.le_of_ble_eq_true rfl, Nat.le_of_ble_eq_true rfl⟩) (ck_preV (wc := [(q_p1, .inr (3, [.ref q_p1_words, .int p1_many]))]) hK hP hD hS hA hE 0 rfl rfl rfl [0] (by decide) rfl) rfl rfl hl.1 rfl (lv_room (Nat.le_of_ble_eq_true rfl)) d_Ch_faultOf_119 ⟨Nat.le_of_ble_eq_true rfl, Nat.le_of_ble_eq_true rfl⟩) hP hD hS hA [0] [1, 2, 3] rfl rfl (by decide) (by decide) (fun H locs hP hD hS => ?_)
                  have hP : va_P (dC, dI) vwCl [(q_p1, .inr (3, [.ref q_p1_words, .int p1_many])), (q_p1_words, .inl (cI, n_p1_words, .inl f_p1_words)), (q_o, .inr (4, [.ref q_o_loopOf, .ref q_o_loops, .int o_fault, .int o_place, .long o_steps])), (q_o_loops, .inr (2, [.ref q_o_loops_places, .ref q_o_loops_counts, .int o_loops_depth]))] H := hP.sub [3, 0, 1, 2] rfl
                  have hD : va_D A [(q_p1, .inr (3, [.ref q_p1_words, .int p1_many])), (q_p1_words, .inl (cI, n_p1_words, .inl f_p1_words)), (q_o, .inr (4, [.ref q_o_loopOf, .ref q_o_loops, .int o_fault, .int o_place, .long o_steps])), (q_o_loops, .inr (2, [.ref q_o_loops_places, .ref q_o_loops_counts, .int o_loops_depth]))] := hD.sub [3, 0, 1, 2] (by decide) rfl
                  refine lv_iconst (v := 1) hx hb d_Ch_faultOf_122 (by decide) ?_
                  refine lv_isub hx hb d_Ch_faultOf_123 ?_
                  refine lv_icmp_ne (tgt := 131) hx hb d_Ch_faultOf_124 (by decide) (fun c_62 => ?_) (fun c_62 => ?_)
                  · rw [if_neg c_62] at h
                    refine lv_iconst (v := 0) hx hb d_Ch_faultOf_131 (by decide) ?_
                    refine lv_icmp_eq (tgt := 138) hx hb d_Ch_faultOf_132 (by decide) (fun c9 => absurd c9 (by decide)) (fun _ => ?_)
                    refine lv_bipush (v := 6) hx hb d_Ch_faultOf_135 (by decide) ?_
                    cases h
                    exact ck_iret hx hb hr hlk hK hP hD hS d_Ch_faultOf_137
                  · rw [if_pos c_62] at h
                    refine lv_iconst (v := 1) hx hb d_Ch_faultOf_127 (by decide) ?_
                    refine lv_goto (tgt := 132) hx hb d_Ch_faultOf_128 (by decide) ?_
                    refine lv_icmp_eq (tgt := 138) hx hb d_Ch_faultOf_132 (by decide) (fun _ => ?_) (fun c9 => absurd (by decide) c9)
                    refine lv_iload hx hb d_Ch_faultOf_138 (lv_at hl 0 rfl) ?_
                    refine lv_bipush (v := 38) hx hb d_Ch_faultOf_140 (by decide) ?_
                    refine lv_icmp_ne (tgt := 154) hx hb d_Ch_faultOf_142 (by decide) (fun c_63 => ?_) (fun c_63 => ?_)
                    · rw [if_neg c_63] at h
                      refine lv_iconst (v := 0) hx hb d_Ch_faultOf_154 (by decide) ?_
                      cases h
                      exact ck_iret hx hb hr hlk hK hP hD hS d_Ch_faultOf_155
                    · rw [if_pos c_63] at h
                      refine lv_iload_n hx hb d_Ch_faultOf_145 rfl (lv_at hl 4 rfl) ?_
                      refine lv_if_ne (tgt := 154) hx hb d_Ch_faultOf_146 (by decide) (fun c_64 => ?_) (fun c_64 => ?_)
                      · rw [if_neg c_64] at h
                        refine lv_iconst (v := 0) hx hb d_Ch_faultOf_154 (by decide) ?_
                        cases h
                        exact ck_iret hx hb hr hlk hK hP hD hS d_Ch_faultOf_155
                      · rw [if_pos c_64] at h
                        refine lv_bipush (v := 7) hx hb d_Ch_faultOf_149 (by decide) ?_
                        refine lv_goto (tgt := 155) hx hb d_Ch_faultOf_151 (by decide) ?_
                        cases h
                        exact ck_iret hx hb hr hlk hK hP hD hS d_Ch_faultOf_155
              · rw [if_pos c_53] at h
                refine lv_aload_n hx hb d_Ch_faultOf_95 rfl (lv_at hl 1 rfl) ?_
                refine va_get (D := (dC, dI)) (ci := 4) (v := .ref q_o_loops) (C := R_Ch) (T := T_Ch) (N := 5) hx hb hts (iw_Ch _) hown hK hP 2 rfl rfl 1 (by decide) (hts (.fieldLink R_Ch 20 "ShaderMachine$Check" "loops" "LShaderMachine$Loops;") (List.mem_cons_of_mem _ tw_107)) (fun _ h9 => h9) rfl d_Ch_faultOf_96 ?_
                obtain ⟨r_66, h_65, h⟩ := ch_bind h
                try dsimp only at h
                refine ck_goi (wc := [(q_o_loops, .inr (2, [.ref q_o_loops_places, .ref q_o_loops_counts, .int o_loops_depth]))]) (wr := [(q_p1, .inr (3, [.ref q_p1_words, .int p1_many])), (q_p1_words, .inl (cI, n_p1_words, .inl f_p1_words)), (q_o, .inr (4, [.ref q_o_loopOf, .ref q_o_loops, .int o_fault, .int o_place, .long o_steps]))]) (w1 := [(q_o_loops, .inr (2, [.ref q_o_loops_places, .ref q_o_loops_counts, .int o_loops_depth]))]) (va_runV (As := []) (rest := []) ⟨hx, hb, hml, hown, hts⟩ (k_Lo_isFull l dC dI cI cJ o_loops_depth q_o_loops q_o_loops_places q_o_loops_counts r_66 h_65 _) (cwV 0 hts (gw_V tw_403 tw_404 tw_405 tw_6 tw_406) rfl rfl rfl (by decide +kernel) ⟨Nat.le_of_ble_eq_true rfl, Nat.le_of_ble_eq_true rfl⟩) (ck_preV (wc := [(q_o_loops, .inr (2, [.ref q_o_loops_places, .ref q_o_loops_counts, .int o_loops_depth]))]) hK hP hD hS hA hE 3 rfl rfl rfl [3] (by decide) rfl) rfl rfl hl.1 rfl (lv_room (Nat.le_of_ble_eq_true rfl)) d_Ch_faultOf_99 ⟨Nat.le_of_ble_eq_true rfl, Nat.le_of_ble_eq_true rfl⟩) hP hD hS hA [3] [0, 1, 2] rfl rfl (by decide) (by decide) (fun H locs hP hD hS => ?_)
                have hP : va_P (dC, dI) vwCl [(q_p1, .inr (3, [.ref q_p1_words, .int p1_many])), (q_p1_words, .inl (cI, n_p1_words, .inl f_p1_words)), (q_o, .inr (4, [.ref q_o_loopOf, .ref q_o_loops, .int o_fault, .int o_place, .long o_steps])), (q_o_loops, .inr (2, [.ref q_o_loops_places, .ref q_o_loops_counts, .int o_loops_depth]))] H := hP.sub [0, 1, 2, 3] rfl
                have hD : va_D A [(q_p1, .inr (3, [.ref q_p1_words, .int p1_many])), (q_p1_words, .inl (cI, n_p1_words, .inl f_p1_words)), (q_o, .inr (4, [.ref q_o_loopOf, .ref q_o_loops, .int o_fault, .int o_place, .long o_steps])), (q_o_loops, .inr (2, [.ref q_o_loops_places, .ref q_o_loops_counts, .int o_loops_depth]))] := hD.sub [0, 1, 2, 3] (by decide) rfl
                refine lv_if_eq (tgt := 107) hx hb d_Ch_faultOf_102 (by decide) (fun c_67 => ?_) (fun c_67 => ?_)
                · rw [if_pos c_67] at h
                  refine lv_iload hx hb d_Ch_faultOf_107 (lv_at hl 0 rfl) ?_
                  refine lv_if_ne (tgt := 116) hx hb d_Ch_faultOf_109 (by decide) (fun c_68 => ?_) (fun c_68 => ?_)
                  · rw [if_neg c_68] at h
                    refine lv_iconst (v := 0) hx hb d_Ch_faultOf_116 (by decide) ?_
                    refine lv_iload_n hx hb d_Ch_faultOf_117 rfl (lv_at hl 3 rfl) ?_
                    refine lv_aload_n hx hb d_Ch_faultOf_118 rfl (lv_at hl 2 rfl) ?_
                    obtain ⟨r_70, h_69, h⟩ := ch_bind h
                    try dsimp only at h
                    refine ck_goi (wc := [(q_p1, .inr (3, [.ref q_p1_words, .int p1_many]))]) (wr := [(q_p1_words, .inl (cI, n_p1_words, .inl f_p1_words)), (q_o, .inr (4, [.ref q_o_loopOf, .ref q_o_loops, .int o_fault, .int o_place, .long o_steps])), (q_o_loops, .inr (2, [.ref q_o_loops_places, .ref q_o_loops_counts, .int o_loops_depth]))]) (w1 := [(q_p1, .inr (3, [.ref q_p1_words, .int p1_many]))]) (va_runV (As := []) (rest := [.int p2, .int (0 : Int32)]) ⟨hx, hb, hml, hown, hts⟩ (k_Pr_many l dC dI cI cJ p1_many q_p1 q_p1_words r_70 h_69 _) (cwV 0 hts (gw_V tw_323 tw_324 tw_325 tw_8 tw_326) rfl rfl rfl (by decide +kernel) ⟨Nat.le_of_ble_eq_true rfl, Nat.le_of_ble_eq_true rfl⟩) (ck_preV (wc := [(q_p1, .inr (3, [.ref q_p1_words, .int p1_many]))]) hK hP hD hS hA hE 0 rfl rfl rfl [0] (by decide) rfl) rfl rfl hl.1 rfl (lv_room (Nat.le_of_ble_eq_true rfl)) d_Ch_faultOf_119 ⟨Nat.le_of_ble_eq_true rfl, Nat.le_of_ble_eq_true rfl⟩) hP hD hS hA [0] [1, 2, 3] rfl rfl (by decide) (by decide) (fun H locs hP hD hS => ?_)
                    have hP : va_P (dC, dI) vwCl [(q_p1, .inr (3, [.ref q_p1_words, .int p1_many])), (q_p1_words, .inl (cI, n_p1_words, .inl f_p1_words)), (q_o, .inr (4, [.ref q_o_loopOf, .ref q_o_loops, .int o_fault, .int o_place, .long o_steps])), (q_o_loops, .inr (2, [.ref q_o_loops_places, .ref q_o_loops_counts, .int o_loops_depth]))] H := hP.sub [3, 0, 1, 2] rfl
                    have hD : va_D A [(q_p1, .inr (3, [.ref q_p1_words, .int p1_many])), (q_p1_words, .inl (cI, n_p1_words, .inl f_p1_words)), (q_o, .inr (4, [.ref q_o_loopOf, .ref q_o_loops, .int o_fault, .int o_place, .long o_steps])), (q_o_loops, .inr (2, [.ref q_o_loops_places, .ref q_o_loops_counts, .int o_loops_depth]))] := hD.sub [3, 0, 1, 2] (by decide) rfl
                    refine lv_iconst (v := 1) hx hb d_Ch_faultOf_122 (by decide) ?_
                    refine lv_isub hx hb d_Ch_faultOf_123 ?_
                    refine lv_icmp_ne (tgt := 131) hx hb d_Ch_faultOf_124 (by decide) (fun c_71 => ?_) (fun c_71 => ?_)
                    · rw [if_neg c_71] at h
                      refine lv_iconst (v := 0) hx hb d_Ch_faultOf_131 (by decide) ?_
                      refine lv_icmp_eq (tgt := 138) hx hb d_Ch_faultOf_132 (by decide) (fun _ => ?_) (fun c9 => absurd (by decide) c9)
                      refine lv_iload hx hb d_Ch_faultOf_138 (lv_at hl 0 rfl) ?_
                      refine lv_bipush (v := 38) hx hb d_Ch_faultOf_140 (by decide) ?_
                      refine lv_icmp_ne (tgt := 154) hx hb d_Ch_faultOf_142 (by decide) (fun c_72 => ?_) (fun c_72 => ?_)
                      · rw [if_neg c_72] at h
                        refine lv_iconst (v := 0) hx hb d_Ch_faultOf_154 (by decide) ?_
                        cases h
                        exact ck_iret hx hb hr hlk hK hP hD hS d_Ch_faultOf_155
                      · rw [if_pos c_72] at h
                        refine lv_iload_n hx hb d_Ch_faultOf_145 rfl (lv_at hl 4 rfl) ?_
                        refine lv_if_ne (tgt := 154) hx hb d_Ch_faultOf_146 (by decide) (fun c_73 => ?_) (fun c_73 => ?_)
                        · rw [if_neg c_73] at h
                          refine lv_iconst (v := 0) hx hb d_Ch_faultOf_154 (by decide) ?_
                          cases h
                          exact ck_iret hx hb hr hlk hK hP hD hS d_Ch_faultOf_155
                        · rw [if_pos c_73] at h
                          refine lv_bipush (v := 7) hx hb d_Ch_faultOf_149 (by decide) ?_
                          refine lv_goto (tgt := 155) hx hb d_Ch_faultOf_151 (by decide) ?_
                          cases h
                          exact ck_iret hx hb hr hlk hK hP hD hS d_Ch_faultOf_155
                    · rw [if_pos c_71] at h
                      refine lv_iconst (v := 1) hx hb d_Ch_faultOf_127 (by decide) ?_
                      refine lv_goto (tgt := 132) hx hb d_Ch_faultOf_128 (by decide) ?_
                      refine lv_icmp_eq (tgt := 138) hx hb d_Ch_faultOf_132 (by decide) (fun c9 => absurd c9 (by decide)) (fun _ => ?_)
                      refine lv_bipush (v := 6) hx hb d_Ch_faultOf_135 (by decide) ?_
                      cases h
                      exact ck_iret hx hb hr hlk hK hP hD hS d_Ch_faultOf_137
                  · rw [if_pos c_68] at h
                    refine lv_iconst (v := 1) hx hb d_Ch_faultOf_112 (by decide) ?_
                    refine lv_goto (tgt := 117) hx hb d_Ch_faultOf_113 (by decide) ?_
                    refine lv_iload_n hx hb d_Ch_faultOf_117 rfl (lv_at hl 3 rfl) ?_
                    refine lv_aload_n hx hb d_Ch_faultOf_118 rfl (lv_at hl 2 rfl) ?_
                    obtain ⟨r_75, h_74, h⟩ := ch_bind h
                    try dsimp only at h
                    refine ck_goi (wc := [(q_p1, .inr (3, [.ref q_p1_words, .int p1_many]))]) (wr := [(q_p1_words, .inl (cI, n_p1_words, .inl f_p1_words)), (q_o, .inr (4, [.ref q_o_loopOf, .ref q_o_loops, .int o_fault, .int o_place, .long o_steps])), (q_o_loops, .inr (2, [.ref q_o_loops_places, .ref q_o_loops_counts, .int o_loops_depth]))]) (w1 := [(q_p1, .inr (3, [.ref q_p1_words, .int p1_many]))]) (va_runV (As := []) (rest := [.int p2, .int (1 : Int32)]) ⟨hx, hb, hml, hown, hts⟩ (k_Pr_many l dC dI cI cJ p1_many q_p1 q_p1_words r_75 h_74 _) (cwV 0 hts (gw_V tw_323 tw_324 tw_325 tw_8 tw_326) rfl rfl rfl (by decide +kernel) ⟨Nat.le_of_ble_eq_true rfl, Nat.le_of_ble_eq_true rfl⟩) (ck_preV (wc := [(q_p1, .inr (3, [.ref q_p1_words, .int p1_many]))]) hK hP hD hS hA hE 0 rfl rfl rfl [0] (by decide) rfl) rfl rfl hl.1 rfl (lv_room (Nat.le_of_ble_eq_true rfl)) d_Ch_faultOf_119 ⟨Nat.le_of_ble_eq_true rfl, Nat.le_of_ble_eq_true rfl⟩) hP hD hS hA [0] [1, 2, 3] rfl rfl (by decide) (by decide) (fun H locs hP hD hS => ?_)
                    have hP : va_P (dC, dI) vwCl [(q_p1, .inr (3, [.ref q_p1_words, .int p1_many])), (q_p1_words, .inl (cI, n_p1_words, .inl f_p1_words)), (q_o, .inr (4, [.ref q_o_loopOf, .ref q_o_loops, .int o_fault, .int o_place, .long o_steps])), (q_o_loops, .inr (2, [.ref q_o_loops_places, .ref q_o_loops_counts, .int o_loops_depth]))] H := hP.sub [3, 0, 1, 2] rfl
                    have hD : va_D A [(q_p1, .inr (3, [.ref q_p1_words, .int p1_many])), (q_p1_words, .inl (cI, n_p1_words, .inl f_p1_words)), (q_o, .inr (4, [.ref q_o_loopOf, .ref q_o_loops, .int o_fault, .int o_place, .long o_steps])), (q_o_loops, .inr (2, [.ref q_o_loops_places, .ref q_o_loops_counts, .int o_loops_depth]))] := hD.sub [3, 0, 1, 2] (by decide) rfl
                    refine lv_iconst (v := 1) hx hb d_Ch_faultOf_122 (by decide) ?_
                    refine lv_isub hx hb d_Ch_faultOf_123 ?_
                    refine lv_icmp_ne (tgt := 131) hx hb d_Ch_faultOf_124 (by decide) (fun c_76 => ?_) (fun c_76 => ?_)
                    · rw [if_neg c_76] at h
                      refine lv_iconst (v := 0) hx hb d_Ch_faultOf_131 (by decide) ?_
                      refine lv_icmp_eq (tgt := 138) hx hb d_Ch_faultOf_132 (by decide) (fun c9 => absurd c9 (by decide)) (fun _ => ?_)
                      refine lv_bipush (v := 6) hx hb d_Ch_faultOf_135 (by decide) ?_
                      cases h
                      exact ck_iret hx hb hr hlk hK hP hD hS d_Ch_faultOf_137
                    · rw [if_pos c_76] at h
                      refine lv_iconst (v := 1) hx hb d_Ch_faultOf_127 (by decide) ?_
                      refine lv_goto (tgt := 132) hx hb d_Ch_faultOf_128 (by decide) ?_
                      refine lv_icmp_eq (tgt := 138) hx hb d_Ch_faultOf_132 (by decide) (fun _ => ?_) (fun c9 => absurd (by decide) c9)
                      refine lv_iload hx hb d_Ch_faultOf_138 (lv_at hl 0 rfl) ?_
                      refine lv_bipush (v := 38) hx hb d_Ch_faultOf_140 (by decide) ?_
                      refine lv_icmp_ne (tgt := 154) hx hb d_Ch_faultOf_142 (by decide) (fun c_77 => ?_) (fun c_77 => ?_)
                      · rw [if_neg c_77] at h
                        refine lv_iconst (v := 0) hx hb d_Ch_faultOf_154 (by decide) ?_
                        cases h
                        exact ck_iret hx hb hr hlk hK hP hD hS d_Ch_faultOf_155
                      · rw [if_pos c_77] at h
                        refine lv_iload_n hx hb d_Ch_faultOf_145 rfl (lv_at hl 4 rfl) ?_
                        refine lv_if_ne (tgt := 154) hx hb d_Ch_faultOf_146 (by decide) (fun c_78 => ?_) (fun c_78 => ?_)
                        · rw [if_neg c_78] at h
                          refine lv_iconst (v := 0) hx hb d_Ch_faultOf_154 (by decide) ?_
                          cases h
                          exact ck_iret hx hb hr hlk hK hP hD hS d_Ch_faultOf_155
                        · rw [if_pos c_78] at h
                          refine lv_bipush (v := 7) hx hb d_Ch_faultOf_149 (by decide) ?_
                          refine lv_goto (tgt := 155) hx hb d_Ch_faultOf_151 (by decide) ?_
                          cases h
                          exact ck_iret hx hb hr hlk hK hP hD hS d_Ch_faultOf_155
                · rw [if_neg c_67] at h
                  refine lv_iconst (v := 5) hx hb d_Ch_faultOf_105 (by decide) ?_
                  cases h
                  exact ck_iret hx hb hr hlk hK hP hD hS d_Ch_faultOf_106
        · rw [if_neg c_22] at h
          refine lv_iconst (v := 4) hx hb d_Ch_faultOf_69 (by decide) ?_
          cases h
          exact ck_iret hx hb hr hlk hK hP hD hS d_Ch_faultOf_70
      · rw [if_neg c_15] at h
        refine lv_iconst (v := 3) hx hb d_Ch_faultOf_49 (by decide) ?_
        cases h
        exact ck_iret hx hb hr hlk hK hP hD hS d_Ch_faultOf_50
    · rw [if_neg c_8] at h
      refine lv_iconst (v := 2) hx hb d_Ch_faultOf_29 (by decide) ?_
      cases h
      exact ck_iret hx hb hr hlk hK hP hD hS d_Ch_faultOf_30
  · rw [if_neg c_3] at h
    refine lv_iconst (v := 1) hx hb d_Ch_faultOf_14 (by decide) ?_
    cases h
    exact ck_iret hx hb hr hlk hK hP hD hS d_Ch_faultOf_15
