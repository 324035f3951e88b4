def pf_Fi_product (p1 : Int32) (p2 : Int32) : Option (Int32) :=
  some (((p1.toInt64 * p2.toInt64) >>> ((16 : Int32).toInt64 &&& 63)).toInt32)
set_option maxHeartbeats 4000000 in
set_option maxRecDepth 100000 in
theorem k_Fi_product (l : Launch) (dC : Nat → ClassId) (dI : Nat → Nat → Nat) (cI cJ : ClassId) (p1 : Int32) (p2 : Int32) (r : Int32) (h : pf_Fi_product p1 p2 = some r) : ck_i l y_Fi_product wm_Fi_product ({ frames := 0, cells := 0, slots := 0, locals := 0 } : Room) [.int p1, .int p2] (dC, dI) [(cI, .int), (cJ, .long)] [] r [] := by
  refine ck_ofi (cc := c_Fi_product) (maxL := 2) (ret := (some .int)) (by decide +kernel) rfl ?_
  intro p e s m below meth c A C0 hK hP hD hS hE
  obtain ⟨hx, hb, hr, hml, hown, hts, hlk, hA, hin⟩ := C0
  unfold pf_Fi_product at h
  have hl := lv_entry ([.int p1, .int p2]) (n := 2) (Nat.le_of_ble_eq_true rfl)
  rw [lg_entry_eq]
  generalize (lg_sl ([.int p1, .int p2]) ++ List.replicate (2 - (lg_sl ([.int p1, .int p2])).length) Slot.unset).toArray = ls at hl ⊢
  have hl : lv_has ls 2 [(0, .int p1), (1, .int p2)] := hl
  refine lv_iload_n hx hb d_Fi_product_0 rfl (lv_at hl 0 rfl) ?_
  refine lv_i2l hx hb d_Fi_product_1 rfl ?_
  refine lv_iload_n hx hb d_Fi_product_2 rfl (lv_at hl 1 rfl) ?_
  refine lv_i2l hx hb d_Fi_product_3 rfl ?_
  refine lv_lmul hx hb d_Fi_product_4 ?_
  refine lv_bipush (v := 16) hx hb d_Fi_product_5 (by decide) ?_
  refine lv_lshr hx hb d_Fi_product_7 rfl ?_
  refine lv_l2i hx hb d_Fi_product_8 rfl ?_
  cases h
  exact ck_iret hx hb hr hlk hK hP hD hS d_Fi_product_9
def pf_Ma_floorDiv (p1 : Int64) (p2 : Int64) : Option (Int64) :=
  if ¬ p2 = 0 then (
  if 0 ≤ (lg_cmp (p1 ^^^ p2) (0 : Int64)) then
    some (p1 / p2)
  else
    if (lg_cmp ((p1 / p2) * p2) p1) = 0 then
      some (p1 / p2)
    else
      some ((p1 / p2) - (1 : Int64))) else none
set_option maxHeartbeats 4000000 in
set_option maxRecDepth 100000 in
theorem k_Ma_floorDiv (l : Launch) (dC : Nat → ClassId) (dI : Nat → Nat → Nat) (cI cJ : ClassId) (p1 : Int64) (p2 : Int64) (r : Int64) (h : pf_Ma_floorDiv p1 p2 = some r) : ck_l l y_Ma_floorDiv wm_Ma_floorDiv ({ frames := 0, cells := 0, slots := 0, locals := 0 } : Room) [.long p1, .long p2] (dC, dI) [(cI, .int), (cJ, .long)] [] r [] := by
  refine ck_ofl (cc := c_Ma_floorDiv) (maxL := 6) (ret := (some .long)) (by decide +kernel) rfl ?_
  intro p e s m below meth c A C0 hK hP hD hS hE
  obtain ⟨hx, hb, hr, hml, hown, hts, hlk, hA, hin⟩ := C0
  unfold pf_Ma_floorDiv at h
  have hl := lv_entry ([.long p1, .long p2]) (n := 6) (Nat.le_of_ble_eq_true rfl)
  rw [lg_entry_eq]
  generalize (lg_sl ([.long p1, .long p2]) ++ List.replicate (6 - (lg_sl ([.long p1, .long p2])).length) Slot.unset).toArray = ls at hl ⊢
  have hl : lv_has ls 6 [(0, .long p1), (2, .long p2)] := hl
  refine lv_lload_n hx hb d_Ma_floorDiv_0 rfl (lv_at hl 0 rfl) ?_
  refine lv_lload_n hx hb d_Ma_floorDiv_1 rfl (lv_at hl 1 rfl) ?_
  obtain ⟨c_1, h⟩ := ch_ite h
  refine lv_ldiv hx hb d_Ma_floorDiv_2 c_1 ?_
  refine lv_lstore (lv' := [(4, .long (p1 / p2)), (0, .long p1), (2, .long p2)]) hx hb d_Ma_floorDiv_3 hl (by decide) rfl (fun ls hl => ?_)
  refine lv_lload_n hx hb d_Ma_floorDiv_5 rfl (lv_at hl 1 rfl) ?_
  refine lv_lload_n hx hb d_Ma_floorDiv_6 rfl (lv_at hl 2 rfl) ?_
  refine lv_lxor hx hb d_Ma_floorDiv_7 ?_
  refine lv_lconst (v := 0) hx hb d_Ma_floorDiv_8 (by decide) ?_
  refine W.lcmp hx hb d_Ma_floorDiv_9 ?_
  refine lv_if_ge (tgt := 27) hx hb d_Ma_floorDiv_10 (by decide) (fun c_2 => ?_) (fun c_2 => ?_)
  · rw [if_pos c_2] at h
    refine lv_lload hx hb d_Ma_floorDiv_27 (lv_at hl 0 rfl) ?_
    cases h
    exact ck_lret hx hb hr hlk hK hP hD hS d_Ma_floorDiv_29
  · rw [if_neg c_2] at h
    refine lv_lload hx hb d_Ma_floorDiv_13 (lv_at hl 0 rfl) ?_
    refine lv_lload_n hx hb d_Ma_floorDiv_15 rfl (lv_at hl 2 rfl) ?_
    refine lv_lmul hx hb d_Ma_floorDiv_16 ?_
    refine lv_lload_n hx hb d_Ma_floorDiv_17 rfl (lv_at hl 1 rfl) ?_
    refine W.lcmp hx hb d_Ma_floorDiv_18 ?_
    refine lv_if_eq (tgt := 27) hx hb d_Ma_floorDiv_19 (by decide) (fun c_3 => ?_) (fun c_3 => ?_)
    · rw [if_pos c_3] at h
      refine lv_lload hx hb d_Ma_floorDiv_27 (lv_at hl 0 rfl) ?_
      cases h
      exact ck_lret hx hb hr hlk hK hP hD hS d_Ma_floorDiv_29
    · rw [if_neg c_3] at h
      refine lv_lload hx hb d_Ma_floorDiv_22 (lv_at hl 0 rfl) ?_
      refine lv_lconst (v := 1) hx hb d_Ma_floorDiv_24 (by decide) ?_
      refine lv_lsub hx hb d_Ma_floorDiv_25 ?_
      cases h
      exact ck_lret hx hb hr hlk hK hP hD hS d_Ma_floorDiv_26
def pf_Ma_min_JJJ (p1 : Int64) (p2 : Int64) : Option (Int64) :=
  if 0 < (lg_cmp p1 p2) then
    some p2
  else
    some p1
set_option maxHeartbeats 4000000 in
set_option maxRecDepth 100000 in
theorem k_Ma_min_JJJ (l : Launch) (dC : Nat → ClassId) (dI : Nat → Nat → Nat) (cI cJ : ClassId) (p1 : Int64) (p2 : Int64) (r : Int64) (h : pf_Ma_min_JJJ p1 p2 = some r) : ck_l l y_Ma_min_JJJ wm_Ma_min_JJJ ({ frames := 0, cells := 0, slots := 0, locals := 0 } : Room) [.long p1, .long p2] (dC, dI) [(cI, .int), (cJ, .long)] [] r [] := by
  refine ck_ofl (cc := c_Ma_min_JJJ) (maxL := 4) (ret := (some .long)) (by decide +kernel) rfl ?_
  intro p e s m below meth c A C0 hK hP hD hS hE
  obtain ⟨hx, hb, hr, hml, hown, hts, hlk, hA, hin⟩ := C0
  unfold pf_Ma_min_JJJ at h
  have hl := lv_entry ([.long p1, .long p2]) (n := 4) (Nat.le_of_ble_eq_true rfl)
  rw [lg_entry_eq]
  generalize (lg_sl ([.long p1, .long p2]) ++ List.replicate (4 - (lg_sl ([.long p1, .long p2])).length) Slot.unset).toArray = ls at hl ⊢
  have hl : lv_has ls 4 [(0, .long p1), (2, .long p2)] := hl
  refine lv_lload_n hx hb d_Ma_min_JJJ_0 rfl (lv_at hl 0 rfl) ?_
  refine lv_lload_n hx hb d_Ma_min_JJJ_1 rfl (lv_at hl 1 rfl) ?_
  refine W.lcmp hx hb d_Ma_min_JJJ_2 ?_
  refine lv_if_gt (tgt := 10) hx hb d_Ma_min_JJJ_3 (by decide) (fun c_1 => ?_) (fun c_1 => ?_)
  · rw [if_pos c_1] at h
    refine lv_lload_n hx hb d_Ma_min_JJJ_10 rfl (lv_at hl 1 rfl) ?_
    cases h
    exact ck_lret hx hb hr hlk hK hP hD hS d_Ma_min_JJJ_11
  · rw [if_neg c_1] at h
    refine lv_lload_n hx hb d_Ma_min_JJJ_6 rfl (lv_at hl 0 rfl) ?_
    refine lv_goto (tgt := 11) hx hb d_Ma_min_JJJ_7 (by decide) ?_
    cases h
    exact ck_lret hx hb hr hlk hK hP hD hS d_Ma_min_JJJ_11
def pf_Ma_max_JJJ (p1 : Int64) (p2 : Int64) : Option (Int64) :=
  if (lg_cmp p1 p2) < 0 then
    some p2
  else
    some p1
set_option maxHeartbeats 4000000 in
set_option maxRecDepth 100000 in
theorem k_Ma_max_JJJ (l : Launch) (dC : Nat → ClassId) (dI : Nat → Nat → Nat) (cI cJ : ClassId) (p1 : Int64) (p2 : Int64) (r : Int64) (h : pf_Ma_max_JJJ p1 p2 = some r) : ck_l l y_Ma_max_JJJ wm_Ma_max_JJJ ({ frames := 0, cells := 0, slots := 0, locals := 0 } : Room) [.long p1, .long p2] (dC, dI) [(cI, .int), (cJ, .long)] [] r [] := by
  refine ck_ofl (cc := c_Ma_max_JJJ) (maxL := 4) (ret := (some .long)) (by decide +kernel) rfl ?_
  intro p e s m below meth c A C0 hK hP hD hS hE
  obtain ⟨hx, hb, hr, hml, hown, hts, hlk, hA, hin⟩ := C0
  unfold pf_Ma_max_JJJ at h
  have hl := lv_entry ([.long p1, .long p2]) (n := 4) (Nat.le_of_ble_eq_true rfl)
  rw [lg_entry_eq]
  generalize (lg_sl ([.long p1, .long p2]) ++ List.replicate (4 - (lg_sl ([.long p1, .long p2])).length) Slot.unset).toArray = ls at hl ⊢
  have hl : lv_has ls 4 [(0, .long p1), (2, .long p2)] := hl
  refine lv_lload_n hx hb d_Ma_max_JJJ_0 rfl (lv_at hl 0 rfl) ?_
  refine lv_lload_n hx hb d_Ma_max_JJJ_1 rfl (lv_at hl 1 rfl) ?_
  refine W.lcmp hx hb d_Ma_max_JJJ_2 ?_
  refine lv_if_lt (tgt := 10) hx hb d_Ma_max_JJJ_3 (by decide) (fun c_1 => ?_) (fun c_1 => ?_)
  · rw [if_pos c_1] at h
    refine lv_lload_n hx hb d_Ma_max_JJJ_10 rfl (lv_at hl 1 rfl) ?_
    cases h
    exact ck_lret hx hb hr hlk hK hP hD hS d_Ma_max_JJJ_11
  · rw [if_neg c_1] at h
    refine lv_lload_n hx hb d_Ma_max_JJJ_6 rfl (lv_at hl 0 rfl) ?_
    refine lv_goto (tgt := 11) hx hb d_Ma_max_JJJ_7 (by decide) ?_
    cases h
    exact ck_lret hx hb hr hlk hK hP hD hS d_Ma_max_JJJ_11
def pf_Fi_reciprocal (p1 : Int32) : Option (Int32) :=
  if p1 = 0 then
    some (2147483647 : Int32)
  else
    Option.bind (pf_Ma_floorDiv (4294967296 : Int64) p1.toInt64) (fun r_3 => 
    Option.bind (pf_Ma_min_JJJ (2147483647 : Int64) r_3) (fun r_5 => 
    Option.bind (pf_Ma_max_JJJ (-2147483648 : Int64) r_5) (fun r_7 => 
    some r_7.toInt32)))
set_option maxHeartbeats 4000000 in
set_option maxRecDepth 100000 in
theorem k_Fi_reciprocal (l : Launch) (dC : Nat → ClassId) (dI : Nat → Nat → Nat) (cI cJ : ClassId) (p1 : Int32) (r : Int32) (h : pf_Fi_reciprocal p1 = some r) : ck_i l y_Fi_reciprocal wm_Fi_reciprocal ({ frames := 1, cells := 0, slots := 0, locals := 25 } : Room) [.int p1] (dC, dI) [(cI, .int), (cJ, .long)] [] r [] := by
  refine ck_ofi (cc := c_Fi_reciprocal) (maxL := 3) (ret := (some .int)) (by decide +kernel) rfl ?_
  intro p e s m below meth c A C0 hK hP hD hS hE
  obtain ⟨hx, hb, hr, hml, hown, hts, hlk, hA, hin⟩ := C0
  unfold pf_Fi_reciprocal at h
  have hl := lv_entry ([.int p1]) (n := 3) (Nat.le_of_ble_eq_true rfl)
  rw [lg_entry_eq]
  generalize (lg_sl ([.int p1]) ++ List.replicate (3 - (lg_sl ([.int p1])).length) Slot.unset).toArray = ls at hl ⊢
  have hl : lv_has ls 3 [(0, .int p1)] := hl
  refine lv_iload_n hx hb d_Fi_reciprocal_0 rfl (lv_at hl 0 rfl) ?_
  refine lv_if_ne (tgt := 7) hx hb d_Fi_reciprocal_1 (by decide) (fun c_1 => ?_) (fun c_1 => ?_)
  · rw [if_neg c_1] at h
    refine lv_ldc2 (v := 4294967296) hx hb hown (hts (.constantLong R_Fi 10 (4294967296)) (by decide +kernel)) d_Fi_reciprocal_7 ?_
    refine lv_iload_n hx hb d_Fi_reciprocal_10 rfl (lv_at hl 0 rfl) ?_
    refine lv_i2l hx hb d_Fi_reciprocal_11 rfl ?_
    obtain ⟨r_3, h_2, h⟩ := ch_bind h
    try dsimp only at h
    refine ck_gol (wc := []) (wr := []) (w1 := []) (va_runS (As := [.long (4294967296 : Int64), .long p1.toInt64]) (rest := []) ⟨hx, hb, hml, hown, hts⟩ (k_Ma_floorDiv l dC dI cI cJ (4294967296 : Int64) p1.toInt64 r_3 h_2 _) (va_cwS 2 hts (gw_S tw_616 tw_617 tw_4 tw_618) rfl rfl rfl (by decide +kernel) ⟨Nat.le_of_ble_eq_true rfl, Nat.le_of_ble_eq_true rfl⟩) (ck_preS (wc := []) hK hP hD hS hA hE [] (by decide) rfl) rfl rfl hl.1 rfl (lv_room (Nat.le_of_ble_eq_true rfl)) d_Fi_reciprocal_12 ⟨Nat.le_of_ble_eq_true rfl, Nat.le_of_ble_eq_true rfl⟩) hP hD hS hA [] [] rfl rfl (by decide) (by decide) (fun H locs hP hD hS => ?_)
    have hP : va_P (dC, dI) vwCl [] H := hP.sub [] rfl
    have hD : va_D A [] := hD.sub [] (by decide) rfl
    refine lv_lstore_n (lv' := [(1, .long r_3), (0, .int p1)]) hx hb d_Fi_reciprocal_15 rfl hl (by decide) rfl (fun ls hl => ?_)
    refine lv_ldc2 (v := -2147483648) hx hb hown (hts (.constantLong R_Fi 18 (-2147483648)) (by decide +kernel)) d_Fi_reciprocal_16 ?_
    refine lv_ldc2 (v := 2147483647) hx hb hown (hts (.constantLong R_Fi 20 (2147483647)) (by decide +kernel)) d_Fi_reciprocal_19 ?_
    refine lv_lload_n hx hb d_Fi_reciprocal_22 rfl (lv_at hl 0 rfl) ?_
    obtain ⟨r_5, h_4, h⟩ := ch_bind h
    try dsimp only at h
    refine ck_gol (wc := []) (wr := []) (w1 := []) (va_runS (As := [.long (2147483647 : Int64), .long r_3]) (rest := [.long (-2147483648 : Int64)]) ⟨hx, hb, hml, hown, hts⟩ (k_Ma_min_JJJ l dC dI cI cJ (2147483647 : Int64) r_3 r_5 h_4 _) (va_cwS 2 hts (gw_S tw_621 tw_461 tw_4 tw_462) rfl rfl rfl (by decide +kernel) ⟨Nat.le_of_ble_eq_true rfl, Nat.le_of_ble_eq_true rfl⟩) (ck_preS (wc := []) hK hP hD hS hA hE [] (by decide) rfl) rfl rfl hl.1 rfl (lv_room (Nat.le_of_ble_eq_true rfl)) d_Fi_reciprocal_23 ⟨Nat.le_of_ble_eq_true rfl, Nat.le_of_ble_eq_true rfl⟩) hP hD hS hA [] [] rfl rfl (by decide) (by decide) (fun H locs hP hD hS => ?_)
    have hP : va_P (dC, dI) vwCl [] H := hP.sub [] rfl
    have hD : va_D A [] := hD.sub [] (by decide) rfl
    obtain ⟨r_7, h_6, h⟩ := ch_bind h
    try dsimp only at h
    refine ck_gol (wc := []) (wr := []) (w1 := []) (va_runS (As := [.long (-2147483648 : Int64), .long r_5]) (rest := []) ⟨hx, hb, hml, hown, hts⟩ (k_Ma_max_JJJ l dC dI cI cJ (-2147483648 : Int64) r_5 r_7 h_6 _) (va_cwS 2 hts (gw_S tw_622 tw_623 tw_4 tw_624) rfl rfl rfl (by decide +kernel) ⟨Nat.le_of_ble_eq_true rfl, Nat.le_of_ble_eq_true rfl⟩) (ck_preS (wc := []) hK hP hD hS hA hE [] (by decide) rfl) rfl rfl hl.1 rfl (lv_room (Nat.le_of_ble_eq_true rfl)) d_Fi_reciprocal_26 ⟨Nat.le_of_ble_eq_true rfl, Nat.le_of_ble_eq_true rfl⟩) hP hD hS hA [] [] rfl rfl (by decide) (by decide) (fun H locs hP hD hS => ?_)
    have hP : va_P (dC, dI) vwCl [] H := hP.sub [] rfl
    have hD : va_D A [] := hD.sub [] (by decide) rfl
    refine lv_l2i hx hb d_Fi_reciprocal_29 rfl ?_
    cases h
    exact ck_iret hx hb hr hlk hK hP hD hS d_Fi_reciprocal_30
  · rw [if_pos c_1] at h
    refine lv_ldc (v := 2147483647) hx hb hown (hts (.constant R_Fi 9 (2147483647)) (by decide +kernel)) d_Fi_reciprocal_4 ?_
    cases h
    exact ck_iret hx hb hr hlk hK hP hD hS d_Fi_reciprocal_6
def pf_Fi_root_7 (fu : Nat) : Nat → Int64 → Int64 → Int64 → Option (Int32)
  | 0, _, _, _ => none
  | n + 1, x0, x2, x4 =>
    if (lg_cmp x4 (0 : Int64)) ≤ 0 then
      some x2.toInt32
    else
      if 0 < (lg_cmp ((x2 + x4) * (x2 + x4)) x0) then
        pf_Fi_root_7 fu n x0 x2 (x4 >>> ((1 : Int32).toInt64 &&& 63))
      else
        pf_Fi_root_7 fu n x0 (x2 + x4) (x4 >>> ((1 : Int32).toInt64 &&& 63))
def pf_Fi_root (fu : Nat) (p1 : Int64) : Option (Int32) :=
  pf_Fi_root_7 fu fu p1 (0 : Int64) (16777216 : Int64)
set_option maxHeartbeats 4000000 in
set_option maxRecDepth 100000 in
theorem k_Fi_root (l : Launch) (dC : Nat → ClassId) (dI : Nat → Nat → Nat) (cI cJ : ClassId) (fu : Nat) (p1 : Int64) (r : Int32) (h : pf_Fi_root fu p1 = some r) : ck_i l y_Fi_root wm_Fi_root ({ frames := 0, cells := 0, slots := 0, locals := 0 } : Room) [.long p1] (dC, dI) [(cI, .int), (cJ, .long)] [] r [] := by
  refine ck_ofi (cc := c_Fi_root) (maxL := 8) (ret := (some .int)) (by decide +kernel) rfl ?_
  intro p e s m below meth c A C0 hK hP hD hS hE
  obtain ⟨hx, hb, hr, hml, hown, hts, hlk, hA, hin⟩ := C0
  have w_7 : ∀ (n_7 : Nat) (x0 : Int64) (x2 : Int64) (x4 : Int64), pf_Fi_root_7 fu n_7 x0 x2 x4 = some r → ∀ (H : Heap) (locs : List Loc), va_P (dC, dI) vwCl [] H → va_D A [] → va_S A s.heap H locs → ∀ ls : Array Slot, lv_has ls 8 [(0, .long x0), (2, .long x2), (4, .long x4)] → W p l e ({ frames := 0, cells := 0, slots := 0, locals := 0 } : Room) s m ([.long p1] : List Value).toArray below meth c H locs 0 0 (ck_Qi below (dC, dI) [(cI, .int), (cJ, .long)] A ([.long p1] : List Value).toArray s r []) (F0 m 7 ls []) := by
    intro n_7
    induction n_7 with
    | zero =>
      intro x0 x2 x4 h
      cases h
    | succ n_7 ih_7 =>
      intro x0 x2 x4 h H locs hP hD hS ls hl
      rw [pf_Fi_root_7] at h
      refine lv_lload hx hb d_Fi_root_7 (lv_at hl 2 rfl) ?_
      refine lv_lconst (v := 0) hx hb d_Fi_root_9 (by decide) ?_
      refine W.lcmp hx hb d_Fi_root_10 ?_
      refine lv_if_le (tgt := 42) hx hb d_Fi_root_11 (by decide) (fun c_1 => ?_) (fun c_1 => ?_)
      · rw [if_pos c_1] at h
        refine lv_lload_n hx hb d_Fi_root_42 rfl (lv_at hl 1 rfl) ?_
        refine lv_l2i hx hb d_Fi_root_43 rfl ?_
        cases h
        exact ck_iret hx hb hr hlk hK hP hD hS d_Fi_root_44
      · rw [if_neg c_1] at h
        refine lv_lload_n hx hb d_Fi_root_14 rfl (lv_at hl 1 rfl) ?_
        refine lv_lload hx hb d_Fi_root_15 (lv_at hl 2 rfl) ?_
        refine lv_ladd hx hb d_Fi_root_17 ?_
        refine lv_lstore (lv' := [(6, .long (x2 + x4)), (0, .long x0), (2, .long x2), (4, .long x4)]) hx hb d_Fi_root_18 hl (by decide) rfl (fun ls hl => ?_)
        refine lv_lload hx hb d_Fi_root_20 (lv_at hl 0 rfl) ?_
        refine lv_lload hx hb d_Fi_root_22 (lv_at hl 0 rfl) ?_
        refine lv_lmul hx hb d_Fi_root_24 ?_
        refine lv_lload_n hx hb d_Fi_root_25 rfl (lv_at hl 1 rfl) ?_
        refine W.lcmp hx hb d_Fi_root_26 ?_
        refine lv_if_gt (tgt := 33) hx hb d_Fi_root_27 (by decide) (fun c_2 => ?_) (fun c_2 => ?_)
        · rw [if_pos c_2] at h
          refine lv_lload hx hb d_Fi_root_33 (lv_at hl 3 rfl) ?_
          refine lv_iconst (v := 1) hx hb d_Fi_root_35 (by decide) ?_
          refine lv_lshr hx hb d_Fi_root_36 rfl ?_
          refine lv_lstore (lv' := [(4, .long (x4 >>> ((1 : Int32).toInt64 &&& 63))), (6, .long (x2 + x4)), (0, .long x0), (2, .long x2)]) hx hb d_Fi_root_37 hl (by decide) rfl (fun ls hl => ?_)
          refine lv_goto (tgt := 7) hx hb d_Fi_root_39 (by decide) ?_
          exact ih_7 x0 x2 (x4 >>> ((1 : Int32).toInt64 &&& 63)) h _ _ hP hD hS _ (lv_sub hl [2, 3, 0] rfl)
        · rw [if_neg c_2] at h
          refine lv_lload hx hb d_Fi_root_30 (lv_at hl 0 rfl) ?_
          refine lv_lstore_n (lv' := [(2, .long (x2 + x4)), (6, .long (x2 + x4)), (0, .long x0), (4, .long x4)]) hx hb d_Fi_root_32 rfl hl (by decide) rfl (fun ls hl => ?_)
          refine lv_lload hx hb d_Fi_root_33 (lv_at hl 3 rfl) ?_
          refine lv_iconst (v := 1) hx hb d_Fi_root_35 (by decide) ?_
          refine lv_lshr hx hb d_Fi_root_36 rfl ?_
          refine lv_lstore (lv' := [(4, .long (x4 >>> ((1 : Int32).toInt64 &&& 63))), (2, .long (x2 + x4)), (6, .long (x2 + x4)), (0, .long x0)]) hx hb d_Fi_root_37 hl (by decide) rfl (fun ls hl => ?_)
          refine lv_goto (tgt := 7) hx hb d_Fi_root_39 (by decide) ?_
          exact ih_7 x0 (x2 + x4) (x4 >>> ((1 : Int32).toInt64 &&& 63)) h _ _ hP hD hS _ (lv_sub hl [3, 1, 0] rfl)
  unfold pf_Fi_root at h
  have hl := lv_entry ([.long p1]) (n := 8) (Nat.le_of_ble_eq_true rfl)
  rw [lg_entry_eq]
  generalize (lg_sl ([.long p1]) ++ List.replicate (8 - (lg_sl ([.long p1])).length) Slot.unset).toArray = ls at hl ⊢
  have hl : lv_has ls 8 [(0, .long p1)] := hl
  refine lv_lconst (v := 0) hx hb d_Fi_root_0 (by decide) ?_
  refine lv_lstore_n (lv' := [(2, .long (0 : Int64)), (0, .long p1)]) hx hb d_Fi_root_1 rfl hl (by decide) rfl (fun ls hl => ?_)
  refine lv_ldc2 (v := 16777216) hx hb hown (hts (.constantLong R_Fi 36 (16777216)) (by decide +kernel)) d_Fi_root_2 ?_
  refine lv_lstore (lv' := [(4, .long (16777216 : Int64)), (2, .long (0 : Int64)), (0, .long p1)]) hx hb d_Fi_root_5 hl (by decide) rfl (fun ls hl => ?_)
  exact w_7 fu p1 (0 : Int64) (16777216 : Int64) h _ _ hP hD hS _ (lv_sub hl [2, 1, 0] rfl)
def pf_Fi_rootOfReciprocal (fu : Nat) (p1 : Int32) : Option (Int32) :=
  if p1 ≤ 0 then
    some (2147483647 : Int32)
  else
    if ¬ p1.toInt64 = 0 then (
    Option.bind (pf_Fi_root fu ((281474976710656 : Int64) / p1.toInt64)) (fun r_4 => 
    some r_4)) else none
set_option maxHeartbeats 4000000 in
set_option maxRecDepth 100000 in
theorem k_Fi_rootOfReciprocal (l : Launch) (dC : Nat → ClassId) (dI : Nat → Nat → Nat) (cI cJ : ClassId) (fu : Nat) (p1 : Int32) (r : Int32) (h : pf_Fi_rootOfReciprocal fu p1 = some r) : ck_i l y_Fi_rootOfReciprocal wm_Fi_rootOfReciprocal ({ frames := 1, cells := 0, slots := 0, locals := 27 } : Room) [.int p1] (dC, dI) [(cI, .int), (cJ, .long)] [] r [] := by
  refine ck_ofi (cc := c_Fi_rootOfReciprocal) (maxL := 1) (ret := (some .int)) (by decide +kernel) rfl ?_
  intro p e s m below meth c A C0 hK hP hD hS hE
  obtain ⟨hx, hb, hr, hml, hown, hts, hlk, hA, hin⟩ := C0
  unfold pf_Fi_rootOfReciprocal at h
  have hl := lv_entry ([.int p1]) (n := 1) (Nat.le_of_ble_eq_true rfl)
  rw [lg_entry_eq]
  generalize (lg_sl ([.int p1]) ++ List.replicate (1 - (lg_sl ([.int p1])).length) Slot.unset).toArray = ls at hl ⊢
  have hl : lv_has ls 1 [(0, .int p1)] := hl
  refine lv_iload_n hx hb d_Fi_rootOfReciprocal_0 rfl (lv_at hl 0 rfl) ?_
  refine lv_if_le (tgt := 16) hx hb d_Fi_rootOfReciprocal_1 (by decide) (fun c_1 => ?_) (fun c_1 => ?_)
  · rw [if_pos c_1] at h
    refine lv_ldc (v := 2147483647) hx hb hown (hts (.constant R_Fi 9 (2147483647)) (by decide +kernel)) d_Fi_rootOfReciprocal_16 ?_
    cases h
    exact ck_iret hx hb hr hlk hK hP hD hS d_Fi_rootOfReciprocal_18
  · rw [if_neg c_1] at h
    refine lv_ldc2 (v := 281474976710656) hx hb hown (hts (.constantLong R_Fi 28 (281474976710656)) (by decide +kernel)) d_Fi_rootOfReciprocal_4 ?_
    refine lv_iload_n hx hb d_Fi_rootOfReciprocal_7 rfl (lv_at hl 0 rfl) ?_
    refine lv_i2l hx hb d_Fi_rootOfReciprocal_8 rfl ?_
    obtain ⟨c_2, h⟩ := ch_ite h
    refine lv_ldiv hx hb d_Fi_rootOfReciprocal_9 c_2 ?_
    obtain ⟨r_4, h_3, h⟩ := ch_bind h
    try dsimp only at h
    refine ck_goi (wc := []) (wr := []) (w1 := []) (va_runS (As := [.long ((281474976710656 : Int64) / p1.toInt64)]) (rest := []) ⟨hx, hb, hml, hown, hts⟩ (k_Fi_root l dC dI cI cJ fu ((281474976710656 : Int64) / p1.toInt64) r_4 h_3 _) (va_cwS 1 hts (gw_S tw_629 tw_630 tw_20 tw_631) rfl rfl rfl (by decide +kernel) ⟨Nat.le_of_ble_eq_true rfl, Nat.le_of_ble_eq_true rfl⟩) (ck_preS (wc := []) hK hP hD hS hA hE [] (by decide) rfl) rfl rfl hl.1 rfl (lv_room (Nat.le_of_ble_eq_true rfl)) d_Fi_rootOfReciprocal_10 ⟨Nat.le_of_ble_eq_true rfl, Nat.le_of_ble_eq_true rfl⟩) hP hD hS hA [] [] rfl rfl (by decide) (by decide) (fun H locs hP hD hS => ?_)
    have hP : va_P (dC, dI) vwCl [] H := hP.sub [] rfl
    have hD : va_D A [] := hD.sub [] (by decide) rfl
    refine lv_goto (tgt := 18) hx hb d_Fi_rootOfReciprocal_13 (by decide) ?_
    cases h
    exact ck_iret hx hb hr hlk hK hP hD hS d_Fi_rootOfReciprocal_18
def pf_Fi_rootOf (fu : Nat) (p1 : Int32) : Option (Int32) :=
  if p1 ≤ 0 then
    some (0 : Int32)
  else
    Option.bind (pf_Fi_root fu (p1.toInt64 * (65536 : Int64))) (fun r_3 => 
    some r_3)
set_option maxHeartbeats 4000000 in
set_option maxRecDepth 100000 in
theorem k_Fi_rootOf (l : Launch) (dC : Nat → ClassId) (dI : Nat → Nat → Nat) (cI cJ : ClassId) (fu : Nat) (p1 : Int32) (r : Int32) (h : pf_Fi_rootOf fu p1 = some r) : ck_i l y_Fi_rootOf wm_Fi_rootOf ({ frames := 1, cells := 0, slots := 0, locals := 27 } : Room) [.int p1] (dC, dI) [(cI, .int), (cJ, .long)] [] r [] := by
  refine ck_ofi (cc := c_Fi_rootOf) (maxL := 1) (ret := (some .int)) (by decide +kernel) rfl ?_
  intro p e s m below meth c A C0 hK hP hD hS hE
  obtain ⟨hx, hb, hr, hml, hown, hts, hlk, hA, hin⟩ := C0
  unfold pf_Fi_rootOf at h
  have hl := lv_entry ([.int p1]) (n := 1) (Nat.le_of_ble_eq_true rfl)
  rw [lg_entry_eq]
  generalize (lg_sl ([.int p1]) ++ List.replicate (1 - (lg_sl ([.int p1])).length) Slot.unset).toArray = ls at hl ⊢
  have hl : lv_has ls 1 [(0, .int p1)] := hl
  refine lv_iload_n hx hb d_Fi_rootOf_0 rfl (lv_at hl 0 rfl) ?_
  refine lv_if_le (tgt := 16) hx hb d_Fi_rootOf_1 (by decide) (fun c_1 => ?_) (fun c_1 => ?_)
  · rw [if_pos c_1] at h
    refine lv_iconst (v := 0) hx hb d_Fi_rootOf_16 (by decide) ?_
    cases h
    exact ck_iret hx hb hr hlk hK hP hD hS d_Fi_rootOf_17
  · rw [if_neg c_1] at h
    refine lv_iload_n hx hb d_Fi_rootOf_4 rfl (lv_at hl 0 rfl) ?_
    refine lv_i2l hx hb d_Fi_rootOf_5 rfl ?_
    refine lv_ldc2 (v := 65536) hx hb hown (hts (.constantLong R_Fi 34 (65536)) (by decide +kernel)) d_Fi_rootOf_6 ?_
    refine lv_lmul hx hb d_Fi_rootOf_9 ?_
    obtain ⟨r_3, h_2, h⟩ := ch_bind h
    try dsimp only at h
    refine ck_goi (wc := []) (wr := []) (w1 := []) (va_runS (As := [.long (p1.toInt64 * (65536 : Int64))]) (rest := []) ⟨hx, hb, hml, hown, hts⟩ (k_Fi_root l dC dI cI cJ fu (p1.toInt64 * (65536 : Int64)) r_3 h_2 _) (va_cwS 1 hts (gw_S tw_629 tw_630 tw_20 tw_631) rfl rfl rfl (by decide +kernel) ⟨Nat.le_of_ble_eq_true rfl, Nat.le_of_ble_eq_true rfl⟩) (ck_preS (wc := []) hK hP hD hS hA hE [] (by decide) rfl) rfl rfl hl.1 rfl (lv_room (Nat.le_of_ble_eq_true rfl)) d_Fi_rootOf_10 ⟨Nat.le_of_ble_eq_true rfl, Nat.le_of_ble_eq_true rfl⟩) hP hD hS hA [] [] rfl rfl (by decide) (by decide) (fun H locs hP hD hS => ?_)
    have hP : va_P (dC, dI) vwCl [] H := hP.sub [] rfl
    have hD : va_D A [] := hD.sub [] (by decide) rfl
    refine lv_goto (tgt := 17) hx hb d_Fi_rootOf_13 (by decide) ?_
    cases h
    exact ck_iret hx hb hr hlk hK hP hD hS d_Fi_rootOf_17
def pf_Fi_withoutSign (p1 : Int32) : Option (Int32) :=
  if p1 = (-2147483648 : Int32) then
    some (2147483647 : Int32)
  else
    if 0 ≤ p1 then
      some p1
    else
      some (-p1)
set_option maxHeartbeats 4000000 in
set_option maxRecDepth 100000 in
theorem k_Fi_withoutSign (l : Launch) (dC : Nat → ClassId) (dI : Nat → Nat → Nat) (cI cJ : ClassId) (p1 : Int32) (r : Int32) (h : pf_Fi_withoutSign p1 = some r) : ck_i l y_Fi_withoutSign wm_Fi_withoutSign ({ frames := 0, cells := 0, slots := 0, locals := 0 } : Room) [.int p1] (dC, dI) [(cI, .int), (cJ, .long)] [] r [] := by
  refine ck_ofi (cc := c_Fi_withoutSign) (maxL := 1) (ret := (some .int)) (by decide +kernel) rfl ?_
  intro p e s m below meth c A C0 hK hP hD hS hE
  obtain ⟨hx, hb, hr, hml, hown, hts, hlk, hA, hin⟩ := C0
  unfold pf_Fi_withoutSign at h
  have hl := lv_entry ([.int p1]) (n := 1) (Nat.le_of_ble_eq_true rfl)
  rw [lg_entry_eq]
  generalize (lg_sl ([.int p1]) ++ List.replicate (1 - (lg_sl ([.int p1])).length) Slot.unset).toArray = ls at hl ⊢
  have hl : lv_has ls 1 [(0, .int p1)] := hl
  refine lv_iload_n hx hb d_Fi_withoutSign_0 rfl (lv_at hl 0 rfl) ?_
  refine lv_ldc (v := -2147483648) hx hb hown (hts (.constant R_Fi 38 (-2147483648)) (by decide +kernel)) d_Fi_withoutSign_1 ?_
  refine lv_icmp_ne (tgt := 9) hx hb d_Fi_withoutSign_3 (by decide) (fun c_1 => ?_) (fun c_1 => ?_)
  · rw [if_neg c_1] at h
    refine lv_iload_n hx hb d_Fi_withoutSign_9 rfl (lv_at hl 0 rfl) ?_
    refine lv_if_ge (tgt := 18) hx hb d_Fi_withoutSign_10 (by decide) (fun c_2 => ?_) (fun c_2 => ?_)
    · rw [if_pos c_2] at h
      refine lv_iload_n hx hb d_Fi_withoutSign_18 rfl (lv_at hl 0 rfl) ?_
      cases h
      exact ck_iret hx hb hr hlk hK hP hD hS d_Fi_withoutSign_19
    · rw [if_neg c_2] at h
      refine lv_iload_n hx hb d_Fi_withoutSign_13 rfl (lv_at hl 0 rfl) ?_
      refine lv_ineg hx hb d_Fi_withoutSign_14 ?_
      refine lv_goto (tgt := 19) hx hb d_Fi_withoutSign_15 (by decide) ?_
      cases h
      exact ck_iret hx hb hr hlk hK hP hD hS d_Fi_withoutSign_19
  · rw [if_pos c_1] at h
    refine lv_ldc (v := 2147483647) hx hb hown (hts (.constant R_Fi 9 (2147483647)) (by decide +kernel)) d_Fi_withoutSign_6 ?_
    cases h
    exact ck_iret hx hb hr hlk hK hP hD hS d_Fi_withoutSign_8
def pf_Fi_truth (p1 : Int32) : Option (Int32) :=
  if p1 = 0 then
    some (0 : Int32)
  else
    some (65536 : Int32)
set_option maxHeartbeats 4000000 in
set_option maxRecDepth 100000 in
theorem k_Fi_truth (l : Launch) (dC : Nat → ClassId) (dI : Nat → Nat → Nat) (cI cJ : ClassId) (p1 : Int32) (r : Int32) (h : pf_Fi_truth p1 = some r) : ck_i l y_Fi_truth wm_Fi_truth ({ frames := 0, cells := 0, slots := 0, locals := 0 } : Room) [.int p1] (dC, dI) [(cI, .int), (cJ, .long)] [] r [] := by
  refine ck_ofi (cc := c_Fi_truth) (maxL := 1) (ret := (some .int)) (by decide +kernel) rfl ?_
  intro p e s m below meth c A C0 hK hP hD hS hE
  obtain ⟨hx, hb, hr, hml, hown, hts, hlk, hA, hin⟩ := C0
  unfold pf_Fi_truth at h
  have hl := lv_entry ([.int p1]) (n := 1) (Nat.le_of_ble_eq_true rfl)
  rw [lg_entry_eq]
  generalize (lg_sl ([.int p1]) ++ List.replicate (1 - (lg_sl ([.int p1])).length) Slot.unset).toArray = ls at hl ⊢
  have hl : lv_has ls 1 [(0, .int p1)] := hl
  refine lv_iload_n hx hb d_Fi_truth_0 rfl (lv_at hl 0 rfl) ?_
  refine lv_if_eq (tgt := 9) hx hb d_Fi_truth_1 (by decide) (fun c_1 => ?_) (fun c_1 => ?_)
  · rw [if_pos c_1] at h
    refine lv_iconst (v := 0) hx hb d_Fi_truth_9 (by decide) ?_
    cases h
    exact ck_iret hx hb hr hlk hK hP hD hS d_Fi_truth_10
  · rw [if_neg c_1] at h
    refine lv_ldc (v := 65536) hx hb hown (hts (.constant R_Fi 39 (65536)) (by decide +kernel)) d_Fi_truth_4 ?_
    refine lv_goto (tgt := 10) hx hb d_Fi_truth_6 (by decide) ?_
    cases h
    exact ck_iret hx hb hr hlk hK hP hD hS d_Fi_truth_10
def pf_Ma_min (p1 : Int32) (p2 : Int32) : Option (Int32) :=
  if p2 < p1 then
    some p2
  else
    some p1
set_option maxHeartbeats 4000000 in
set_option maxRecDepth 100000 in
theorem k_Ma_min (l : Launch) (dC : Nat → ClassId) (dI : Nat → Nat → Nat) (cI cJ : ClassId) (p1 : Int32) (p2 : Int32) (r : Int32) (h : pf_Ma_min p1 p2 = some r) : ck_i l y_Ma_min wm_Ma_min ({ frames := 0, cells := 0, slots := 0, locals := 0 } : Room) [.int p1, .int p2] (dC, dI) [(cI, .int), (cJ, .long)] [] r [] := by
  refine ck_ofi (cc := c_Ma_min) (maxL := 2) (ret := (some .int)) (by decide +kernel) rfl ?_
  intro p e s m below meth c A C0 hK hP hD hS hE
  obtain ⟨hx, hb, hr, hml, hown, hts, hlk, hA, hin⟩ := C0
  unfold pf_Ma_min at h
  have hl := lv_entry ([.int p1, .int p2]) (n := 2) (Nat.le_of_ble_eq_true rfl)
  rw [lg_entry_eq]
  generalize (lg_sl ([.int p1, .int p2]) ++ List.replicate (2 - (lg_sl ([.int p1, .int p2])).length) Slot.unset).toArray = ls at hl ⊢
  have hl : lv_has ls 2 [(0, .int p1), (1, .int p2)] := hl
  refine lv_iload_n hx hb d_Ma_min_0 rfl (lv_at hl 0 rfl) ?_
  refine lv_iload_n hx hb d_Ma_min_1 rfl (lv_at hl 1 rfl) ?_
  refine lv_icmp_gt (tgt := 9) hx hb d_Ma_min_2 (by decide) (fun c_1 => ?_) (fun c_1 => ?_)
  · rw [if_pos c_1] at h
    refine lv_iload_n hx hb d_Ma_min_9 rfl (lv_at hl 1 rfl) ?_
    cases h
    exact ck_iret hx hb hr hlk hK hP hD hS d_Ma_min_10
  · rw [if_neg c_1] at h
    refine lv_iload_n hx hb d_Ma_min_5 rfl (lv_at hl 0 rfl) ?_
    refine lv_goto (tgt := 10) hx hb d_Ma_min_6 (by decide) ?_
    cases h
    exact ck_iret hx hb hr hlk hK hP hD hS d_Ma_min_10
def pf_Ma_max (p1 : Int32) (p2 : Int32) : Option (Int32) :=
  if p1 < p2 then
    some p2
  else
    some p1
set_option maxHeartbeats 4000000 in
set_option maxRecDepth 100000 in
theorem k_Ma_max (l : Launch) (dC : Nat → ClassId) (dI : Nat → Nat → Nat) (cI cJ : ClassId) (p1 : Int32) (p2 : Int32) (r : Int32) (h : pf_Ma_max p1 p2 = some r) : ck_i l y_Ma_max wm_Ma_max ({ frames := 0, cells := 0, slots := 0, locals := 0 } : Room) [.int p1, .int p2] (dC, dI) [(cI, .int), (cJ, .long)] [] r [] := by
  refine ck_ofi (cc := c_Ma_max) (maxL := 2) (ret := (some .int)) (by decide +kernel) rfl ?_
  intro p e s m below meth c A C0 hK hP hD hS hE
  obtain ⟨hx, hb, hr, hml, hown, hts, hlk, hA, hin⟩ := C0
  unfold pf_Ma_max at h
  have hl := lv_entry ([.int p1, .int p2]) (n := 2) (Nat.le_of_ble_eq_true rfl)
  rw [lg_entry_eq]
  generalize (lg_sl ([.int p1, .int p2]) ++ List.replicate (2 - (lg_sl ([.int p1, .int p2])).length) Slot.unset).toArray = ls at hl ⊢
  have hl : lv_has ls 2 [(0, .int p1), (1, .int p2)] := hl
  refine lv_iload_n hx hb d_Ma_max_0 rfl (lv_at hl 0 rfl) ?_
  refine lv_iload_n hx hb d_Ma_max_1 rfl (lv_at hl 1 rfl) ?_
  refine lv_icmp_lt (tgt := 9) hx hb d_Ma_max_2 (by decide) (fun c_1 => ?_) (fun c_1 => ?_)
  · rw [if_pos c_1] at h
    refine lv_iload_n hx hb d_Ma_max_9 rfl (lv_at hl 1 rfl) ?_
    cases h
    exact ck_iret hx hb hr hlk hK hP hD hS d_Ma_max_10
  · rw [if_neg c_1] at h
    refine lv_iload_n hx hb d_Ma_max_5 rfl (lv_at hl 0 rfl) ?_
    refine lv_goto (tgt := 10) hx hb d_Ma_max_6 (by decide) ?_
    cases h
    exact ck_iret hx hb hr hlk hK hP hD hS d_Ma_max_10
def pf_Fi_keptWithin (p1 : Int32) : Option (Int32) :=
  Option.bind (pf_Ma_min (65536 : Int32) p1) (fun r_2 => 
  Option.bind (pf_Ma_max (0 : Int32) r_2) (fun r_4 => 
  some r_4))
set_option maxHeartbeats 4000000 in
set_option maxRecDepth 100000 in
theorem k_Fi_keptWithin (l : Launch) (dC : Nat → ClassId) (dI : Nat → Nat → Nat) (cI cJ : ClassId) (p1 : Int32) (r : Int32) (h : pf_Fi_keptWithin p1 = some r) : ck_i l y_Fi_keptWithin wm_Fi_keptWithin ({ frames := 1, cells := 0, slots := 0, locals := 21 } : Room) [.int p1] (dC, dI) [(cI, .int), (cJ, .long)] [] r [] := by
  refine ck_ofi (cc := c_Fi_keptWithin) (maxL := 1) (ret := (some .int)) (by decide +kernel) rfl ?_
  intro p e s m below meth c A C0 hK hP hD hS hE
  obtain ⟨hx, hb, hr, hml, hown, hts, hlk, hA, hin⟩ := C0
  unfold pf_Fi_keptWithin at h
  have hl := lv_entry ([.int p1]) (n := 1) (Nat.le_of_ble_eq_true rfl)
  rw [lg_entry_eq]
  generalize (lg_sl ([.int p1]) ++ List.replicate (1 - (lg_sl ([.int p1])).length) Slot.unset).toArray = ls at hl ⊢
  have hl : lv_has ls 1 [(0, .int p1)] := hl
  refine lv_iconst (v := 0) hx hb d_Fi_keptWithin_0 (by decide) ?_
  refine lv_ldc (v := 65536) hx hb hown (hts (.constant R_Fi 39 (65536)) (by decide +kernel)) d_Fi_keptWithin_1 ?_
  refine lv_iload_n hx hb d_Fi_keptWithin_3 rfl (lv_at hl 0 rfl) ?_
  obtain ⟨r_2, h_1, h⟩ := ch_bind h
  try dsimp only at h
  refine ck_goi (wc := []) (wr := []) (w1 := []) (va_runS (As := [.int (65536 : Int32), .int p1]) (rest := [.int (0 : Int32)]) ⟨hx, hb, hml, hown, hts⟩ (k_Ma_min l dC dI cI cJ (65536 : Int32) p1 r_2 h_1 _) (va_cwS 2 hts (gw_S tw_699 tw_304 tw_4 tw_305) rfl rfl rfl (by decide +kernel) ⟨Nat.le_of_ble_eq_true rfl, Nat.le_of_ble_eq_true rfl⟩) (ck_preS (wc := []) hK hP hD hS hA hE [] (by decide) rfl) rfl rfl hl.1 rfl (lv_room (Nat.le_of_ble_eq_true rfl)) d_Fi_keptWithin_4 ⟨Nat.le_of_ble_eq_true rfl, Nat.le_of_ble_eq_true rfl⟩) hP hD hS hA [] [] rfl rfl (by decide) (by decide) (fun H locs hP hD hS => ?_)
  have hP : va_P (dC, dI) vwCl [] H := hP.sub [] rfl
  have hD : va_D A [] := hD.sub [] (by decide) rfl
  obtain ⟨r_4, h_3, h⟩ := ch_bind h
  try dsimp only at h
  refine ck_goi (wc := []) (wr := []) (w1 := []) (va_runS (As := [.int (0 : Int32), .int r_2]) (rest := []) ⟨hx, hb, hml, hown, hts⟩ (k_Ma_max l dC dI cI cJ (0 : Int32) r_2 r_4 h_3 _) (va_cwS 2 hts (gw_S tw_700 tw_42 tw_4 tw_43) rfl rfl rfl (by decide +kernel) ⟨Nat.le_of_ble_eq_true rfl, Nat.le_of_ble_eq_true rfl⟩) (ck_preS (wc := []) hK hP hD hS hA hE [] (by decide) rfl) rfl rfl hl.1 rfl (lv_room (Nat.le_of_ble_eq_true rfl)) d_Fi_keptWithin_7 ⟨Nat.le_of_ble_eq_true rfl, Nat.le_of_ble_eq_true rfl⟩) hP hD hS hA [] [] rfl rfl (by decide) (by decide) (fun H locs hP hD hS => ?_)
  have hP : va_P (dC, dI) vwCl [] H := hP.sub [] rfl
  have hD : va_D A [] := hD.sub [] (by decide) rfl
  cases h
  exact ck_iret hx hb hr hlk hK hP hD hS d_Fi_keptWithin_10
def pf_Ki_sources (p1 : Int32) : Option (Int32) :=
  if p1 < 0 then
    some (0 : Int32)
  else
    if (41 : Int32) ≤ p1 then
      some (0 : Int32)
    else
      if (0 : Int32) ≤ p1 ∧ p1.toNatClampNeg < 41 then (
      some (ks_ p1.toNatClampNeg)) else none
set_option maxHeartbeats 4000000 in
set_option maxRecDepth 100000 in
theorem k_Ki_sources (l : Launch) (dC : Nat → ClassId) (dI : Nat → Nat → Nat) (cI cJ : ClassId) (p1 : Int32) (r : Int32) (h : pf_Ki_sources p1 = some r) : ck_i l y_Ki_sources wm_Ki_sources ({ frames := 0, cells := 0, slots := 0, locals := 0 } : Room) [.int p1] (dC, dI) [(cI, .int), (cJ, .long)] [] r [] := by
  refine ck_ofi (cc := c_Ki_sources) (maxL := 1) (ret := (some .int)) (by decide +kernel) rfl ?_
  intro p e s m below meth c A C0 hK hP hD hS hE
  obtain ⟨hx, hb, hr, hml, hown, hts, hlk, hA, hin⟩ := C0
  obtain ⟨tK, hZK, hTK⟩ := hE.2
  unfold pf_Ki_sources at h
  have hl := lv_entry ([.int p1]) (n := 1) (Nat.le_of_ble_eq_true rfl)
  rw [lg_entry_eq]
  generalize (lg_sl ([.int p1]) ++ List.replicate (1 - (lg_sl ([.int p1])).length) Slot.unset).toArray = ls at hl ⊢
  have hl : lv_has ls 1 [(0, .int p1)] := hl
  refine lv_iload_n hx hb d_Ki_sources_0 rfl (lv_at hl 0 rfl) ?_
  refine lv_if_lt (tgt := 20) hx hb d_Ki_sources_1 (by decide) (fun c_1 => ?_) (fun c_1 => ?_)
  · rw [if_pos c_1] at h
    refine lv_iconst (v := 0) hx hb d_Ki_sources_20 (by decide) ?_
    cases h
    exact ck_iret hx hb hr hlk hK hP hD hS d_Ki_sources_21
  · rw [if_neg c_1] at h
    refine lv_iload_n hx hb d_Ki_sources_4 rfl (lv_at hl 0 rfl) ?_
    refine va_gets hx hb hZK hS hown (hts (.fieldLink R_Ki 7 "ShaderMachine$Kind" "SOURCES" "[I") (List.mem_cons_of_mem _ tw_374)) (fun _ h9 => h9) d_Ki_sources_5 ?_
    refine va_tlen (v := 41) hx hb hTK hS (by decide) d_Ki_sources_8 ?_
    refine lv_icmp_ge (tgt := 20) hx hb d_Ki_sources_9 (by decide) (fun c_2 => ?_) (fun c_2 => ?_)
    · rw [if_pos c_2] at h
      refine lv_iconst (v := 0) hx hb d_Ki_sources_20 (by decide) ?_
      cases h
      exact ck_iret hx hb hr hlk hK hP hD hS d_Ki_sources_21
    · rw [if_neg c_2] at h
      refine va_gets hx hb hZK hS hown (hts (.fieldLink R_Ki 7 "ShaderMachine$Kind" "SOURCES" "[I") (List.mem_cons_of_mem _ tw_374)) (fun _ h9 => h9) d_Ki_sources_12 ?_
      refine lv_iload_n hx hb d_Ki_sources_15 rfl (lv_at hl 0 rfl) ?_
      obtain ⟨c_3, h⟩ := ch_ite h
      refine va_ti hx hb hTK hS (ch_in c_3) rfl d_Ki_sources_16 ?_
      refine lv_goto (tgt := 21) hx hb d_Ki_sources_17 (by decide) ?_
      cases h
      exact ck_iret hx hb hr hlk hK hP hD hS d_Ki_sources_21
def pf_Ki_hasTarget (p1 : Int32) : Option (Int32) :=
  if p1 = 0 then
    some (0 : Int32)
  else
    if p1 < (34 : Int32) then
      some (1 : Int32)
    else
      if p1 ≤ (38 : Int32) then
        some (0 : Int32)
      else
        some (1 : Int32)
set_option maxHeartbeats 4000000 in
set_option maxRecDepth 100000 in
theorem k_Ki_hasTarget (l : Launch) (dC : Nat → ClassId) (dI : Nat → Nat → Nat) (cI cJ : ClassId) (p1 : Int32) (r : Int32) (h : pf_Ki_hasTarget p1 = some r) : ck_i l y_Ki_hasTarget wm_Ki_hasTarget ({ frames := 0, cells := 0, slots := 0, locals := 0 } : Room) [.int p1] (dC, dI) [(cI, .int), (cJ, .long)] [] r [] := by
  refine ck_ofi (cc := c_Ki_hasTarget) (maxL := 1) (ret := (some .boolean)) (by decide +kernel) rfl ?_
  intro p e s m below meth c A C0 hK hP hD hS hE
  obtain ⟨hx, hb, hr, hml, hown, hts, hlk, hA, hin⟩ := C0
  unfold pf_Ki_hasTarget at h
  have hl := lv_entry ([.int p1]) (n := 1) (Nat.le_of_ble_eq_true rfl)
  rw [lg_entry_eq]
  generalize (lg_sl ([.int p1]) ++ List.replicate (1 - (lg_sl ([.int p1])).length) Slot.unset).toArray = ls at hl ⊢
  have hl : lv_has ls 1 [(0, .int p1)] := hl
  refine lv_iload_n hx hb d_Ki_hasTarget_0 rfl (lv_at hl 0 rfl) ?_
  refine lv_if_eq (tgt := 20) hx hb d_Ki_hasTarget_1 (by decide) (fun c_1 => ?_) (fun c_1 => ?_)
  · rw [if_pos c_1] at h
    refine lv_iconst (v := 0) hx hb d_Ki_hasTarget_20 (by decide) ?_
    cases h
    exact ck_zret hx hb hr rfl hlk hK hP hD hS d_Ki_hasTarget_21
  · rw [if_neg c_1] at h
    refine lv_iload_n hx hb d_Ki_hasTarget_4 rfl (lv_at hl 0 rfl) ?_
    refine lv_bipush (v := 34) hx hb d_Ki_hasTarget_5 (by decide) ?_
    refine lv_icmp_lt (tgt := 16) hx hb d_Ki_hasTarget_7 (by decide) (fun c_2 => ?_) (fun c_2 => ?_)
    · rw [if_pos c_2] at h
      refine lv_iconst (v := 1) hx hb d_Ki_hasTarget_16 (by decide) ?_
      refine lv_goto (tgt := 21) hx hb d_Ki_hasTarget_17 (by decide) ?_
      cases h
      exact ck_zret hx hb hr rfl hlk hK hP hD hS d_Ki_hasTarget_21
    · rw [if_neg c_2] at h
      refine lv_iload_n hx hb d_Ki_hasTarget_10 rfl (lv_at hl 0 rfl) ?_
      refine lv_bipush (v := 38) hx hb d_Ki_hasTarget_11 (by decide) ?_
      refine lv_icmp_le (tgt := 20) hx hb d_Ki_hasTarget_13 (by decide) (fun c_3 => ?_) (fun c_3 => ?_)
      · rw [if_pos c_3] at h
        refine lv_iconst (v := 0) hx hb d_Ki_hasTarget_20 (by decide) ?_
        cases h
        exact ck_zret hx hb hr rfl hlk hK hP hD hS d_Ki_hasTarget_21
      · rw [if_neg c_3] at h
        refine lv_iconst (v := 1) hx hb d_Ki_hasTarget_16 (by decide) ?_
        refine lv_goto (tgt := 21) hx hb d_Ki_hasTarget_17 (by decide) ?_
        cases h
        exact ck_zret hx hb hr rfl hlk hK hP hD hS d_Ki_hasTarget_21
def pf_Ki_goes (p1 : Int32) : Option (Int32) :=
  if p1 = (36 : Int32) then
    some (1 : Int32)
  else
    if p1 = (37 : Int32) then
      some (1 : Int32)
    else
      some (0 : Int32)
set_option maxHeartbeats 4000000 in
set_option maxRecDepth 100000 in
theorem k_Ki_goes (l : Launch) (dC : Nat → ClassId) (dI : Nat → Nat → Nat) (cI cJ : ClassId) (p1 : Int32) (r : Int32) (h : pf_Ki_goes p1 = some r) : ck_i l y_Ki_goes wm_Ki_goes ({ frames := 0, cells := 0, slots := 0, locals := 0 } : Room) [.int p1] (dC, dI) [(cI, .int), (cJ, .long)] [] r [] := by
  refine ck_ofi (cc := c_Ki_goes) (maxL := 1) (ret := (some .boolean)) (by decide +kernel) rfl ?_
  intro p e s m below meth c A C0 hK hP hD hS hE
  obtain ⟨hx, hb, hr, hml, hown, hts, hlk, hA, hin⟩ := C0
  unfold pf_Ki_goes at h
  have hl := lv_entry ([.int p1]) (n := 1) (Nat.le_of_ble_eq_true rfl)
  rw [lg_entry_eq]
  generalize (lg_sl ([.int p1]) ++ List.replicate (1 - (lg_sl ([.int p1])).length) Slot.unset).toArray = ls at hl ⊢
  have hl : lv_has ls 1 [(0, .int p1)] := hl
  refine lv_iload_n hx hb d_Ki_goes_0 rfl (lv_at hl 0 rfl) ?_
  refine lv_bipush (v := 36) hx hb d_Ki_goes_1 (by decide) ?_
  refine lv_icmp_eq (tgt := 12) hx hb d_Ki_goes_3 (by decide) (fun c_1 => ?_) (fun c_1 => ?_)
  · rw [if_pos c_1] at h
    refine lv_iconst (v := 1) hx hb d_Ki_goes_12 (by decide) ?_
    refine lv_goto (tgt := 17) hx hb d_Ki_goes_13 (by decide) ?_
    cases h
    exact ck_zret hx hb hr rfl hlk hK hP hD hS d_Ki_goes_17
  · rw [if_neg c_1] at h
    refine lv_iload_n hx hb d_Ki_goes_6 rfl (lv_at hl 0 rfl) ?_
    refine lv_bipush (v := 37) hx hb d_Ki_goes_7 (by decide) ?_
    refine lv_icmp_ne (tgt := 16) hx hb d_Ki_goes_9 (by decide) (fun c_2 => ?_) (fun c_2 => ?_)
    · rw [if_neg c_2] at h
      refine lv_iconst (v := 0) hx hb d_Ki_goes_16 (by decide) ?_
      cases h
      exact ck_zret hx hb hr rfl hlk hK hP hD hS d_Ki_goes_17
    · rw [if_pos c_2] at h
      refine lv_iconst (v := 1) hx hb d_Ki_goes_12 (by decide) ?_
      refine lv_goto (tgt := 17) hx hb d_Ki_goes_13 (by decide) ?_
      cases h
      exact ck_zret hx hb hr rfl hlk hK hP hD hS d_Ki_goes_17
def pf_Ki_readsTexture (p1 : Int32) : Option (Int32) :=
  if p1 = (32 : Int32) then
    some (1 : Int32)
  else
    if p1 = (33 : Int32) then
      some (1 : Int32)
    else
      some (0 : Int32)
set_option maxHeartbeats 4000000 in
set_option maxRecDepth 100000 in
theorem k_Ki_readsTexture (l : Launch) (dC : Nat → ClassId) (dI : Nat → Nat → Nat) (cI cJ : ClassId) (p1 : Int32) (r : Int32) (h : pf_Ki_readsTexture p1 = some r) : ck_i l y_Ki_readsTexture wm_Ki_readsTexture ({ frames := 0, cells := 0, slots := 0, locals := 0 } : Room) [.int p1] (dC, dI) [(cI, .int), (cJ, .long)] [] r [] := by
  refine ck_ofi (cc := c_Ki_readsTexture) (maxL := 1) (ret := (some .boolean)) (by decide +kernel) rfl ?_
  intro p e s m below meth c A C0 hK hP hD hS hE
  obtain ⟨hx, hb, hr, hml, hown, hts, hlk, hA, hin⟩ := C0
  unfold pf_Ki_readsTexture at h
  have hl := lv_entry ([.int p1]) (n := 1) (Nat.le_of_ble_eq_true rfl)
  rw [lg_entry_eq]
  generalize (lg_sl ([.int p1]) ++ List.replicate (1 - (lg_sl ([.int p1])).length) Slot.unset).toArray = ls at hl ⊢
  have hl : lv_has ls 1 [(0, .int p1)] := hl
  refine lv_iload_n hx hb d_Ki_readsTexture_0 rfl (lv_at hl 0 rfl) ?_
  refine lv_bipush (v := 32) hx hb d_Ki_readsTexture_1 (by decide) ?_
  refine lv_icmp_eq (tgt := 12) hx hb d_Ki_readsTexture_3 (by decide) (fun c_1 => ?_) (fun c_1 => ?_)
  · rw [if_pos c_1] at h
    refine lv_iconst (v := 1) hx hb d_Ki_readsTexture_12 (by decide) ?_
    refine lv_goto (tgt := 17) hx hb d_Ki_readsTexture_13 (by decide) ?_
    cases h
    exact ck_zret hx hb hr rfl hlk hK hP hD hS d_Ki_readsTexture_17
  · rw [if_neg c_1] at h
    refine lv_iload_n hx hb d_Ki_readsTexture_6 rfl (lv_at hl 0 rfl) ?_
    refine lv_bipush (v := 33) hx hb d_Ki_readsTexture_7 (by decide) ?_
    refine lv_icmp_ne (tgt := 16) hx hb d_Ki_readsTexture_9 (by decide) (fun c_2 => ?_) (fun c_2 => ?_)
    · rw [if_neg c_2] at h
      refine lv_iconst (v := 0) hx hb d_Ki_readsTexture_16 (by decide) ?_
      cases h
      exact ck_zret hx hb hr rfl hlk hK hP hD hS d_Ki_readsTexture_17
    · rw [if_pos c_2] at h
      refine lv_iconst (v := 1) hx hb d_Ki_readsTexture_12 (by decide) ?_
      refine lv_goto (tgt := 17) hx hb d_Ki_readsTexture_13 (by decide) ?_
      cases h
      exact ck_zret hx hb hr rfl hlk hK hP hD hS d_Ki_readsTexture_17
def pf_So_file (p1 : Int32) : Option (Int32) :=
  some (p1 &&& (3 : Int32))
set_option maxHeartbeats 4000000 in
set_option maxRecDepth 100000 in
theorem k_So_file (l : Launch) (dC : Nat → ClassId) (dI : Nat → Nat → Nat) (cI cJ : ClassId) (p1 : Int32) (r : Int32) (h : pf_So_file p1 = some r) : ck_i l y_So_file wm_So_file ({ frames := 0, cells := 0, slots := 0, locals := 0 } : Room) [.int p1] (dC, dI) [(cI, .int), (cJ, .long)] [] r [] := by
  refine ck_ofi (cc := c_So_file) (maxL := 1) (ret := (some .int)) (by decide +kernel) rfl ?_
  intro p e s m below meth c A C0 hK hP hD hS hE
  obtain ⟨hx, hb, hr, hml, hown, hts, hlk, hA, hin⟩ := C0
  unfold pf_So_file at h
  have hl := lv_entry ([.int p1]) (n := 1) (Nat.le_of_ble_eq_true rfl)
  rw [lg_entry_eq]
  generalize (lg_sl ([.int p1]) ++ List.replicate (1 - (lg_sl ([.int p1])).length) Slot.unset).toArray = ls at hl ⊢
  have hl : lv_has ls 1 [(0, .int p1)] := hl
  refine lv_iload_n hx hb d_So_file_0 rfl (lv_at hl 0 rfl) ?_
  refine lv_iconst (v := 3) hx hb d_So_file_1 (by decide) ?_
  refine lv_iand hx hb d_So_file_2 ?_
  cases h
  exact ck_iret hx hb hr hlk hK hP hD hS d_So_file_3
def pf_So_number (p1 : Int32) : Option (Int32) :=
  some ((p1 >>> ((2 : Int32) &&& 31)) &&& (31 : Int32))
set_option maxHeartbeats 4000000 in
set_option maxRecDepth 100000 in
theorem k_So_number (l : Launch) (dC : Nat → ClassId) (dI : Nat → Nat → Nat) (cI cJ : ClassId) (p1 : Int32) (r : Int32) (h : pf_So_number p1 = some r) : ck_i l y_So_number wm_So_number ({ frames := 0, cells := 0, slots := 0, locals := 0 } : Room) [.int p1] (dC, dI) [(cI, .int), (cJ, .long)] [] r [] := by
  refine ck_ofi (cc := c_So_number) (maxL := 1) (ret := (some .int)) (by decide +kernel) rfl ?_
  intro p e s m below meth c A C0 hK hP hD hS hE
  obtain ⟨hx, hb, hr, hml, hown, hts, hlk, hA, hin⟩ := C0
  unfold pf_So_number at h
  have hl := lv_entry ([.int p1]) (n := 1) (Nat.le_of_ble_eq_true rfl)
  rw [lg_entry_eq]
  generalize (lg_sl ([.int p1]) ++ List.replicate (1 - (lg_sl ([.int p1])).length) Slot.unset).toArray = ls at hl ⊢
  have hl : lv_has ls 1 [(0, .int p1)] := hl
  refine lv_iload_n hx hb d_So_number_0 rfl (lv_at hl 0 rfl) ?_
  refine lv_iconst (v := 2) hx hb d_So_number_1 (by decide) ?_
  refine lv_ishr hx hb d_So_number_2 ?_
  refine lv_bipush (v := 31) hx hb d_So_number_3 (by decide) ?_
  refine lv_iand hx hb d_So_number_5 ?_
  cases h
  exact ck_iret hx hb hr hlk hK hP hD hS d_So_number_6
def pf_So_picks (p1 : Int32) : Option (Int32) :=
  some ((p1 >>> ((7 : Int32) &&& 31)) &&& (255 : Int32))
set_option maxHeartbeats 4000000 in
set_option maxRecDepth 100000 in
theorem k_So_picks (l : Launch) (dC : Nat → ClassId) (dI : Nat → Nat → Nat) (cI cJ : ClassId) (p1 : Int32) (r : Int32) (h : pf_So_picks p1 = some r) : ck_i l y_So_picks wm_So_picks ({ frames := 0, cells := 0, slots := 0, locals := 0 } : Room) [.int p1] (dC, dI) [(cI, .int), (cJ, .long)] [] r [] := by
  refine ck_ofi (cc := c_So_picks) (maxL := 1) (ret := (some .int)) (by decide +kernel) rfl ?_
  intro p e s m below meth c A C0 hK hP hD hS hE
  obtain ⟨hx, hb, hr, hml, hown, hts, hlk, hA, hin⟩ := C0
  unfold pf_So_picks at h
  have hl := lv_entry ([.int p1]) (n := 1) (Nat.le_of_ble_eq_true rfl)
  rw [lg_entry_eq]
  generalize (lg_sl ([.int p1]) ++ List.replicate (1 - (lg_sl ([.int p1])).length) Slot.unset).toArray = ls at hl ⊢
  have hl : lv_has ls 1 [(0, .int p1)] := hl
  refine lv_iload_n hx hb d_So_picks_0 rfl (lv_at hl 0 rfl) ?_
  refine lv_bipush (v := 7) hx hb d_So_picks_1 (by decide) ?_
  refine lv_ishr hx hb d_So_picks_3 ?_
  refine lv_sipush (v := 255) hx hb d_So_picks_4 (by decide) ?_
  refine lv_iand hx hb d_So_picks_7 ?_
  cases h
  exact ck_iret hx hb hr hlk hK hP hD hS d_So_picks_8
def pf_So_isNegated (p1 : Int32) : Option (Int32) :=
  if ((p1 >>> ((15 : Int32) &&& 31)) &&& (1 : Int32)) = 0 then
    some (0 : Int32)
  else
    some (1 : Int32)
set_option maxHeartbeats 4000000 in
set_option maxRecDepth 100000 in
theorem k_So_isNegated (l : Launch) (dC : Nat → ClassId) (dI : Nat → Nat → Nat) (cI cJ : ClassId) (p1 : Int32) (r : Int32) (h : pf_So_isNegated p1 = some r) : ck_i l y_So_isNegated wm_So_isNegated ({ frames := 0, cells := 0, slots := 0, locals := 0 } : Room) [.int p1] (dC, dI) [(cI, .int), (cJ, .long)] [] r [] := by
  refine ck_ofi (cc := c_So_isNegated) (maxL := 1) (ret := (some .boolean)) (by decide +kernel) rfl ?_
  intro p e s m below meth c A C0 hK hP hD hS hE
  obtain ⟨hx, hb, hr, hml, hown, hts, hlk, hA, hin⟩ := C0
  unfold pf_So_isNegated at h
  have hl := lv_entry ([.int p1]) (n := 1) (Nat.le_of_ble_eq_true rfl)
  rw [lg_entry_eq]
  generalize (lg_sl ([.int p1]) ++ List.replicate (1 - (lg_sl ([.int p1])).length) Slot.unset).toArray = ls at hl ⊢
  have hl : lv_has ls 1 [(0, .int p1)] := hl
  refine lv_iload_n hx hb d_So_isNegated_0 rfl (lv_at hl 0 rfl) ?_
  refine lv_bipush (v := 15) hx hb d_So_isNegated_1 (by decide) ?_
  refine lv_ishr hx hb d_So_isNegated_3 ?_
  refine lv_iconst (v := 1) hx hb d_So_isNegated_4 (by decide) ?_
  refine lv_iand hx hb d_So_isNegated_5 ?_
  refine lv_if_eq (tgt := 13) hx hb d_So_isNegated_6 (by decide) (fun c_1 => ?_) (fun c_1 => ?_)
  · rw [if_pos c_1] at h
    refine lv_iconst (v := 0) hx hb d_So_isNegated_13 (by decide) ?_
    cases h
    exact ck_zret hx hb hr rfl hlk hK hP hD hS d_So_isNegated_14
  · rw [if_neg c_1] at h
    refine lv_iconst (v := 1) hx hb d_So_isNegated_9 (by decide) ?_
    refine lv_goto (tgt := 14) hx hb d_So_isNegated_10 (by decide) ?_
    cases h
    exact ck_zret hx hb hr rfl hlk hK hP hD hS d_So_isNegated_14
def pf_Ta_file (p1 : Int32) : Option (Int32) :=
  some ((p1 >>> ((6 : Int32) &&& 31)) &&& (3 : Int32))
set_option maxHeartbeats 4000000 in
set_option maxRecDepth 100000 in
theorem k_Ta_file (l : Launch) (dC : Nat → ClassId) (dI : Nat → Nat → Nat) (cI cJ : ClassId) (p1 : Int32) (r : Int32) (h : pf_Ta_file p1 = some r) : ck_i l y_Ta_file wm_Ta_file ({ frames := 0, cells := 0, slots := 0, locals := 0 } : Room) [.int p1] (dC, dI) [(cI, .int), (cJ, .long)] [] r [] := by
  refine ck_ofi (cc := c_Ta_file) (maxL := 1) (ret := (some .int)) (by decide +kernel) rfl ?_
  intro p e s m below meth c A C0 hK hP hD hS hE
  obtain ⟨hx, hb, hr, hml, hown, hts, hlk, hA, hin⟩ := C0
  unfold pf_Ta_file at h
  have hl := lv_entry ([.int p1]) (n := 1) (Nat.le_of_ble_eq_true rfl)
  rw [lg_entry_eq]
  generalize (lg_sl ([.int p1]) ++ List.replicate (1 - (lg_sl ([.int p1])).length) Slot.unset).toArray = ls at hl ⊢
  have hl : lv_has ls 1 [(0, .int p1)] := hl
  refine lv_iload_n hx hb d_Ta_file_0 rfl (lv_at hl 0 rfl) ?_
  refine lv_bipush (v := 6) hx hb d_Ta_file_1 (by decide) ?_
  refine lv_ishr hx hb d_Ta_file_3 ?_
  refine lv_iconst (v := 3) hx hb d_Ta_file_4 (by decide) ?_
  refine lv_iand hx hb d_Ta_file_5 ?_
  cases h
  exact ck_iret hx hb hr hlk hK hP hD hS d_Ta_file_6
def pf_Ta_number (p1 : Int32) : Option (Int32) :=
  some ((p1 >>> ((8 : Int32) &&& 31)) &&& (15 : Int32))
set_option maxHeartbeats 4000000 in
set_option maxRecDepth 100000 in
theorem k_Ta_number (l : Launch) (dC : Nat → ClassId) (dI : Nat → Nat → Nat) (cI cJ : ClassId) (p1 : Int32) (r : Int32) (h : pf_Ta_number p1 = some r) : ck_i l y_Ta_number wm_Ta_number ({ frames := 0, cells := 0, slots := 0, locals := 0 } : Room) [.int p1] (dC, dI) [(cI, .int), (cJ, .long)] [] r [] := by
  refine ck_ofi (cc := c_Ta_number) (maxL := 1) (ret := (some .int)) (by decide +kernel) rfl ?_
  intro p e s m below meth c A C0 hK hP hD hS hE
  obtain ⟨hx, hb, hr, hml, hown, hts, hlk, hA, hin⟩ := C0
  unfold pf_Ta_number at h
  have hl := lv_entry ([.int p1]) (n := 1) (Nat.le_of_ble_eq_true rfl)
  rw [lg_entry_eq]
  generalize (lg_sl ([.int p1]) ++ List.replicate (1 - (lg_sl ([.int p1])).length) Slot.unset).toArray = ls at hl ⊢
  have hl : lv_has ls 1 [(0, .int p1)] := hl
  refine lv_iload_n hx hb d_Ta_number_0 rfl (lv_at hl 0 rfl) ?_
  refine lv_bipush (v := 8) hx hb d_Ta_number_1 (by decide) ?_
  refine lv_ishr hx hb d_Ta_number_3 ?_
  refine lv_bipush (v := 15) hx hb d_Ta_number_4 (by decide) ?_
  refine lv_iand hx hb d_Ta_number_6 ?_
  cases h
  exact ck_iret hx hb hr hlk hK hP hD hS d_Ta_number_7
def pf_Ta_setsAny (p1 : Int32) : Option (Int32) :=
  if ((p1 >>> ((12 : Int32) &&& 31)) &&& (15 : Int32)) = 0 then
    some (0 : Int32)
  else
    some (1 : Int32)
set_option maxHeartbeats 4000000 in
set_option maxRecDepth 100000 in
theorem k_Ta_setsAny (l : Launch) (dC : Nat → ClassId) (dI : Nat → Nat → Nat) (cI cJ : ClassId) (p1 : Int32) (r : Int32) (h : pf_Ta_setsAny p1 = some r) : ck_i l y_Ta_setsAny wm_Ta_setsAny ({ frames := 0, cells := 0, slots := 0, locals := 0 } : Room) [.int p1] (dC, dI) [(cI, .int), (cJ, .long)] [] r [] := by
  refine ck_ofi (cc := c_Ta_setsAny) (maxL := 1) (ret := (some .boolean)) (by decide +kernel) rfl ?_
  intro p e s m below meth c A C0 hK hP hD hS hE
  obtain ⟨hx, hb, hr, hml, hown, hts, hlk, hA, hin⟩ := C0
  unfold pf_Ta_setsAny at h
  have hl := lv_entry ([.int p1]) (n := 1) (Nat.le_of_ble_eq_true rfl)
  rw [lg_entry_eq]
  generalize (lg_sl ([.int p1]) ++ List.replicate (1 - (lg_sl ([.int p1])).length) Slot.unset).toArray = ls at hl ⊢
  have hl : lv_has ls 1 [(0, .int p1)] := hl
  refine lv_iload_n hx hb d_Ta_setsAny_0 rfl (lv_at hl 0 rfl) ?_
  refine lv_bipush (v := 12) hx hb d_Ta_setsAny_1 (by decide) ?_
  refine lv_ishr hx hb d_Ta_setsAny_3 ?_
  refine lv_bipush (v := 15) hx hb d_Ta_setsAny_4 (by decide) ?_
  refine lv_iand hx hb d_Ta_setsAny_6 ?_
  refine lv_if_eq (tgt := 14) hx hb d_Ta_setsAny_7 (by decide) (fun c_1 => ?_) (fun c_1 => ?_)
  · rw [if_pos c_1] at h
    refine lv_iconst (v := 0) hx hb d_Ta_setsAny_14 (by decide) ?_
    cases h
    exact ck_zret hx hb hr rfl hlk hK hP hD hS d_Ta_setsAny_15
  · rw [if_neg c_1] at h
    refine lv_iconst (v := 1) hx hb d_Ta_setsAny_10 (by decide) ?_
    refine lv_goto (tgt := 15) hx hb d_Ta_setsAny_11 (by decide) ?_
    cases h
    exact ck_zret hx hb hr rfl hlk hK hP hD hS d_Ta_setsAny_15
def pf_Ta_sets (p1 : Int32) (p2 : Int32) : Option (Int32) :=
  if ((p1 >>> (((12 : Int32) + p2) &&& 31)) &&& (1 : Int32)) = 0 then
    some (0 : Int32)
  else
    some (1 : Int32)
set_option maxHeartbeats 4000000 in
set_option maxRecDepth 100000 in
theorem k_Ta_sets (l : Launch) (dC : Nat → ClassId) (dI : Nat → Nat → Nat) (cI cJ : ClassId) (p1 : Int32) (p2 : Int32) (r : Int32) (h : pf_Ta_sets p1 p2 = some r) : ck_i l y_Ta_sets wm_Ta_sets ({ frames := 0, cells := 0, slots := 0, locals := 0 } : Room) [.int p1, .int p2] (dC, dI) [(cI, .int), (cJ, .long)] [] r [] := by
  refine ck_ofi (cc := c_Ta_sets) (maxL := 2) (ret := (some .boolean)) (by decide +kernel) rfl ?_
  intro p e s m below meth c A C0 hK hP hD hS hE
  obtain ⟨hx, hb, hr, hml, hown, hts, hlk, hA, hin⟩ := C0
  unfold pf_Ta_sets at h
  have hl := lv_entry ([.int p1, .int p2]) (n := 2) (Nat.le_of_ble_eq_true rfl)
  rw [lg_entry_eq]
  generalize (lg_sl ([.int p1, .int p2]) ++ List.replicate (2 - (lg_sl ([.int p1, .int p2])).length) Slot.unset).toArray = ls at hl ⊢
  have hl : lv_has ls 2 [(0, .int p1), (1, .int p2)] := hl
  refine lv_iload_n hx hb d_Ta_sets_0 rfl (lv_at hl 0 rfl) ?_
  refine lv_bipush (v := 12) hx hb d_Ta_sets_1 (by decide) ?_
  refine lv_iload_n hx hb d_Ta_sets_3 rfl (lv_at hl 1 rfl) ?_
  refine lv_iadd hx hb d_Ta_sets_4 ?_
  refine lv_ishr hx hb d_Ta_sets_5 ?_
  refine lv_iconst (v := 1) hx hb d_Ta_sets_6 (by decide) ?_
  refine lv_iand hx hb d_Ta_sets_7 ?_
  refine lv_if_eq (tgt := 15) hx hb d_Ta_sets_8 (by decide) (fun c_1 => ?_) (fun c_1 => ?_)
  · rw [if_pos c_1] at h
    refine lv_iconst (v := 0) hx hb d_Ta_sets_15 (by decide) ?_
    cases h
    exact ck_zret hx hb hr rfl hlk hK hP hD hS d_Ta_sets_16
  · rw [if_neg c_1] at h
    refine lv_iconst (v := 1) hx hb d_Ta_sets_11 (by decide) ?_
    refine lv_goto (tgt := 16) hx hb d_Ta_sets_12 (by decide) ?_
    cases h
    exact ck_zret hx hb hr rfl hlk hK hP hD hS d_Ta_sets_16
def pf_Ta_isKeptWithin (p1 : Int32) : Option (Int32) :=
  if ((p1 >>> ((16 : Int32) &&& 31)) &&& (1 : Int32)) = 0 then
    some (0 : Int32)
  else
    some (1 : Int32)
set_option maxHeartbeats 4000000 in
set_option maxRecDepth 100000 in
theorem k_Ta_isKeptWithin (l : Launch) (dC : Nat → ClassId) (dI : Nat → Nat → Nat) (cI cJ : ClassId) (p1 : Int32) (r : Int32) (h : pf_Ta_isKeptWithin p1 = some r) : ck_i l y_Ta_isKeptWithin wm_Ta_isKeptWithin ({ frames := 0, cells := 0, slots := 0, locals := 0 } : Room) [.int p1] (dC, dI) [(cI, .int), (cJ, .long)] [] r [] := by
  refine ck_ofi (cc := c_Ta_isKeptWithin) (maxL := 1) (ret := (some .boolean)) (by decide +kernel) rfl ?_
  intro p e s m below meth c A C0 hK hP hD hS hE
  obtain ⟨hx, hb, hr, hml, hown, hts, hlk, hA, hin⟩ := C0
  unfold pf_Ta_isKeptWithin at h
  have hl := lv_entry ([.int p1]) (n := 1) (Nat.le_of_ble_eq_true rfl)
  rw [lg_entry_eq]
  generalize (lg_sl ([.int p1]) ++ List.replicate (1 - (lg_sl ([.int p1])).length) Slot.unset).toArray = ls at hl ⊢
  have hl : lv_has ls 1 [(0, .int p1)] := hl
  refine lv_iload_n hx hb d_Ta_isKeptWithin_0 rfl (lv_at hl 0 rfl) ?_
  refine lv_bipush (v := 16) hx hb d_Ta_isKeptWithin_1 (by decide) ?_
  refine lv_ishr hx hb d_Ta_isKeptWithin_3 ?_
  refine lv_iconst (v := 1) hx hb d_Ta_isKeptWithin_4 (by decide) ?_
  refine lv_iand hx hb d_Ta_isKeptWithin_5 ?_
  refine lv_if_eq (tgt := 13) hx hb d_Ta_isKeptWithin_6 (by decide) (fun c_1 => ?_) (fun c_1 => ?_)
  · rw [if_pos c_1] at h
    refine lv_iconst (v := 0) hx hb d_Ta_isKeptWithin_13 (by decide) ?_
    cases h
    exact ck_zret hx hb hr rfl hlk hK hP hD hS d_Ta_isKeptWithin_14
  · rw [if_neg c_1] at h
    refine lv_iconst (v := 1) hx hb d_Ta_isKeptWithin_9 (by decide) ?_
    refine lv_goto (tgt := 14) hx hb d_Ta_isKeptWithin_10 (by decide) ?_
    cases h
    exact ck_zret hx hb hr rfl hlk hK hP hD hS d_Ta_isKeptWithin_14
def pf_Ve_has (p1 : Int32) (o_many : Int32) : Option (Int32) :=
  if p1 < 0 then
    some (0 : Int32)
  else
    if o_many ≤ p1 then
      some (0 : Int32)
    else
      some (1 : Int32)
set_option maxHeartbeats 4000000 in
set_option maxRecDepth 100000 in
theorem k_Ve_has (l : Launch) (dC : Nat → ClassId) (dI : Nat → Nat → Nat) (cI cJ : ClassId) (p1 : Int32) (o_many : Int32) (q_o : Nat) (q_o_parts : Nat) (r : Int32) (h : pf_Ve_has p1 o_many = some r) : ck_i l y_Ve_has wm_Ve_has ({ frames := 0, cells := 0, slots := 0, locals := 0 } : Room) [.ref q_o, .int p1] (dC, dI) [(cI, .int), (cJ, .long)] [(q_o, .inr (0, [.int o_many, .ref q_o_parts]))] r [(q_o, .inr (0, [.int o_many, .ref q_o_parts]))] := by
  refine ck_ofi (cc := c_Ve_has) (maxL := 2) (ret := (some .boolean)) (by decide +kernel) rfl ?_
  intro p e s m below meth c A C0 hK hP hD hS hE
  obtain ⟨hx, hb, hr, hml, hown, hts, hlk, hA, hin⟩ := C0
  unfold pf_Ve_has at h
  have hl := lv_entry ([.ref q_o, .int p1]) (n := 2) (Nat.le_of_ble_eq_true rfl)
  rw [lg_entry_eq]
  generalize (lg_sl ([.ref q_o, .int p1]) ++ List.replicate (2 - (lg_sl ([.ref q_o, .int p1])).length) Slot.unset).toArray = ls at hl ⊢
  have hl : lv_has ls 2 [(0, .ref q_o), (1, .int p1)] := hl
  refine lv_iload_n hx hb d_Ve_has_0 rfl (lv_at hl 1 rfl) ?_
  refine lv_if_lt (tgt := 16) hx hb d_Ve_has_1 (by decide) (fun c_1 => ?_) (fun c_1 => ?_)
  · rw [if_pos c_1] at h
    refine lv_iconst (v := 0) hx hb d_Ve_has_16 (by decide) ?_
    cases h
    exact ck_zret hx hb hr rfl hlk hK hP hD hS d_Ve_has_17
  · rw [if_neg c_1] at h
    refine lv_iload_n hx hb d_Ve_has_4 rfl (lv_at hl 1 rfl) ?_
    refine lv_aload_n hx hb d_Ve_has_5 rfl (lv_at hl 0 rfl) ?_
    refine va_get (D := (dC, dI)) (ci := 0) (v := .int o_many) (C := R_Ve) (T := T_Ve) (N := 2) hx hb hts (iw_Ve _) hown hK hP 0 rfl rfl 0 (by decide) (hts (.fieldLink R_Ve 13 "ShaderMachine$Vectors" "many" "I") (List.mem_cons_of_mem _ tw_44)) (fun _ h9 => h9) rfl d_Ve_has_6 ?_
    refine lv_icmp_ge (tgt := 16) hx hb d_Ve_has_9 (by decide) (fun c_2 => ?_) (fun c_2 => ?_)
    · rw [if_pos c_2] at h
      refine lv_iconst (v := 0) hx hb d_Ve_has_16 (by decide) ?_
      cases h
      exact ck_zret hx hb hr rfl hlk hK hP hD hS d_Ve_has_17
    · rw [if_neg c_2] at h
      refine lv_iconst (v := 1) hx hb d_Ve_has_12 (by decide) ?_
      refine lv_goto (tgt := 17) hx hb d_Ve_has_13 (by decide) ?_
      cases h
      exact ck_zret hx hb hr rfl hlk hK hP hD hS d_Ve_has_17
def pf_Ve_hasPart (p1 : Int32) (p2 : Int32) (o_many : Int32) : Option (Int32) :=
  if p1 < 0 then
    some (0 : Int32)
  else
    if o_many ≤ p1 then
      some (0 : Int32)
    else
      if p2 < 0 then
        some (0 : Int32)
      else
        if (4 : Int32) ≤ p2 then
          some (0 : Int32)
        else
          some (1 : Int32)
set_option maxHeartbeats 4000000 in
set_option maxRecDepth 100000 in
theorem k_Ve_hasPart (l : Launch) (dC : Nat → ClassId) (dI : Nat → Nat → Nat) (cI cJ : ClassId) (p1 : Int32) (p2 : Int32) (o_many : Int32) (q_o : Nat) (q_o_parts : Nat) (r : Int32) (h : pf_Ve_hasPart p1 p2 o_many = some r) : ck_i l y_Ve_hasPart wm_Ve_hasPart ({ frames := 0, cells := 0, slots := 0, locals := 0 } : Room) [.ref q_o, .int p1, .int p2] (dC, dI) [(cI, .int), (cJ, .long)] [(q_o, .inr (0, [.int o_many, .ref q_o_parts]))] r [(q_o, .inr (0, [.int o_many, .ref q_o_parts]))] := by
  refine ck_ofi (cc := c_Ve_hasPart) (maxL := 3) (ret := (some .boolean)) (by decide +kernel) rfl ?_
  intro p e s m below meth c A C0 hK hP hD hS hE
  obtain ⟨hx, hb, hr, hml, hown, hts, hlk, hA, hin⟩ := C0
  unfold pf_Ve_hasPart at h
  have hl := lv_entry ([.ref q_o, .int p1, .int p2]) (n := 3) (Nat.le_of_ble_eq_true rfl)
  rw [lg_entry_eq]
  generalize (lg_sl ([.ref q_o, .int p1, .int p2]) ++ List.replicate (3 - (lg_sl ([.ref q_o, .int p1, .int p2])).length) Slot.unset).toArray = ls at hl ⊢
  have hl : lv_has ls 3 [(0, .ref q_o), (1, .int p1), (2, .int p2)] := hl
  refine lv_iload_n hx hb d_Ve_hasPart_0 rfl (lv_at hl 1 rfl) ?_
  refine lv_if_lt (tgt := 25) hx hb d_Ve_hasPart_1 (by decide) (fun c_1 => ?_) (fun c_1 => ?_)
  · rw [if_pos c_1] at h
    refine lv_iconst (v := 0) hx hb d_Ve_hasPart_25 (by decide) ?_
    cases h
    exact ck_zret hx hb hr rfl hlk hK hP hD hS d_Ve_hasPart_26
  · rw [if_neg c_1] at h
    refine lv_iload_n hx hb d_Ve_hasPart_4 rfl (lv_at hl 1 rfl) ?_
    refine lv_aload_n hx hb d_Ve_hasPart_5 rfl (lv_at hl 0 rfl) ?_
    refine va_get (D := (dC, dI)) (ci := 0) (v := .int o_many) (C := R_Ve) (T := T_Ve) (N := 2) hx hb hts (iw_Ve _) hown hK hP 0 rfl rfl 0 (by decide) (hts (.fieldLink R_Ve 13 "ShaderMachine$Vectors" "many" "I") (List.mem_cons_of_mem _ tw_44)) (fun _ h9 => h9) rfl d_Ve_hasPart_6 ?_
    refine lv_icmp_ge (tgt := 25) hx hb d_Ve_hasPart_9 (by decide) (fun c_2 => ?_) (fun c_2 => ?_)
    · rw [if_pos c_2] at h
      refine lv_iconst (v := 0) hx hb d_Ve_hasPart_25 (by decide) ?_
      cases h
      exact ck_zret hx hb hr rfl hlk hK hP hD hS d_Ve_hasPart_26
    · rw [if_neg c_2] at h
      refine lv_iload_n hx hb d_Ve_hasPart_12 rfl (lv_at hl 2 rfl) ?_
      refine lv_if_lt (tgt := 25) hx hb d_Ve_hasPart_13 (by decide) (fun c_3 => ?_) (fun c_3 => ?_)
      · rw [if_pos c_3] at h
        refine lv_iconst (v := 0) hx hb d_Ve_hasPart_25 (by decide) ?_
        cases h
        exact ck_zret hx hb hr rfl hlk hK hP hD hS d_Ve_hasPart_26
      · rw [if_neg c_3] at h
        refine lv_iload_n hx hb d_Ve_hasPart_16 rfl (lv_at hl 2 rfl) ?_
        refine lv_iconst (v := 4) hx hb d_Ve_hasPart_17 (by decide) ?_
        refine lv_icmp_ge (tgt := 25) hx hb d_Ve_hasPart_18 (by decide) (fun c_4 => ?_) (fun c_4 => ?_)
        · rw [if_pos c_4] at h
          refine lv_iconst (v := 0) hx hb d_Ve_hasPart_25 (by decide) ?_
          cases h
          exact ck_zret hx hb hr rfl hlk hK hP hD hS d_Ve_hasPart_26
        · rw [if_neg c_4] at h
          refine lv_iconst (v := 1) hx hb d_Ve_hasPart_21 (by decide) ?_
          refine lv_goto (tgt := 26) hx hb d_Ve_hasPart_22 (by decide) ?_
          cases h
          exact ck_zret hx hb hr rfl hlk hK hP hD hS d_Ve_hasPart_26
def pf_Ve_part (p1 : Int32) (p2 : Int32) (o_many : Int32) (n_o_parts : Nat) (f_o_parts : Nat → Int32) : Option (Int32) :=
  Option.bind (pf_Ve_hasPart p1 p2 o_many) (fun r_2 => 
  if r_2 = 0 then
    some (0 : Int32)
  else
    if (0 : Int32) ≤ (((4 : Int32) * p1) + p2) ∧ (((4 : Int32) * p1) + p2).toNatClampNeg < n_o_parts then (
    some (f_o_parts (((4 : Int32) * p1) + p2).toNatClampNeg)) else none)
set_option maxHeartbeats 4000000 in
set_option maxRecDepth 100000 in
theorem k_Ve_part (l : Launch) (dC : Nat → ClassId) (dI : Nat → Nat → Nat) (cI cJ : ClassId) (p1 : Int32) (p2 : Int32) (o_many : Int32) (n_o_parts : Nat) (f_o_parts : Nat → Int32) (q_o : Nat) (q_o_parts : Nat) (r : Int32) (h : pf_Ve_part p1 p2 o_many n_o_parts f_o_parts = some r) : ck_i l y_Ve_part wm_Ve_part ({ frames := 1, cells := 0, slots := 0, locals := 22 } : Room) [.ref q_o, .int p1, .int p2] (dC, dI) [(cI, .int), (cJ, .long)] [(q_o, .inr (0, [.int o_many, .ref q_o_parts])), (q_o_parts, .inl (cI, n_o_parts, .inl f_o_parts))] r [(q_o, .inr (0, [.int o_many, .ref q_o_parts])), (q_o_parts, .inl (cI, n_o_parts, .inl f_o_parts))] := by
  refine ck_ofi (cc := c_Ve_part) (maxL := 3) (ret := (some .int)) (by decide +kernel) rfl ?_
  intro p e s m below meth c A C0 hK hP hD hS hE
  obtain ⟨hx, hb, hr, hml, hown, hts, hlk, hA, hin⟩ := C0
  unfold pf_Ve_part at h
  have hl := lv_entry ([.ref q_o, .int p1, .int p2]) (n := 3) (Nat.le_of_ble_eq_true rfl)
  rw [lg_entry_eq]
  generalize (lg_sl ([.ref q_o, .int p1, .int p2]) ++ List.replicate (3 - (lg_sl ([.ref q_o, .int p1, .int p2])).length) Slot.unset).toArray = ls at hl ⊢
  have hl : lv_has ls 3 [(0, .ref q_o), (1, .int p1), (2, .int p2)] := hl
  refine lv_aload_n hx hb d_Ve_part_0 rfl (lv_at hl 0 rfl) ?_
  refine lv_iload_n hx hb d_Ve_part_1 rfl (lv_at hl 1 rfl) ?_
  refine lv_iload_n hx hb d_Ve_part_2 rfl (lv_at hl 2 rfl) ?_
  obtain ⟨r_2, h_1, h⟩ := ch_bind h
  try dsimp only at h
  refine ck_goi (wc := [(q_o, .inr (0, [.int o_many, .ref q_o_parts]))]) (wr := [(q_o_parts, .inl (cI, n_o_parts, .inl f_o_parts))]) (w1 := [(q_o, .inr (0, [.int o_many, .ref q_o_parts]))]) (va_runV (As := [.int p1, .int p2]) (rest := []) ⟨hx, hb, hml, hown, hts⟩ (k_Ve_hasPart l dC dI cI cJ p1 p2 o_many q_o q_o_parts r_2 h_1 _) (cwV 2 hts (gw_V tw_486 tw_487 tw_488 tw_3 tw_489) rfl rfl rfl (by decide +kernel) ⟨Nat.le_of_ble_eq_true rfl, Nat.le_of_ble_eq_true rfl⟩) (ck_preV (wc := [(q_o, .inr (0, [.int o_many, .ref q_o_parts]))]) hK hP hD hS hA hE 0 rfl rfl rfl [0] (by decide) rfl) rfl rfl hl.1 rfl (lv_room (Nat.le_of_ble_eq_true rfl)) d_Ve_part_3 ⟨Nat.le_of_ble_eq_true rfl, Nat.le_of_ble_eq_true rfl⟩) hP hD hS hA [0] [1] rfl rfl (by decide) (by decide) (fun H locs hP hD hS => ?_)
  have hP : va_P (dC, dI) vwCl [(q_o, .inr (0, [.int o_many, .ref q_o_parts])), (q_o_parts, .inl (cI, n_o_parts, .inl f_o_parts))] H := hP.sub [1, 0] rfl
  have hD : va_D A [(q_o, .inr (0, [.int o_many, .ref q_o_parts])), (q_o_parts, .inl (cI, n_o_parts, .inl f_o_parts))] := hD.sub [1, 0] (by decide) rfl
  refine lv_if_eq (tgt := 22) hx hb d_Ve_part_6 (by decide) (fun c_3 => ?_) (fun c_3 => ?_)
  · rw [if_pos c_3] at h
    refine lv_iconst (v := 0) hx hb d_Ve_part_22 (by decide) ?_
    cases h
    exact ck_iret hx hb hr hlk hK hP hD hS d_Ve_part_23
  · rw [if_neg c_3] at h
    refine lv_aload_n hx hb d_Ve_part_9 rfl (lv_at hl 0 rfl) ?_
    refine va_get (D := (dC, dI)) (ci := 0) (v := .ref q_o_parts) (C := R_Ve) (T := T_Ve) (N := 2) hx hb hts (iw_Ve _) hown hK hP 0 rfl rfl 1 (by decide) (hts (.fieldLink R_Ve 19 "ShaderMachine$Vectors" "parts" "[I") (List.mem_cons_of_mem _ tw_45)) (fun _ h9 => h9) rfl d_Ve_part_10 ?_
    refine lv_iconst (v := 4) hx hb d_Ve_part_13 (by decide) ?_
    refine lv_iload_n hx hb d_Ve_part_14 rfl (lv_at hl 1 rfl) ?_
    refine lv_imul hx hb d_Ve_part_15 ?_
    refine lv_iload_n hx hb d_Ve_part_16 rfl (lv_at hl 2 rfl) ?_
    refine lv_iadd hx hb d_Ve_part_17 ?_
    obtain ⟨c_4, h⟩ := ch_ite h
    refine va_iald hx hb hK hP 1 0 rfl rfl (ch_in c_4) d_Ve_part_18 ?_
    refine lv_goto (tgt := 23) hx hb d_Ve_part_19 (by decide) ?_
    cases h
    exact ck_iret hx hb hr hlk hK hP hD hS d_Ve_part_23
def pf_Ve_pick_10 (fu : Nat) (n_p3 : Nat) (n_o_parts : Nat) (f_o_parts : Nat → Int32) : Nat → Int32 → Int32 → Int32 → Int32 → (Nat → Int32) → Option ((Nat → Int32))
  | 0, _, _, _, _, _ => none
  | n + 1, x1, x2, x4, x5, g_f_p3 =>
    if (Int32.ofNat n_p3) ≤ x5 then
      some g_f_p3
    else
      if x4 = 0 then
        if (0 : Int32) ≤ x5 ∧ x5.toNatClampNeg < n_p3 then (
        pf_Ve_pick_10 fu n_p3 n_o_parts f_o_parts n x1 x2 x4 (x5 + 1) (upd g_f_p3 x5.toNatClampNeg (0 : Int32))) else none
      else
        if (0 : Int32) ≤ (((4 : Int32) * x1) + ((x2 >>> (((2 : Int32) * x5) &&& 31)) &&& (3 : Int32))) ∧ (((4 : Int32) * x1) + ((x2 >>> (((2 : Int32) * x5) &&& 31)) &&& (3 : Int32))).toNatClampNeg < n_o_parts then (
        if (0 : Int32) ≤ x5 ∧ x5.toNatClampNeg < n_p3 then (
        pf_Ve_pick_10 fu n_p3 n_o_parts f_o_parts n x1 x2 x4 (x5 + 1) (upd g_f_p3 x5.toNatClampNeg (f_o_parts (((4 : Int32) * x1) + ((x2 >>> (((2 : Int32) * x5) &&& 31)) &&& (3 : Int32))).toNatClampNeg))) else none) else none
def pf_Ve_pick (fu : Nat) (p1 : Int32) (p2 : Int32) (o_many : Int32) (n_p3 : Nat) (f_p3 : Nat → Int32) (n_o_parts : Nat) (f_o_parts : Nat → Int32) : Option ((Nat → Int32)) :=
  Option.bind (pf_Ve_has p1 o_many) (fun r_2 => 
  pf_Ve_pick_10 fu n_p3 n_o_parts f_o_parts fu p1 p2 r_2 (0 : Int32) f_p3)
set_option maxHeartbeats 4000000 in
set_option maxRecDepth 100000 in
theorem k_Ve_pick (l : Launch) (dC : Nat → ClassId) (dI : Nat → Nat → Nat) (cI cJ : ClassId) (fu : Nat) (p1 : Int32) (p2 : Int32) (o_many : Int32) (n_p3 : Nat) (f_p3 : Nat → Int32) (n_o_parts : Nat) (f_o_parts : Nat → Int32) (q_o : Nat) (q_p3 : Nat) (q_o_parts : Nat) (o_f_p3 : Nat → Int32) (h : pf_Ve_pick fu p1 p2 o_many n_p3 f_p3 n_o_parts f_o_parts = some o_f_p3) : ck_v l y_Ve_pick wm_Ve_pick ({ frames := 1, cells := 0, slots := 0, locals := 21 } : Room) [.ref q_o, .int p1, .int p2, .ref q_p3] (dC, dI) [(cI, .int), (cJ, .long)] [(q_o, .inr (0, [.int o_many, .ref q_o_parts])), (q_p3, .inl (cI, n_p3, .inl f_p3)), (q_o_parts, .inl (cI, n_o_parts, .inl f_o_parts))] [(q_o, .inr (0, [.int o_many, .ref q_o_parts])), (q_p3, .inl (cI, n_p3, .inl o_f_p3)), (q_o_parts, .inl (cI, n_o_parts, .inl f_o_parts))] := by
  refine ck_ofv (cc := c_Ve_pick) (maxL := 6) (ret := none) (by decide +kernel) rfl ?_
  intro p e s m below meth c A C0 hK hP hD hS hE
  obtain ⟨hx, hb, hr, hml, hown, hts, hlk, hA, hin⟩ := C0
  have w_10 : ∀ (n_10 : Nat) (x1 : Int32) (x2 : Int32) (x4 : Int32) (x5 : Int32) (g_f_p3 : Nat → Int32), pf_Ve_pick_10 fu n_p3 n_o_parts f_o_parts n_10 x1 x2 x4 x5 g_f_p3 = some o_f_p3 → ∀ (H : Heap) (locs : List Loc), va_P (dC, dI) vwCl [(q_o, .inr (0, [.int o_many, .ref q_o_parts])), (q_p3, .inl (cI, n_p3, .inl g_f_p3)), (q_o_parts, .inl (cI, n_o_parts, .inl f_o_parts))] H → va_D A [(q_o, .inr (0, [.int o_many, .ref q_o_parts])), (q_p3, .inl (cI, n_p3, .inl g_f_p3)), (q_o_parts, .inl (cI, n_o_parts, .inl f_o_parts))] → va_S A s.heap H locs → ∀ ls : Array Slot, lv_has ls 6 [(0, .ref q_o), (1, .int x1), (2, .int x2), (3, .ref q_p3), (4, .int x4), (5, .int x5)] → W p l e ({ frames := 1, cells := 0, slots := 0, locals := 21 } : Room) s m ([.ref q_o, .int p1, .int p2, .ref q_p3] : List Value).toArray below meth c H locs 0 0 (ck_Qv below (dC, dI) [(cI, .int), (cJ, .long)] A ([.ref q_o, .int p1, .int p2, .ref q_p3] : List Value).toArray s [(q_o, .inr (0, [.int o_many, .ref q_o_parts])), (q_p3, .inl (cI, n_p3, .inl o_f_p3)), (q_o_parts, .inl (cI, n_o_parts, .inl f_o_parts))]) (F0 m 10 ls []) := by
    intro n_10
    induction n_10 with
    | zero =>
      intro x1 x2 x4 x5 g_f_p3 h
      cases h
    | succ n_10 ih_10 =>
      intro x1 x2 x4 x5 g_f_p3 h H locs hP hD hS ls hl
      rw [pf_Ve_pick_10] at h
      refine lv_iload hx hb d_Ve_pick_10 (lv_at hl 5 rfl) ?_
      refine lv_aload_n hx hb d_Ve_pick_12 rfl (lv_at hl 3 rfl) ?_
      refine va_alen (v := Int32.ofNat n_p3) hx hb hK hP 1 0 rfl rfl rfl d_Ve_pick_13 ?_
      refine lv_icmp_ge (tgt := 53) hx hb d_Ve_pick_14 (by decide) (fun c_3 => ?_) (fun c_3 => ?_)
      · rw [if_pos c_3] at h
        cases h
        exact ck_vret hx hb hr hlk hK hP hD hS d_Ve_pick_53
      · rw [if_neg c_3] at h
        refine lv_aload_n hx hb d_Ve_pick_17 rfl (lv_at hl 3 rfl) ?_
        refine lv_iload hx hb d_Ve_pick_18 (lv_at hl 5 rfl) ?_
        refine lv_iload hx hb d_Ve_pick_20 (lv_at hl 4 rfl) ?_
        refine lv_if_eq (tgt := 45) hx hb d_Ve_pick_22 (by decide) (fun c_4 => ?_) (fun c_4 => ?_)
        · rw [if_pos c_4] at h
          refine lv_iconst (v := 0) hx hb d_Ve_pick_45 (by decide) ?_
          obtain ⟨c_5, h⟩ := ch_ite h
          refine va_iast hx hb hK hP hD hS 1 0 rfl rfl (ch_in c_5) d_Ve_pick_46 (fun H locs hP hD hS => ?_)
          have hP : va_P (dC, dI) vwCl [(q_o, .inr (0, [.int o_many, .ref q_o_parts])), (q_p3, .inl (cI, n_p3, .inl (upd g_f_p3 x5.toNatClampNeg (0 : Int32)))), (q_o_parts, .inl (cI, n_o_parts, .inl f_o_parts))] H := hP
          have hD : va_D A [(q_o, .inr (0, [.int o_many, .ref q_o_parts])), (q_p3, .inl (cI, n_p3, .inl (upd g_f_p3 x5.toNatClampNeg (0 : Int32)))), (q_o_parts, .inl (cI, n_o_parts, .inl f_o_parts))] := hD
          refine lv_iinc (v := (x5 + 1)) (lv' := [(5, .int (x5 + 1)), (0, .ref q_o), (1, .int x1), (2, .int x2), (3, .ref q_p3), (4, .int x4)]) hx hb d_Ve_pick_47 hl (k := 5) rfl (by rfl) (by decide) rfl (fun ls hl => ?_)
          refine lv_goto (tgt := 10) hx hb d_Ve_pick_50 (by decide) ?_
          exact ih_10 x1 x2 x4 (x5 + 1) (upd g_f_p3 x5.toNatClampNeg (0 : Int32)) h _ _ hP hD hS _ (lv_sub hl [1, 2, 3, 4, 5, 0] rfl)
        · rw [if_neg c_4] at h
          refine lv_aload_n hx hb d_Ve_pick_25 rfl (lv_at hl 0 rfl) ?_
          refine va_get (D := (dC, dI)) (ci := 0) (v := .ref q_o_parts) (C := R_Ve) (T := T_Ve) (N := 2) hx hb hts (iw_Ve _) hown hK hP 0 rfl rfl 1 (by decide) (hts (.fieldLink R_Ve 19 "ShaderMachine$Vectors" "parts" "[I") (List.mem_cons_of_mem _ tw_45)) (fun _ h9 => h9) rfl d_Ve_pick_26 ?_
          refine lv_iconst (v := 4) hx hb d_Ve_pick_29 (by decide) ?_
          refine lv_iload_n hx hb d_Ve_pick_30 rfl (lv_at hl 1 rfl) ?_
          refine lv_imul hx hb d_Ve_pick_31 ?_
          refine lv_iload_n hx hb d_Ve_pick_32 rfl (lv_at hl 2 rfl) ?_
          refine lv_iconst (v := 2) hx hb d_Ve_pick_33 (by decide) ?_
          refine lv_iload hx hb d_Ve_pick_34 (lv_at hl 5 rfl) ?_
          refine lv_imul hx hb d_Ve_pick_36 ?_
          refine lv_ishr hx hb d_Ve_pick_37 ?_
          refine lv_iconst (v := 3) hx hb d_Ve_pick_38 (by decide) ?_
          refine lv_iand hx hb d_Ve_pick_39 ?_
          refine lv_iadd hx hb d_Ve_pick_40 ?_
          obtain ⟨c_6, h⟩ := ch_ite h
          refine va_iald hx hb hK hP 2 0 rfl rfl (ch_in c_6) d_Ve_pick_41 ?_
          refine lv_goto (tgt := 46) hx hb d_Ve_pick_42 (by decide) ?_
          obtain ⟨c_7, h⟩ := ch_ite h
          refine va_iast hx hb hK hP hD hS 1 0 rfl rfl (ch_in c_7) d_Ve_pick_46 (fun H locs hP hD hS => ?_)
          have hP : va_P (dC, dI) vwCl [(q_o, .inr (0, [.int o_many, .ref q_o_parts])), (q_p3, .inl (cI, n_p3, .inl (upd g_f_p3 x5.toNatClampNeg (f_o_parts (((4 : Int32) * x1) + ((x2 >>> (((2 : Int32) * x5) &&& 31)) &&& (3 : Int32))).toNatClampNeg)))), (q_o_parts, .inl (cI, n_o_parts, .inl f_o_parts))] H := hP
          have hD : va_D A [(q_o, .inr (0, [.int o_many, .ref q_o_parts])), (q_p3, .inl (cI, n_p3, .inl (upd g_f_p3 x5.toNatClampNeg (f_o_parts (((4 : Int32) * x1) + ((x2 >>> (((2 : Int32) * x5) &&& 31)) &&& (3 : Int32))).toNatClampNeg)))), (q_o_parts, .inl (cI, n_o_parts, .inl f_o_parts))] := hD
          refine lv_iinc (v := (x5 + 1)) (lv' := [(5, .int (x5 + 1)), (0, .ref q_o), (1, .int x1), (2, .int x2), (3, .ref q_p3), (4, .int x4)]) hx hb d_Ve_pick_47 hl (k := 5) rfl (by rfl) (by decide) rfl (fun ls hl => ?_)
          refine lv_goto (tgt := 10) hx hb d_Ve_pick_50 (by decide) ?_
          exact ih_10 x1 x2 x4 (x5 + 1) (upd g_f_p3 x5.toNatClampNeg (f_o_parts (((4 : Int32) * x1) + ((x2 >>> (((2 : Int32) * x5) &&& 31)) &&& (3 : Int32))).toNatClampNeg)) h _ _ hP hD hS _ (lv_sub hl [1, 2, 3, 4, 5, 0] rfl)
  unfold pf_Ve_pick at h
  have hl := lv_entry ([.ref q_o, .int p1, .int p2, .ref q_p3]) (n := 6) (Nat.le_of_ble_eq_true rfl)
  rw [lg_entry_eq]
  generalize (lg_sl ([.ref q_o, .int p1, .int p2, .ref q_p3]) ++ List.replicate (6 - (lg_sl ([.ref q_o, .int p1, .int p2, .ref q_p3])).length) Slot.unset).toArray = ls at hl ⊢
  have hl : lv_has ls 6 [(0, .ref q_o), (1, .int p1), (2, .int p2), (3, .ref q_p3)] := hl
  refine lv_aload_n hx hb d_Ve_pick_0 rfl (lv_at hl 0 rfl) ?_
  refine lv_iload_n hx hb d_Ve_pick_1 rfl (lv_at hl 1 rfl) ?_
  obtain ⟨r_2, h_1, h⟩ := ch_bind h
  try dsimp only at h
  refine ck_goi (wc := [(q_o, .inr (0, [.int o_many, .ref q_o_parts]))]) (wr := [(q_p3, .inl (cI, n_p3, .inl f_p3)), (q_o_parts, .inl (cI, n_o_parts, .inl f_o_parts))]) (w1 := [(q_o, .inr (0, [.int o_many, .ref q_o_parts]))]) (va_runV (As := [.int p1]) (rest := []) ⟨hx, hb, hml, hown, hts⟩ (k_Ve_has l dC dI cI cJ p1 o_many q_o q_o_parts r_2 h_1 _) (cwV 1 hts (gw_V tw_575 tw_474 tw_475 tw_3 tw_476) rfl rfl rfl (by decide +kernel) ⟨Nat.le_of_ble_eq_true rfl, Nat.le_of_ble_eq_true rfl⟩) (ck_preV (wc := [(q_o, .inr (0, [.int o_many, .ref q_o_parts]))]) hK hP hD hS hA hE 0 rfl rfl rfl [0] (by decide) rfl) rfl rfl hl.1 rfl (lv_room (Nat.le_of_ble_eq_true rfl)) d_Ve_pick_2 ⟨Nat.le_of_ble_eq_true rfl, Nat.le_of_ble_eq_true rfl⟩) hP hD hS hA [0] [1, 2] rfl rfl (by decide) (by decide) (fun H locs hP hD hS => ?_)
  have hP : va_P (dC, dI) vwCl [(q_o, .inr (0, [.int o_many, .ref q_o_parts])), (q_p3, .inl (cI, n_p3, .inl f_p3)), (q_o_parts, .inl (cI, n_o_parts, .inl f_o_parts))] H := hP.sub [2, 0, 1] rfl
  have hD : va_D A [(q_o, .inr (0, [.int o_many, .ref q_o_parts])), (q_p3, .inl (cI, n_p3, .inl f_p3)), (q_o_parts, .inl (cI, n_o_parts, .inl f_o_parts))] := hD.sub [2, 0, 1] (by decide) rfl
  refine lv_istore (lv' := [(4, .int r_2), (0, .ref q_o), (1, .int p1), (2, .int p2), (3, .ref q_p3)]) hx hb d_Ve_pick_5 hl (by decide) rfl (fun ls hl => ?_)
  refine lv_iconst (v := 0) hx hb d_Ve_pick_7 (by decide) ?_
  refine lv_istore (lv' := [(5, .int (0 : Int32)), (4, .int r_2), (0, .ref q_o), (1, .int p1), (2, .int p2), (3, .ref q_p3)]) hx hb d_Ve_pick_8 hl (by decide) rfl (fun ls hl => ?_)
  exact w_10 fu p1 p2 r_2 (0 : Int32) f_p3 h _ _ hP hD hS _ (lv_sub hl [2, 3, 4, 5, 1, 0] rfl)
def pf_Ve_setPart (p1 : Int32) (p2 : Int32) (p3 : Int32) (o_many : Int32) (n_o_parts : Nat) (f_o_parts : Nat → Int32) : Option ((Nat → Int32)) :=
  Option.bind (pf_Ve_hasPart p1 p2 o_many) (fun r_2 => 
  if r_2 = 0 then
    some f_o_parts
  else
    if (0 : Int32) ≤ (((4 : Int32) * p1) + p2) ∧ (((4 : Int32) * p1) + p2).toNatClampNeg < n_o_parts then (
    some (upd f_o_parts (((4 : Int32) * p1) + p2).toNatClampNeg p3)) else none)
set_option maxHeartbeats 4000000 in
set_option maxRecDepth 100000 in
theorem k_Ve_setPart (l : Launch) (dC : Nat → ClassId) (dI : Nat → Nat → Nat) (cI cJ : ClassId) (p1 : Int32) (p2 : Int32) (p3 : Int32) (o_many : Int32) (n_o_parts : Nat) (f_o_parts : Nat → Int32) (q_o : Nat) (q_o_parts : Nat) (o_f_o_parts : Nat → Int32) (h : pf_Ve_setPart p1 p2 p3 o_many n_o_parts f_o_parts = some o_f_o_parts) : ck_v l y_Ve_setPart wm_Ve_setPart ({ frames := 1, cells := 0, slots := 0, locals := 22 } : Room) [.ref q_o, .int p1, .int p2, .int p3] (dC, dI) [(cI, .int), (cJ, .long)] [(q_o, .inr (0, [.int o_many, .ref q_o_parts])), (q_o_parts, .inl (cI, n_o_parts, .inl f_o_parts))] [(q_o, .inr (0, [.int o_many, .ref q_o_parts])), (q_o_parts, .inl (cI, n_o_parts, .inl o_f_o_parts))] := by
  refine ck_ofv (cc := c_Ve_setPart) (maxL := 4) (ret := none) (by decide +kernel) rfl ?_
  intro p e s m below meth c A C0 hK hP hD hS hE
  obtain ⟨hx, hb, hr, hml, hown, hts, hlk, hA, hin⟩ := C0
  unfold pf_Ve_setPart at h
  have hl := lv_entry ([.ref q_o, .int p1, .int p2, .int p3]) (n := 4) (Nat.le_of_ble_eq_true rfl)
  rw [lg_entry_eq]
  generalize (lg_sl ([.ref q_o, .int p1, .int p2, .int p3]) ++ List.replicate (4 - (lg_sl ([.ref q_o, .int p1, .int p2, .int p3])).length) Slot.unset).toArray = ls at hl ⊢
  have hl : lv_has ls 4 [(0, .ref q_o), (1, .int p1), (2, .int p2), (3, .int p3)] := hl
  refine lv_aload_n hx hb d_Ve_setPart_0 rfl (lv_at hl 0 rfl) ?_
  refine lv_iload_n hx hb d_Ve_setPart_1 rfl (lv_at hl 1 rfl) ?_
  refine lv_iload_n hx hb d_Ve_setPart_2 rfl (lv_at hl 2 rfl) ?_
  obtain ⟨r_2, h_1, h⟩ := ch_bind h
  try dsimp only at h
  refine ck_goi (wc := [(q_o, .inr (0, [.int o_many, .ref q_o_parts]))]) (wr := [(q_o_parts, .inl (cI, n_o_parts, .inl f_o_parts))]) (w1 := [(q_o, .inr (0, [.int o_many, .ref q_o_parts]))]) (va_runV (As := [.int p1, .int p2]) (rest := []) ⟨hx, hb, hml, hown, hts⟩ (k_Ve_hasPart l dC dI cI cJ p1 p2 o_many q_o q_o_parts r_2 h_1 _) (cwV 2 hts (gw_V tw_486 tw_487 tw_488 tw_3 tw_489) rfl rfl rfl (by decide +kernel) ⟨Nat.le_of_ble_eq_true rfl, Nat.le_of_ble_eq_true rfl⟩) (ck_preV (wc := [(q_o, .inr (0, [.int o_many, .ref q_o_parts]))]) hK hP hD hS hA hE 0 rfl rfl rfl [0] (by decide) rfl) rfl rfl hl.1 rfl (lv_room (Nat.le_of_ble_eq_true rfl)) d_Ve_setPart_3 ⟨Nat.le_of_ble_eq_true rfl, Nat.le_of_ble_eq_true rfl⟩) hP hD hS hA [0] [1] rfl rfl (by decide) (by decide) (fun H locs hP hD hS => ?_)
  have hP : va_P (dC, dI) vwCl [(q_o, .inr (0, [.int o_many, .ref q_o_parts])), (q_o_parts, .inl (cI, n_o_parts, .inl f_o_parts))] H := hP.sub [1, 0] rfl
  have hD : va_D A [(q_o, .inr (0, [.int o_many, .ref q_o_parts])), (q_o_parts, .inl (cI, n_o_parts, .inl f_o_parts))] := hD.sub [1, 0] (by decide) rfl
  refine lv_if_eq (tgt := 20) hx hb d_Ve_setPart_6 (by decide) (fun c_3 => ?_) (fun c_3 => ?_)
  · rw [if_pos c_3] at h
    cases h
    exact ck_vret hx hb hr hlk hK hP hD hS d_Ve_setPart_20
  · rw [if_neg c_3] at h
    refine lv_aload_n hx hb d_Ve_setPart_9 rfl (lv_at hl 0 rfl) ?_
    refine va_get (D := (dC, dI)) (ci := 0) (v := .ref q_o_parts) (C := R_Ve) (T := T_Ve) (N := 2) hx hb hts (iw_Ve _) hown hK hP 0 rfl rfl 1 (by decide) (hts (.fieldLink R_Ve 19 "ShaderMachine$Vectors" "parts" "[I") (List.mem_cons_of_mem _ tw_45)) (fun _ h9 => h9) rfl d_Ve_setPart_10 ?_
    refine lv_iconst (v := 4) hx hb d_Ve_setPart_13 (by decide) ?_
    refine lv_iload_n hx hb d_Ve_setPart_14 rfl (lv_at hl 1 rfl) ?_
    refine lv_imul hx hb d_Ve_setPart_15 ?_
    refine lv_iload_n hx hb d_Ve_setPart_16 rfl (lv_at hl 2 rfl) ?_
    refine lv_iadd hx hb d_Ve_setPart_17 ?_
    refine lv_iload_n hx hb d_Ve_setPart_18 rfl (lv_at hl 3 rfl) ?_
    obtain ⟨c_4, h⟩ := ch_ite h
    refine va_iast hx hb hK hP hD hS 1 0 rfl rfl (ch_in c_4) d_Ve_setPart_19 (fun H locs hP hD hS => ?_)
    have hP : va_P (dC, dI) vwCl [(q_o, .inr (0, [.int o_many, .ref q_o_parts])), (q_o_parts, .inl (cI, n_o_parts, .inl (upd f_o_parts (((4 : Int32) * p1) + p2).toNatClampNeg p3)))] H := hP
    have hD : va_D A [(q_o, .inr (0, [.int o_many, .ref q_o_parts])), (q_o_parts, .inl (cI, n_o_parts, .inl (upd f_o_parts (((4 : Int32) * p1) + p2).toNatClampNeg p3)))] := hD
    cases h
    exact ck_vret hx hb hr hlk hK hP hD hS d_Ve_setPart_20
def pf_Ve_set (p1 : Int32) (p2 : Int32) (p3 : Int32) (p4 : Int32) (p5 : Int32) (o_many : Int32) (n_o_parts : Nat) (f_o_parts : Nat → Int32) : Option ((Nat → Int32)) :=
  Option.bind (pf_Ve_setPart p1 (0 : Int32) p2 o_many n_o_parts f_o_parts) (fun w_2 => 
  Option.bind (pf_Ve_setPart p1 (1 : Int32) p3 o_many n_o_parts w_2) (fun w_4 => 
  Option.bind (pf_Ve_setPart p1 (2 : Int32) p4 o_many n_o_parts w_4) (fun w_6 => 
  Option.bind (pf_Ve_setPart p1 (3 : Int32) p5 o_many n_o_parts w_6) (fun w_8 => 
  some w_8))))
set_option maxHeartbeats 4000000 in
set_option maxRecDepth 100000 in
theorem k_Ve_set (l : Launch) (dC : Nat → ClassId) (dI : Nat → Nat → Nat) (cI cJ : ClassId) (p1 : Int32) (p2 : Int32) (p3 : Int32) (p4 : Int32) (p5 : Int32) (o_many : Int32) (n_o_parts : Nat) (f_o_parts : Nat → Int32) (q_o : Nat) (q_o_parts : Nat) (o_f_o_parts : Nat → Int32) (h : pf_Ve_set p1 p2 p3 p4 p5 o_many n_o_parts f_o_parts = some o_f_o_parts) : ck_v l y_Ve_set wm_Ve_set ({ frames := 2, cells := 0, slots := 0, locals := 45 } : Room) [.ref q_o, .int p1, .int p2, .int p3, .int p4, .int p5] (dC, dI) [(cI, .int), (cJ, .long)] [(q_o, .inr (0, [.int o_many, .ref q_o_parts])), (q_o_parts, .inl (cI, n_o_parts, .inl f_o_parts))] [(q_o, .inr (0, [.int o_many, .ref q_o_parts])), (q_o_parts, .inl (cI, n_o_parts, .inl o_f_o_parts))] := by
  refine ck_ofv (cc := c_Ve_set) (maxL := 6) (ret := none) (by decide +kernel) rfl ?_
  intro p e s m below meth c A C0 hK hP hD hS hE
  obtain ⟨hx, hb, hr, hml, hown, hts, hlk, hA, hin⟩ := C0
  unfold pf_Ve_set at h
  have hl := lv_entry ([.ref q_o, .int p1, .int p2, .int p3, .int p4, .int p5]) (n := 6) (Nat.le_of_ble_eq_true rfl)
  rw [lg_entry_eq]
  generalize (lg_sl ([.ref q_o, .int p1, .int p2, .int p3, .int p4, .int p5]) ++ List.replicate (6 - (lg_sl ([.ref q_o, .int p1, .int p2, .int p3, .int p4, .int p5])).length) Slot.unset).toArray = ls at hl ⊢
  have hl : lv_has ls 6 [(0, .ref q_o), (1, .int p1), (2, .int p2), (3, .int p3), (4, .int p4), (5, .int p5)] := hl
  refine lv_aload_n hx hb d_Ve_set_0 rfl (lv_at hl 0 rfl) ?_
  refine lv_iload_n hx hb d_Ve_set_1 rfl (lv_at hl 1 rfl) ?_
  refine lv_iconst (v := 0) hx hb d_Ve_set_2 (by decide) ?_
  refine lv_iload_n hx hb d_Ve_set_3 rfl (lv_at hl 2 rfl) ?_
  obtain ⟨w_2, h_1, h⟩ := ch_bind h
  try dsimp only at h
  refine ck_gov (wc := [(q_o, .inr (0, [.int o_many, .ref q_o_parts])), (q_o_parts, .inl (cI, n_o_parts, .inl f_o_parts))]) (wr := []) (w1 := [(q_o, .inr (0, [.int o_many, .ref q_o_parts])), (q_o_parts, .inl (cI, n_o_parts, .inl w_2))]) (va_runV (As := [.int p1, .int (0 : Int32), .int p2]) (rest := []) ⟨hx, hb, hml, hown, hts⟩ (k_Ve_setPart l dC dI cI cJ p1 (0 : Int32) p2 o_many n_o_parts f_o_parts q_o q_o_parts w_2 h_1 _) (cwV 3 hts (gw_V tw_482 tw_483 tw_484 tw_3 tw_485) rfl rfl rfl (by decide +kernel) ⟨Nat.le_of_ble_eq_true rfl, Nat.le_of_ble_eq_true rfl⟩) (ck_preV (wc := [(q_o, .inr (0, [.int o_many, .ref q_o_parts])), (q_o_parts, .inl (cI, n_o_parts, .inl f_o_parts))]) hK hP hD hS hA hE 0 rfl rfl rfl [0, 1] (by decide) rfl) rfl rfl hl.1 rfl (lv_room (Nat.le_of_ble_eq_true rfl)) d_Ve_set_4 ⟨Nat.le_of_ble_eq_true rfl, Nat.le_of_ble_eq_true rfl⟩) hP hD hS hA [0, 1] [] rfl rfl (by decide) (by decide) (fun H locs hP hD hS => ?_)
  have hP : va_P (dC, dI) vwCl [(q_o, .inr (0, [.int o_many, .ref q_o_parts])), (q_o_parts, .inl (cI, n_o_parts, .inl w_2))] H := hP.sub [0, 1] rfl
  have hD : va_D A [(q_o, .inr (0, [.int o_many, .ref q_o_parts])), (q_o_parts, .inl (cI, n_o_parts, .inl w_2))] := hD.sub [0, 1] (by decide) rfl
  refine lv_aload_n hx hb d_Ve_set_7 rfl (lv_at hl 0 rfl) ?_
  refine lv_iload_n hx hb d_Ve_set_8 rfl (lv_at hl 1 rfl) ?_
  refine lv_iconst (v := 1) hx hb d_Ve_set_9 (by decide) ?_
  refine lv_iload_n hx hb d_Ve_set_10 rfl (lv_at hl 3 rfl) ?_
  obtain ⟨w_4, h_3, h⟩ := ch_bind h
  try dsimp only at h
  refine ck_gov (wc := [(q_o, .inr (0, [.int o_many, .ref q_o_parts])), (q_o_parts, .inl (cI, n_o_parts, .inl w_2))]) (wr := []) (w1 := [(q_o, .inr (0, [.int o_many, .ref q_o_parts])), (q_o_parts, .inl (cI, n_o_parts, .inl w_4))]) (va_runV (As := [.int p1, .int (1 : Int32), .int p3]) (rest := []) ⟨hx, hb, hml, hown, hts⟩ (k_Ve_setPart l dC dI cI cJ p1 (1 : Int32) p3 o_many n_o_parts w_2 q_o q_o_parts w_4 h_3 _) (cwV 3 hts (gw_V tw_482 tw_483 tw_484 tw_3 tw_485) rfl rfl rfl (by decide +kernel) ⟨Nat.le_of_ble_eq_true rfl, Nat.le_of_ble_eq_true rfl⟩) (ck_preV (wc := [(q_o, .inr (0, [.int o_many, .ref q_o_parts])), (q_o_parts, .inl (cI, n_o_parts, .inl w_2))]) hK hP hD hS hA hE 0 rfl rfl rfl [0, 1] (by decide) rfl) rfl rfl hl.1 rfl (lv_room (Nat.le_of_ble_eq_true rfl)) d_Ve_set_11 ⟨Nat.le_of_ble_eq_true rfl, Nat.le_of_ble_eq_true rfl⟩) hP hD hS hA [0, 1] [] rfl rfl (by decide) (by decide) (fun H locs hP hD hS => ?_)
  have hP : va_P (dC, dI) vwCl [(q_o, .inr (0, [.int o_many, .ref q_o_parts])), (q_o_parts, .inl (cI, n_o_parts, .inl w_4))] H := hP.sub [0, 1] rfl
  have hD : va_D A [(q_o, .inr (0, [.int o_many, .ref q_o_parts])), (q_o_parts, .inl (cI, n_o_parts, .inl w_4))] := hD.sub [0, 1] (by decide) rfl
  refine lv_aload_n hx hb d_Ve_set_14 rfl (lv_at hl 0 rfl) ?_
  refine lv_iload_n hx hb d_Ve_set_15 rfl (lv_at hl 1 rfl) ?_
  refine lv_iconst (v := 2) hx hb d_Ve_set_16 (by decide) ?_
  refine lv_iload hx hb d_Ve_set_17 (lv_at hl 4 rfl) ?_
  obtain ⟨w_6, h_5, h⟩ := ch_bind h
  try dsimp only at h
  refine ck_gov (wc := [(q_o, .inr (0, [.int o_many, .ref q_o_parts])), (q_o_parts, .inl (cI, n_o_parts, .inl w_4))]) (wr := []) (w1 := [(q_o, .inr (0, [.int o_many, .ref q_o_parts])), (q_o_parts, .inl (cI, n_o_parts, .inl w_6))]) (va_runV (As := [.int p1, .int (2 : Int32), .int p4]) (rest := []) ⟨hx, hb, hml, hown, hts⟩ (k_Ve_setPart l dC dI cI cJ p1 (2 : Int32) p4 o_many n_o_parts w_4 q_o q_o_parts w_6 h_5 _) (cwV 3 hts (gw_V tw_482 tw_483 tw_484 tw_3 tw_485) rfl rfl rfl (by decide +kernel) ⟨Nat.le_of_ble_eq_true rfl, Nat.le_of_ble_eq_true rfl⟩) (ck_preV (wc := [(q_o, .inr (0, [.int o_many, .ref q_o_parts])), (q_o_parts, .inl (cI, n_o_parts, .inl w_4))]) hK hP hD hS hA hE 0 rfl rfl rfl [0, 1] (by decide) rfl) rfl rfl hl.1 rfl (lv_room (Nat.le_of_ble_eq_true rfl)) d_Ve_set_19 ⟨Nat.le_of_ble_eq_true rfl, Nat.le_of_ble_eq_true rfl⟩) hP hD hS hA [0, 1] [] rfl rfl (by decide) (by decide) (fun H locs hP hD hS => ?_)
  have hP : va_P (dC, dI) vwCl [(q_o, .inr (0, [.int o_many, .ref q_o_parts])), (q_o_parts, .inl (cI, n_o_parts, .inl w_6))] H := hP.sub [0, 1] rfl
  have hD : va_D A [(q_o, .inr (0, [.int o_many, .ref q_o_parts])), (q_o_parts, .inl (cI, n_o_parts, .inl w_6))] := hD.sub [0, 1] (by decide) rfl
  refine lv_aload_n hx hb d_Ve_set_22 rfl (lv_at hl 0 rfl) ?_
  refine lv_iload_n hx hb d_Ve_set_23 rfl (lv_at hl 1 rfl) ?_
  refine lv_iconst (v := 3) hx hb d_Ve_set_24 (by decide) ?_
  refine lv_iload hx hb d_Ve_set_25 (lv_at hl 5 rfl) ?_
  obtain ⟨w_8, h_7, h⟩ := ch_bind h
  try dsimp only at h
  refine ck_gov (wc := [(q_o, .inr (0, [.int o_many, .ref q_o_parts])), (q_o_parts, .inl (cI, n_o_parts, .inl w_6))]) (wr := []) (w1 := [(q_o, .inr (0, [.int o_many, .ref q_o_parts])), (q_o_parts, .inl (cI, n_o_parts, .inl w_8))]) (va_runV (As := [.int p1, .int (3 : Int32), .int p5]) (rest := []) ⟨hx, hb, hml, hown, hts⟩ (k_Ve_setPart l dC dI cI cJ p1 (3 : Int32) p5 o_many n_o_parts w_6 q_o q_o_parts w_8 h_7 _) (cwV 3 hts (gw_V tw_482 tw_483 tw_484 tw_3 tw_485) rfl rfl rfl (by decide +kernel) ⟨Nat.le_of_ble_eq_true rfl, Nat.le_of_ble_eq_true rfl⟩) (ck_preV (wc := [(q_o, .inr (0, [.int o_many, .ref q_o_parts])), (q_o_parts, .inl (cI, n_o_parts, .inl w_6))]) hK hP hD hS hA hE 0 rfl rfl rfl [0, 1] (by decide) rfl) rfl rfl hl.1 rfl (lv_room (Nat.le_of_ble_eq_true rfl)) d_Ve_set_27 ⟨Nat.le_of_ble_eq_true rfl, Nat.le_of_ble_eq_true rfl⟩) hP hD hS hA [0, 1] [] rfl rfl (by decide) (by decide) (fun H locs hP hD hS => ?_)
  have hP : va_P (dC, dI) vwCl [(q_o, .inr (0, [.int o_many, .ref q_o_parts])), (q_o_parts, .inl (cI, n_o_parts, .inl w_8))] H := hP.sub [0, 1] rfl
  have hD : va_D A [(q_o, .inr (0, [.int o_many, .ref q_o_parts])), (q_o_parts, .inl (cI, n_o_parts, .inl w_8))] := hD.sub [0, 1] (by decide) rfl
  cases h
  exact ck_vret hx hb hr hlk hK hP hD hS d_Ve_set_30
def pf_Ar_fill_5 (fu : Nat) (n_p1 : Nat) : Nat → Int32 → Int32 → Int32 → (Nat → Int32) → Option ((Nat → Int32))
  | 0, _, _, _, _ => none
  | n + 1, x1, x2, x3, g_f_p1 =>
    if x3 ≤ x2 then
      some g_f_p1
    else
      if (0 : Int32) ≤ x2 ∧ x2.toNatClampNeg < n_p1 then (
      pf_Ar_fill_5 fu n_p1 n x1 (x2 + 1) x3 (upd g_f_p1 x2.toNatClampNeg x1)) else none
def pf_Ar_fill (fu : Nat) (p2 : Int32) (n_p1 : Nat) (f_p1 : Nat → Int32) : Option ((Nat → Int32)) :=
  pf_Ar_fill_5 fu n_p1 fu p2 (0 : Int32) (Int32.ofNat n_p1) f_p1
set_option maxHeartbeats 4000000 in
set_option maxRecDepth 100000 in
theorem k_Ar_fill (l : Launch) (dC : Nat → ClassId) (dI : Nat → Nat → Nat) (cI cJ : ClassId) (fu : Nat) (p2 : Int32) (n_p1 : Nat) (f_p1 : Nat → Int32) (q_p1 : Nat) (o_f_p1 : Nat → Int32) (h : pf_Ar_fill fu p2 n_p1 f_p1 = some o_f_p1) : ck_v l y_Ar_fill wm_Ar_fill ({ frames := 0, cells := 0, slots := 0, locals := 0 } : Room) [.ref q_p1, .int p2] (dC, dI) [(cI, .int), (cJ, .long)] [(q_p1, .inl (cI, n_p1, .inl f_p1))] [(q_p1, .inl (cI, n_p1, .inl o_f_p1))] := by
  refine ck_ofv (cc := c_Ar_fill) (maxL := 4) (ret := none) (by decide +kernel) rfl ?_
  intro p e s m below meth c A C0 hK hP hD hS hE
  obtain ⟨hx, hb, hr, hml, hown, hts, hlk, hA, hin⟩ := C0
  have w_5 : ∀ (n_5 : Nat) (x1 : Int32) (x2 : Int32) (x3 : Int32) (g_f_p1 : Nat → Int32), pf_Ar_fill_5 fu n_p1 n_5 x1 x2 x3 g_f_p1 = some o_f_p1 → ∀ (H : Heap) (locs : List Loc), va_P (dC, dI) vwCl [(q_p1, .inl (cI, n_p1, .inl g_f_p1))] H → va_D A [(q_p1, .inl (cI, n_p1, .inl g_f_p1))] → va_S A s.heap H locs → ∀ ls : Array Slot, lv_has ls 4 [(0, .ref q_p1), (1, .int x1), (2, .int x2), (3, .int x3)] → W p l e ({ frames := 0, cells := 0, slots := 0, locals := 0 } : Room) s m ([.ref q_p1, .int p2] : List Value).toArray below meth c H locs 0 0 (ck_Qv below (dC, dI) [(cI, .int), (cJ, .long)] A ([.ref q_p1, .int p2] : List Value).toArray s [(q_p1, .inl (cI, n_p1, .inl o_f_p1))]) (F0 m 5 ls []) := by
    intro n_5
    induction n_5 with
    | zero =>
      intro x1 x2 x3 g_f_p1 h
      cases h
    | succ n_5 ih_5 =>
      intro x1 x2 x3 g_f_p1 h H locs hP hD hS ls hl
      rw [pf_Ar_fill_5] at h
      refine lv_iload_n hx hb d_Ar_fill_5 rfl (lv_at hl 2 rfl) ?_
      refine lv_iload_n hx hb d_Ar_fill_6 rfl (lv_at hl 3 rfl) ?_
      refine lv_icmp_ge (tgt := 20) hx hb d_Ar_fill_7 (by decide) (fun c_1 => ?_) (fun c_1 => ?_)
      · rw [if_pos c_1] at h
        cases h
        exact ck_vret hx hb hr hlk hK hP hD hS d_Ar_fill_20
      · rw [if_neg c_1] at h
        refine lv_aload_n hx hb d_Ar_fill_10 rfl (lv_at hl 0 rfl) ?_
        refine lv_iload_n hx hb d_Ar_fill_11 rfl (lv_at hl 2 rfl) ?_
        refine lv_iload_n hx hb d_Ar_fill_12 rfl (lv_at hl 1 rfl) ?_
        obtain ⟨c_2, h⟩ := ch_ite h
        refine va_iast hx hb hK hP hD hS 0 0 rfl rfl (ch_in c_2) d_Ar_fill_13 (fun H locs hP hD hS => ?_)
        have hP : va_P (dC, dI) vwCl [(q_p1, .inl (cI, n_p1, .inl (upd g_f_p1 x2.toNatClampNeg x1)))] H := hP
        have hD : va_D A [(q_p1, .inl (cI, n_p1, .inl (upd g_f_p1 x2.toNatClampNeg x1)))] := hD
        refine lv_iinc (v := (x2 + 1)) (lv' := [(2, .int (x2 + 1)), (0, .ref q_p1), (1, .int x1), (3, .int x3)]) hx hb d_Ar_fill_14 hl (k := 2) rfl (by rfl) (by decide) rfl (fun ls hl => ?_)
        refine lv_goto (tgt := 5) hx hb d_Ar_fill_17 (by decide) ?_
        exact ih_5 x1 (x2 + 1) x3 (upd g_f_p1 x2.toNatClampNeg x1) h _ _ hP hD hS _ (lv_sub hl [1, 2, 0, 3] rfl)
  unfold pf_Ar_fill at h
  have hl := lv_entry ([.ref q_p1, .int p2]) (n := 4) (Nat.le_of_ble_eq_true rfl)
  rw [lg_entry_eq]
  generalize (lg_sl ([.ref q_p1, .int p2]) ++ List.replicate (4 - (lg_sl ([.ref q_p1, .int p2])).length) Slot.unset).toArray = ls at hl ⊢
  have hl : lv_has ls 4 [(0, .ref q_p1), (1, .int p2)] := hl
  refine lv_iconst (v := 0) hx hb d_Ar_fill_0 (by decide) ?_
  refine lv_istore_n (lv' := [(2, .int (0 : Int32)), (0, .ref q_p1), (1, .int p2)]) hx hb d_Ar_fill_1 rfl hl (by decide) rfl (fun ls hl => ?_)
  refine lv_aload_n hx hb d_Ar_fill_2 rfl (lv_at hl 1 rfl) ?_
  refine va_alen (v := Int32.ofNat n_p1) hx hb hK hP 0 0 rfl rfl rfl d_Ar_fill_3 ?_
  refine lv_istore_n (lv' := [(3, .int (Int32.ofNat n_p1)), (2, .int (0 : Int32)), (0, .ref q_p1), (1, .int p2)]) hx hb d_Ar_fill_4 rfl hl (by decide) rfl (fun ls hl => ?_)
  exact w_5 fu p2 (0 : Int32) (Int32.ofNat n_p1) f_p1 h _ _ hP hD hS _ (lv_sub hl [2, 3, 1, 0] rfl)
def pf_Ve_clear (fu : Nat) (n_o_parts : Nat) (f_o_parts : Nat → Int32) : Option ((Nat → Int32)) :=
  Option.bind (pf_Ar_fill fu (0 : Int32) n_o_parts f_o_parts) (fun w_2 => 
  some w_2)
set_option maxHeartbeats 4000000 in
set_option maxRecDepth 100000 in
theorem k_Ve_clear (l : Launch) (dC : Nat → ClassId) (dI : Nat → Nat → Nat) (cI cJ : ClassId) (fu : Nat) (o_many : Int32) (n_o_parts : Nat) (f_o_parts : Nat → Int32) (q_o : Nat) (q_o_parts : Nat) (o_f_o_parts : Nat → Int32) (h : pf_Ve_clear fu n_o_parts f_o_parts = some o_f_o_parts) : ck_v l y_Ve_clear wm_Ve_clear ({ frames := 1, cells := 0, slots := 0, locals := 23 } : Room) [.ref q_o] (dC, dI) [(cI, .int), (cJ, .long)] [(q_o, .inr (0, [.int o_many, .ref q_o_parts])), (q_o_parts, .inl (cI, n_o_parts, .inl f_o_parts))] [(q_o, .inr (0, [.int o_many, .ref q_o_parts])), (q_o_parts, .inl (cI, n_o_parts, .inl o_f_o_parts))] := by
  refine ck_ofv (cc := c_Ve_clear) (maxL := 1) (ret := none) (by decide +kernel) rfl ?_
  intro p e s m below meth c A C0 hK hP hD hS hE
  obtain ⟨hx, hb, hr, hml, hown, hts, hlk, hA, hin⟩ := C0
  unfold pf_Ve_clear at h
  have hl := lv_entry ([.ref q_o]) (n := 1) (Nat.le_of_ble_eq_true rfl)
  rw [lg_entry_eq]
  generalize (lg_sl ([.ref q_o]) ++ List.replicate (1 - (lg_sl ([.ref q_o])).length) Slot.unset).toArray = ls at hl ⊢
  have hl : lv_has ls 1 [(0, .ref q_o)] := hl
  refine lv_aload_n hx hb d_Ve_clear_0 rfl (lv_at hl 0 rfl) ?_
  refine va_get (D := (dC, dI)) (ci := 0) (v := .ref q_o_parts) (C := R_Ve) (T := T_Ve) (N := 2) hx hb hts (iw_Ve _) hown hK hP 0 rfl rfl 1 (by decide) (hts (.fieldLink R_Ve 19 "ShaderMachine$Vectors" "parts" "[I") (List.mem_cons_of_mem _ tw_45)) (fun _ h9 => h9) rfl d_Ve_clear_1 ?_
  refine lv_iconst (v := 0) hx hb d_Ve_clear_4 (by decide) ?_
  obtain ⟨w_2, h_1, h⟩ := ch_bind h
  try dsimp only at h
  refine ck_gov (wc := [(q_o_parts, .inl (cI, n_o_parts, .inl f_o_parts))]) (wr := [(q_o, .inr (0, [.int o_many, .ref q_o_parts]))]) (w1 := [(q_o_parts, .inl (cI, n_o_parts, .inl w_2))]) (va_runS (As := [.ref q_o_parts, .int (0 : Int32)]) (rest := []) ⟨hx, hb, hml, hown, hts⟩ (k_Ar_fill l dC dI cI cJ fu (0 : Int32) n_o_parts f_o_parts q_o_parts w_2 h_1 _) (va_cwS 2 hts (gw_S tw_540 tw_541 tw_19 tw_542) rfl rfl rfl (by decide +kernel) ⟨Nat.le_of_ble_eq_true rfl, Nat.le_of_ble_eq_true rfl⟩) (ck_preS (wc := [(q_o_parts, .inl (cI, n_o_parts, .inl f_o_parts))]) hK hP hD hS hA hE [1] (by decide) rfl) rfl rfl hl.1 rfl (lv_room (Nat.le_of_ble_eq_true rfl)) d_Ve_clear_5 ⟨Nat.le_of_ble_eq_true rfl, Nat.le_of_ble_eq_true rfl⟩) hP hD hS hA [1] [0] rfl rfl (by decide) (by decide) (fun H locs hP hD hS => ?_)
  have hP : va_P (dC, dI) vwCl [(q_o, .inr (0, [.int o_many, .ref q_o_parts])), (q_o_parts, .inl (cI, n_o_parts, .inl w_2))] H := hP.sub [0, 1] rfl
  have hD : va_D A [(q_o, .inr (0, [.int o_many, .ref q_o_parts])), (q_o_parts, .inl (cI, n_o_parts, .inl w_2))] := hD.sub [0, 1] (by decide) rfl
  cases h
  exact ck_vret hx hb hr hlk hK hP hD hS d_Ve_clear_8
def pf_St_hasWord (p1 : Int32) : Option (Int32) :=
  if p1 < 0 then
    some (0 : Int32)
  else
    if (1024 : Int32) ≤ p1 then
      some (0 : Int32)
    else
      some (1 : Int32)
set_option maxHeartbeats 4000000 in
set_option maxRecDepth 100000 in
theorem k_St_hasWord (l : Launch) (dC : Nat → ClassId) (dI : Nat → Nat → Nat) (cI cJ : ClassId) (p1 : Int32) (q_o : Nat) (r : Int32) (h : pf_St_hasWord p1 = some r) : ck_i l y_St_hasWord wm_St_hasWord ({ frames := 0, cells := 0, slots := 0, locals := 0 } : Room) [.ref q_o, .int p1] (dC, dI) [(cI, .int), (cJ, .long)] [] r [] := by
  refine ck_ofi (cc := c_St_hasWord) (maxL := 2) (ret := (some .boolean)) (by decide +kernel) rfl ?_
  intro p e s m below meth c A C0 hK hP hD hS hE
  obtain ⟨hx, hb, hr, hml, hown, hts, hlk, hA, hin⟩ := C0
  unfold pf_St_hasWord at h
  have hl := lv_entry ([.ref q_o, .int p1]) (n := 2) (Nat.le_of_ble_eq_true rfl)
  rw [lg_entry_eq]
  generalize (lg_sl ([.ref q_o, .int p1]) ++ List.replicate (2 - (lg_sl ([.ref q_o, .int p1])).length) Slot.unset).toArray = ls at hl ⊢
  have hl : lv_has ls 2 [(0, .ref q_o), (1, .int p1)] := hl
  refine lv_iload_n hx hb d_St_hasWord_0 rfl (lv_at hl 1 rfl) ?_
  refine lv_if_lt (tgt := 15) hx hb d_St_hasWord_1 (by decide) (fun c_1 => ?_) (fun c_1 => ?_)
  · rw [if_pos c_1] at h
    refine lv_iconst (v := 0) hx hb d_St_hasWord_15 (by decide) ?_
    cases h
    exact ck_zret hx hb hr rfl hlk hK hP hD hS d_St_hasWord_16
  · rw [if_neg c_1] at h
    refine lv_iload_n hx hb d_St_hasWord_4 rfl (lv_at hl 1 rfl) ?_
    refine lv_sipush (v := 1024) hx hb d_St_hasWord_5 (by decide) ?_
    refine lv_icmp_ge (tgt := 15) hx hb d_St_hasWord_8 (by decide) (fun c_2 => ?_) (fun c_2 => ?_)
    · rw [if_pos c_2] at h
      refine lv_iconst (v := 0) hx hb d_St_hasWord_15 (by decide) ?_
      cases h
      exact ck_zret hx hb hr rfl hlk hK hP hD hS d_St_hasWord_16
    · rw [if_neg c_2] at h
      refine lv_iconst (v := 1) hx hb d_St_hasWord_11 (by decide) ?_
      refine lv_goto (tgt := 16) hx hb d_St_hasWord_12 (by decide) ?_
      cases h
      exact ck_zret hx hb hr rfl hlk hK hP hD hS d_St_hasWord_16
def pf_St_word (p1 : Int32) (n_o_memory : Nat) (f_o_memory : Nat → Int32) : Option (Int32) :=
  Option.bind (pf_St_hasWord p1) (fun r_2 => 
  if r_2 = 0 then
    some (0 : Int32)
  else
    if (0 : Int32) ≤ p1 ∧ p1.toNatClampNeg < n_o_memory then (
    some (f_o_memory p1.toNatClampNeg)) else none)
set_option maxHeartbeats 4000000 in
set_option maxRecDepth 100000 in
theorem k_St_word (l : Launch) (dC : Nat → ClassId) (dI : Nat → Nat → Nat) (cI cJ : ClassId) (p1 : Int32) (n_o_memory : Nat) (f_o_memory : Nat → Int32) (q_o : Nat) (q_o_memory : Nat) (q_o_temporaries : Nat) (q_o_ins : Nat) (q_o_outs : Nat) (q_o_uniforms : Nat) (q_o_textures : Nat) (q_o_nothing : Nat) (r : Int32) (h : pf_St_word p1 n_o_memory f_o_memory = some r) : ck_i l y_St_word wm_St_word ({ frames := 1, cells := 0, slots := 0, locals := 21 } : Room) [.ref q_o, .int p1] (dC, dI) [(cI, .int), (cJ, .long)] [(q_o, .inr (1, [.ref q_o_memory, .ref q_o_temporaries, .ref q_o_ins, .ref q_o_outs, .ref q_o_uniforms, .ref q_o_textures, .ref q_o_nothing])), (q_o_memory, .inl (cI, n_o_memory, .inl f_o_memory))] r [(q_o, .inr (1, [.ref q_o_memory, .ref q_o_temporaries, .ref q_o_ins, .ref q_o_outs, .ref q_o_uniforms, .ref q_o_textures, .ref q_o_nothing])), (q_o_memory, .inl (cI, n_o_memory, .inl f_o_memory))] := by
  refine ck_ofi (cc := c_St_word) (maxL := 2) (ret := (some .int)) (by decide +kernel) rfl ?_
  intro p e s m below meth c A C0 hK hP hD hS hE
  obtain ⟨hx, hb, hr, hml, hown, hts, hlk, hA, hin⟩ := C0
  unfold pf_St_word at h
  have hl := lv_entry ([.ref q_o, .int p1]) (n := 2) (Nat.le_of_ble_eq_true rfl)
  rw [lg_entry_eq]
  generalize (lg_sl ([.ref q_o, .int p1]) ++ List.replicate (2 - (lg_sl ([.ref q_o, .int p1])).length) Slot.unset).toArray = ls at hl ⊢
  have hl : lv_has ls 2 [(0, .ref q_o), (1, .int p1)] := hl
  refine lv_aload_n hx hb d_St_word_0 rfl (lv_at hl 0 rfl) ?_
  refine lv_iload_n hx hb d_St_word_1 rfl (lv_at hl 1 rfl) ?_
  obtain ⟨r_2, h_1, h⟩ := ch_bind h
  try dsimp only at h
  refine ck_goi (wc := []) (wr := [(q_o, .inr (1, [.ref q_o_memory, .ref q_o_temporaries, .ref q_o_ins, .ref q_o_outs, .ref q_o_uniforms, .ref q_o_textures, .ref q_o_nothing])), (q_o_memory, .inl (cI, n_o_memory, .inl f_o_memory))]) (w1 := []) (va_runV (As := [.int p1]) (rest := []) ⟨hx, hb, hml, hown, hts⟩ (k_St_hasWord l dC dI cI cJ p1 q_o r_2 h_1 _) (cwV 1 hts (gw_V tw_288 tw_213 tw_214 tw_2 tw_215) rfl rfl rfl (by decide +kernel) ⟨Nat.le_of_ble_eq_true rfl, Nat.le_of_ble_eq_true rfl⟩) (ck_preV (wc := []) hK hP hD hS hA hE 0 rfl rfl rfl [] (by decide) rfl) rfl rfl hl.1 rfl (lv_room (Nat.le_of_ble_eq_true rfl)) d_St_word_2 ⟨Nat.le_of_ble_eq_true rfl, Nat.le_of_ble_eq_true rfl⟩) hP hD hS hA [] [0, 1] rfl rfl (by decide) (by decide) (fun H locs hP hD hS => ?_)
  have hP : va_P (dC, dI) vwCl [(q_o, .inr (1, [.ref q_o_memory, .ref q_o_temporaries, .ref q_o_ins, .ref q_o_outs, .ref q_o_uniforms, .ref q_o_textures, .ref q_o_nothing])), (q_o_memory, .inl (cI, n_o_memory, .inl f_o_memory))] H := hP.sub [0, 1] rfl
  have hD : va_D A [(q_o, .inr (1, [.ref q_o_memory, .ref q_o_temporaries, .ref q_o_ins, .ref q_o_outs, .ref q_o_uniforms, .ref q_o_textures, .ref q_o_nothing])), (q_o_memory, .inl (cI, n_o_memory, .inl f_o_memory))] := hD.sub [0, 1] (by decide) rfl
  refine lv_if_eq (tgt := 17) hx hb d_St_word_5 (by decide) (fun c_3 => ?_) (fun c_3 => ?_)
  · rw [if_pos c_3] at h
    refine lv_iconst (v := 0) hx hb d_St_word_17 (by decide) ?_
    cases h
    exact ck_iret hx hb hr hlk hK hP hD hS d_St_word_18
  · rw [if_neg c_3] at h
    refine lv_aload_n hx hb d_St_word_8 rfl (lv_at hl 0 rfl) ?_
    refine va_get (D := (dC, dI)) (ci := 1) (v := .ref q_o_memory) (C := R_St) (T := T_St) (N := 7) hx hb hts (iw_St _) hown hK hP 0 rfl rfl 0 (by decide) (hts (.fieldLink R_St 9 "ShaderMachine$Store" "memory" "[I") (List.mem_cons_of_mem _ tw_52)) (fun _ h9 => h9) rfl d_St_word_9 ?_
    refine lv_iload_n hx hb d_St_word_12 rfl (lv_at hl 1 rfl) ?_
    obtain ⟨c_4, h⟩ := ch_ite h
    refine va_iald hx hb hK hP 1 0 rfl rfl (ch_in c_4) d_St_word_13 ?_
    refine lv_goto (tgt := 18) hx hb d_St_word_14 (by decide) ?_
    cases h
    exact ck_iret hx hb hr hlk hK hP hD hS d_St_word_18
def pf_St_setWord (p1 : Int32) (p2 : Int32) (n_o_memory : Nat) (f_o_memory : Nat → Int32) : Option ((Nat → Int32)) :=
  Option.bind (pf_St_hasWord p1) (fun r_2 => 
  if r_2 = 0 then
    some f_o_memory
  else
    if (0 : Int32) ≤ p1 ∧ p1.toNatClampNeg < n_o_memory then (
    some (upd f_o_memory p1.toNatClampNeg p2)) else none)
set_option maxHeartbeats 4000000 in
set_option maxRecDepth 100000 in
theorem k_St_setWord (l : Launch) (dC : Nat → ClassId) (dI : Nat → Nat → Nat) (cI cJ : ClassId) (p1 : Int32) (p2 : Int32) (n_o_memory : Nat) (f_o_memory : Nat → Int32) (q_o : Nat) (q_o_memory : Nat) (q_o_temporaries : Nat) (q_o_ins : Nat) (q_o_outs : Nat) (q_o_uniforms : Nat) (q_o_textures : Nat) (q_o_nothing : Nat) (o_f_o_memory : Nat → Int32) (h : pf_St_setWord p1 p2 n_o_memory f_o_memory = some o_f_o_memory) : ck_v l y_St_setWord wm_St_setWord ({ frames := 1, cells := 0, slots := 0, locals := 21 } : Room) [.ref q_o, .int p1, .int p2] (dC, dI) [(cI, .int), (cJ, .long)] [(q_o, .inr (1, [.ref q_o_memory, .ref q_o_temporaries, .ref q_o_ins, .ref q_o_outs, .ref q_o_uniforms, .ref q_o_textures, .ref q_o_nothing])), (q_o_memory, .inl (cI, n_o_memory, .inl f_o_memory))] [(q_o, .inr (1, [.ref q_o_memory, .ref q_o_temporaries, .ref q_o_ins, .ref q_o_outs, .ref q_o_uniforms, .ref q_o_textures, .ref q_o_nothing])), (q_o_memory, .inl (cI, n_o_memory, .inl o_f_o_memory))] := by
  refine ck_ofv (cc := c_St_setWord) (maxL := 3) (ret := none) (by decide +kernel) rfl ?_
  intro p e s m below meth c A C0 hK hP hD hS hE
  obtain ⟨hx, hb, hr, hml, hown, hts, hlk, hA, hin⟩ := C0
  unfold pf_St_setWord at h
  have hl := lv_entry ([.ref q_o, .int p1, .int p2]) (n := 3) (Nat.le_of_ble_eq_true rfl)
  rw [lg_entry_eq]
  generalize (lg_sl ([.ref q_o, .int p1, .int p2]) ++ List.replicate (3 - (lg_sl ([.ref q_o, .int p1, .int p2])).length) Slot.unset).toArray = ls at hl ⊢
  have hl : lv_has ls 3 [(0, .ref q_o), (1, .int p1), (2, .int p2)] := hl
  refine lv_aload_n hx hb d_St_setWord_0 rfl (lv_at hl 0 rfl) ?_
  refine lv_iload_n hx hb d_St_setWord_1 rfl (lv_at hl 1 rfl) ?_
  obtain ⟨r_2, h_1, h⟩ := ch_bind h
  try dsimp only at h
  refine ck_goi (wc := []) (wr := [(q_o, .inr (1, [.ref q_o_memory, .ref q_o_temporaries, .ref q_o_ins, .ref q_o_outs, .ref q_o_uniforms, .ref q_o_textures, .ref q_o_nothing])), (q_o_memory, .inl (cI, n_o_memory, .inl f_o_memory))]) (w1 := []) (va_runV (As := [.int p1]) (rest := []) ⟨hx, hb, hml, hown, hts⟩ (k_St_hasWord l dC dI cI cJ p1 q_o r_2 h_1 _) (cwV 1 hts (gw_V tw_288 tw_213 tw_214 tw_2 tw_215) rfl rfl rfl (by decide +kernel) ⟨Nat.le_of_ble_eq_true rfl, Nat.le_of_ble_eq_true rfl⟩) (ck_preV (wc := []) hK hP hD hS hA hE 0 rfl rfl rfl [] (by decide) rfl) rfl rfl hl.1 rfl (lv_room (Nat.le_of_ble_eq_true rfl)) d_St_setWord_2 ⟨Nat.le_of_ble_eq_true rfl, Nat.le_of_ble_eq_true rfl⟩) hP hD hS hA [] [0, 1] rfl rfl (by decide) (by decide) (fun H locs hP hD hS => ?_)
  have hP : va_P (dC, dI) vwCl [(q_o, .inr (1, [.ref q_o_memory, .ref q_o_temporaries, .ref q_o_ins, .ref q_o_outs, .ref q_o_uniforms, .ref q_o_textures, .ref q_o_nothing])), (q_o_memory, .inl (cI, n_o_memory, .inl f_o_memory))] H := hP.sub [0, 1] rfl
  have hD : va_D A [(q_o, .inr (1, [.ref q_o_memory, .ref q_o_temporaries, .ref q_o_ins, .ref q_o_outs, .ref q_o_uniforms, .ref q_o_textures, .ref q_o_nothing])), (q_o_memory, .inl (cI, n_o_memory, .inl f_o_memory))] := hD.sub [0, 1] (by decide) rfl
  refine lv_if_eq (tgt := 15) hx hb d_St_setWord_5 (by decide) (fun c_3 => ?_) (fun c_3 => ?_)
  · rw [if_pos c_3] at h
    cases h
    exact ck_vret hx hb hr hlk hK hP hD hS d_St_setWord_15
  · rw [if_neg c_3] at h
    refine lv_aload_n hx hb d_St_setWord_8 rfl (lv_at hl 0 rfl) ?_
    refine va_get (D := (dC, dI)) (ci := 1) (v := .ref q_o_memory) (C := R_St) (T := T_St) (N := 7) hx hb hts (iw_St _) hown hK hP 0 rfl rfl 0 (by decide) (hts (.fieldLink R_St 9 "ShaderMachine$Store" "memory" "[I") (List.mem_cons_of_mem _ tw_52)) (fun _ h9 => h9) rfl d_St_setWord_9 ?_
    refine lv_iload_n hx hb d_St_setWord_12 rfl (lv_at hl 1 rfl) ?_
    refine lv_iload_n hx hb d_St_setWord_13 rfl (lv_at hl 2 rfl) ?_
    obtain ⟨c_4, h⟩ := ch_ite h
    refine va_iast hx hb hK hP hD hS 1 0 rfl rfl (ch_in c_4) d_St_setWord_14 (fun H locs hP hD hS => ?_)
    have hP : va_P (dC, dI) vwCl [(q_o, .inr (1, [.ref q_o_memory, .ref q_o_temporaries, .ref q_o_ins, .ref q_o_outs, .ref q_o_uniforms, .ref q_o_textures, .ref q_o_nothing])), (q_o_memory, .inl (cI, n_o_memory, .inl (upd f_o_memory p1.toNatClampNeg p2)))] H := hP
    have hD : va_D A [(q_o, .inr (1, [.ref q_o_memory, .ref q_o_temporaries, .ref q_o_ins, .ref q_o_outs, .ref q_o_uniforms, .ref q_o_textures, .ref q_o_nothing])), (q_o_memory, .inl (cI, n_o_memory, .inl (upd f_o_memory p1.toNatClampNeg p2)))] := hD
    cases h
    exact ck_vret hx hb hr hlk hK hP hD hS d_St_setWord_15
