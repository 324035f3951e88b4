def pf_Fi_product (p1 : Int32) (p2 : Int32) : Option (Int32) :=
  some (((p1.toInt64 * p2.toInt64) >>> ((16 : Int32).toInt64 &&& 63)).toInt32)
set_option maxHeartbeats 4000000 in
set_option maxRecDepth 100000 in
theorem k_Fi_product (l : Launch) (dC : Nat → ClassId) (dI : Nat → Nat → Nat) (cI cJ : ClassId) (p1 : Int32) (p2 : Int32) (r : Int32) (h : pf_Fi_product p1 p2 = some r) : ck_i l y_Fi_product wm_Fi_product ({ frames := 0, cells := 0, slots := 0, locals := 0 } : Room) [.int p1, .int p2] (dC, dI) [(cI, .int), (cJ, .long)] [] r [] := by
  refine ck_ofi (cc := c_Fi_product) (maxL := 2) (ret := (some .int)) (by decide +kernel) rfl ?_
  intro p e s m below meth c A C0 hK hP hD hS hE
  obtain ⟨hx, hb, hr, hml, hown, hts, hlk, hA, hin⟩ := C0
  unfold pf_Fi_product at h
  have hl := lv_entry ([.int p1, .int p2]) (n := 2) (Nat.le_of_ble_eq_true rfl)
  rw [lg_entry_eq]
  generalize (lg_sl ([.int p1, .int p2]) ++ List.replicate (2 - (lg_sl ([.int p1, .int p2])).length) Slot.unset).toArray = ls at hl ⊢
  have hl : lv_has ls 2 [(0, .int p1), (1, .int p2)] := hl
  refine lv_iload_n hx hb d_Fi_product_0 rfl (lv_at hl 0 rfl) ?_
  refine lv_i2l hx hb d_Fi_product_1 rfl ?_
  refine lv_iload_n hx hb d_Fi_product_2 rfl (lv_at hl 1 rfl) ?_
  refine lv_i2l hx hb d_Fi_product_3 rfl ?_
  refine lv_lmul hx hb d_Fi_product_4 ?_
  refine lv_bipush (v := 16) hx hb d_Fi_product_5 (by decide) ?_
  refine lv_lshr hx hb d_Fi_product_7 rfl ?_
  refine lv_l2i hx hb d_Fi_product_8 rfl ?_
  cases h
  exact ck_iret hx hb hr hlk hK hP hD hS d_Fi_product_9
def pf_Fi_root_7 (fu : Nat) : Nat → Int64 → Int64 → Int64 → Option (Int32)
  | 0, _, _, _ => none
  | n + 1, x0, x2, x4 =>
    if (lg_cmp x4 (0 : Int64)) ≤ 0 then
      some x2.toInt32
    else
      if 0 < (lg_cmp ((x2 + x4) * (x2 + x4)) x0) then
        pf_Fi_root_7 fu n x0 x2 (x4 >>> ((1 : Int32).toInt64 &&& 63))
      else
        pf_Fi_root_7 fu n x0 (x2 + x4) (x4 >>> ((1 : Int32).toInt64 &&& 63))
def pf_Fi_root (fu : Nat) (p1 : Int64) : Option (Int32) :=
  pf_Fi_root_7 fu fu p1 (0 : Int64) (16777216 : Int64)
set_option maxHeartbeats 4000000 in
set_option maxRecDepth 100000 in
theorem k_Fi_root (l : Launch) (dC : Nat → ClassId) (dI : Nat → Nat → Nat) (cI cJ : ClassId) (fu : Nat) (p1 : Int64) (r : Int32) (h : pf_Fi_root fu p1 = some r) : ck_i l y_Fi_root wm_Fi_root ({ frames := 0, cells := 0, slots := 0, locals := 0 } : Room) [.long p1] (dC, dI) [(cI, .int), (cJ, .long)] [] r [] := by
  refine ck_ofi (cc := c_Fi_root) (maxL := 8) (ret := (some .int)) (by decide +kernel) rfl ?_
  intro p e s m below meth c A C0 hK hP hD hS hE
  obtain ⟨hx, hb, hr, hml, hown, hts, hlk, hA, hin⟩ := C0
  have w_7 : ∀ (n_7 : Nat) (x0 : Int64) (x2 : Int64) (x4 : Int64), pf_Fi_root_7 fu n_7 x0 x2 x4 = some r → ∀ (H : Heap) (locs : List Loc), va_P (dC, dI) vwCl [] H → va_D A [] → va_S A s.heap H locs → ∀ ls : Array Slot, lv_has ls 8 [(0, .long x0), (2, .long x2), (4, .long x4)] → W p l e ({ frames := 0, cells := 0, slots := 0, locals := 0 } : Room) s m ([.long p1] : List Value).toArray below meth c H locs 0 0 (ck_Qi below (dC, dI) [(cI, .int), (cJ, .long)] A ([.long p1] : List Value).toArray s r []) (F0 m 7 ls []) := by
    intro n_7
    induction n_7 with
    | zero =>
      intro x0 x2 x4 h
      cases h
    | succ n_7 ih_7 =>
      intro x0 x2 x4 h H locs hP hD hS ls hl
      rw [pf_Fi_root_7] at h
      refine lv_lload hx hb d_Fi_root_7 (lv_at hl 2 rfl) ?_
      refine lv_lconst (v := 0) hx hb d_Fi_root_9 (by decide) ?_
      refine W.lcmp hx hb d_Fi_root_10 ?_
      refine lv_if_le (tgt := 42) hx hb d_Fi_root_11 (by decide) (fun c_1 => ?_) (fun c_1 => ?_)
      · rw [if_pos c_1] at h
        refine lv_lload_n hx hb d_Fi_root_42 rfl (lv_at hl 1 rfl) ?_
        refine lv_l2i hx hb d_Fi_root_43 rfl ?_
        cases h
        exact ck_iret hx hb hr hlk hK hP hD hS d_Fi_root_44
      · rw [if_neg c_1] at h
        refine lv_lload_n hx hb d_Fi_root_14 rfl (lv_at hl 1 rfl) ?_
        refine lv_lload hx hb d_Fi_root_15 (lv_at hl 2 rfl) ?_
        refine lv_ladd hx hb d_Fi_root_17 ?_
        refine lv_lstore (lv' := [(6, .long (x2 + x4)), (0, .long x0), (2, .long x2), (4, .long x4)]) hx hb d_Fi_root_18 hl (by decide) rfl (fun ls hl => ?_)
        refine lv_lload hx hb d_Fi_root_20 (lv_at hl 0 rfl) ?_
        refine lv_lload hx hb d_Fi_root_22 (lv_at hl 0 rfl) ?_
        refine lv_lmul hx hb d_Fi_root_24 ?_
        refine lv_lload_n hx hb d_Fi_root_25 rfl (lv_at hl 1 rfl) ?_
        refine W.lcmp hx hb d_Fi_root_26 ?_
        refine lv_if_gt (tgt := 33) hx hb d_Fi_root_27 (by decide) (fun c_2 => ?_) (fun c_2 => ?_)
        · rw [if_pos c_2] at h
          refine lv_lload hx hb d_Fi_root_33 (lv_at hl 3 rfl) ?_
          refine lv_iconst (v := 1) hx hb d_Fi_root_35 (by decide) ?_
          refine lv_lshr hx hb d_Fi_root_36 rfl ?_
          refine lv_lstore (lv' := [(4, .long (x4 >>> ((1 : Int32).toInt64 &&& 63))), (6, .long (x2 + x4)), (0, .long x0), (2, .long x2)]) hx hb d_Fi_root_37 hl (by decide) rfl (fun ls hl => ?_)
          refine lv_goto (tgt := 7) hx hb d_Fi_root_39 (by decide) ?_
          exact ih_7 x0 x2 (x4 >>> ((1 : Int32).toInt64 &&& 63)) h _ _ hP hD hS _ (lv_sub hl [2, 3, 0] rfl)
        · rw [if_neg c_2] at h
          refine lv_lload hx hb d_Fi_root_30 (lv_at hl 0 rfl) ?_
          refine lv_lstore_n (lv' := [(2, .long (x2 + x4)), (6, .long (x2 + x4)), (0, .long x0), (4, .long x4)]) hx hb d_Fi_root_32 rfl hl (by decide) rfl (fun ls hl => ?_)
          refine lv_lload hx hb d_Fi_root_33 (lv_at hl 3 rfl) ?_
          refine lv_iconst (v := 1) hx hb d_Fi_root_35 (by decide) ?_
          refine lv_lshr hx hb d_Fi_root_36 rfl ?_
          refine lv_lstore (lv' := [(4, .long (x4 >>> ((1 : Int32).toInt64 &&& 63))), (2, .long (x2 + x4)), (6, .long (x2 + x4)), (0, .long x0)]) hx hb d_Fi_root_37 hl (by decide) rfl (fun ls hl => ?_)
          refine lv_goto (tgt := 7) hx hb d_Fi_root_39 (by decide) ?_
          exact ih_7 x0 (x2 + x4) (x4 >>> ((1 : Int32).toInt64 &&& 63)) h _ _ hP hD hS _ (lv_sub hl [3, 1, 0] rfl)
  unfold pf_Fi_root at h
  have hl := lv_entry ([.long p1]) (n := 8) (Nat.le_of_ble_eq_true rfl)
  rw [lg_entry_eq]
  generalize (lg_sl ([.long p1]) ++ List.replicate (8 - (lg_sl ([.long p1])).length) Slot.unset).toArray = ls at hl ⊢
  have hl : lv_has ls 8 [(0, .long p1)] := hl
  refine lv_lconst (v := 0) hx hb d_Fi_root_0 (by decide) ?_
  refine lv_lstore_n (lv' := [(2, .long (0 : Int64)), (0, .long p1)]) hx hb d_Fi_root_1 rfl hl (by decide) rfl (fun ls hl => ?_)
  refine lv_ldc2 (v := 16777216) hx hb hown (hts (.constantLong R_Fi 36 (16777216)) (by decide +kernel)) d_Fi_root_2 ?_
  refine lv_lstore (lv' := [(4, .long (16777216 : Int64)), (2, .long (0 : Int64)), (0, .long p1)]) hx hb d_Fi_root_5 hl (by decide) rfl (fun ls hl => ?_)
  exact w_7 fu p1 (0 : Int64) (16777216 : Int64) h _ _ hP hD hS _ (lv_sub hl [2, 1, 0] rfl)
def pf_Ve_hasPart (p1 : Int32) (p2 : Int32) (o_many : Int32) : Option (Int32) :=
  if p1 < 0 then
    some (0 : Int32)
  else
    if o_many ≤ p1 then
      some (0 : Int32)
    else
      if p2 < 0 then
        some (0 : Int32)
      else
        if (4 : Int32) ≤ p2 then
          some (0 : Int32)
        else
          some (1 : Int32)
set_option maxHeartbeats 4000000 in
set_option maxRecDepth 100000 in
theorem k_Ve_hasPart (l : Launch) (dC : Nat → ClassId) (dI : Nat → Nat → Nat) (cI cJ : ClassId) (p1 : Int32) (p2 : Int32) (o_many : Int32) (q_o : Nat) (q_o_parts : Nat) (r : Int32) (h : pf_Ve_hasPart p1 p2 o_many = some r) : ck_i l y_Ve_hasPart wm_Ve_hasPart ({ frames := 0, cells := 0, slots := 0, locals := 0 } : Room) [.ref q_o, .int p1, .int p2] (dC, dI) [(cI, .int), (cJ, .long)] [(q_o, .inr (0, [.int o_many, .ref q_o_parts]))] r [(q_o, .inr (0, [.int o_many, .ref q_o_parts]))] := by
  refine ck_ofi (cc := c_Ve_hasPart) (maxL := 3) (ret := (some .boolean)) (by decide +kernel) rfl ?_
  intro p e s m below meth c A C0 hK hP hD hS hE
  obtain ⟨hx, hb, hr, hml, hown, hts, hlk, hA, hin⟩ := C0
  unfold pf_Ve_hasPart at h
  have hl := lv_entry ([.ref q_o, .int p1, .int p2]) (n := 3) (Nat.le_of_ble_eq_true rfl)
  rw [lg_entry_eq]
  generalize (lg_sl ([.ref q_o, .int p1, .int p2]) ++ List.replicate (3 - (lg_sl ([.ref q_o, .int p1, .int p2])).length) Slot.unset).toArray = ls at hl ⊢
  have hl : lv_has ls 3 [(0, .ref q_o), (1, .int p1), (2, .int p2)] := hl
  refine lv_iload_n hx hb d_Ve_hasPart_0 rfl (lv_at hl 1 rfl) ?_
  refine lv_if_lt (tgt := 25) hx hb d_Ve_hasPart_1 (by decide) (fun c_1 => ?_) (fun c_1 => ?_)
  · rw [if_pos c_1] at h
    refine lv_iconst (v := 0) hx hb d_Ve_hasPart_25 (by decide) ?_
    cases h
    exact ck_zret hx hb hr rfl hlk hK hP hD hS d_Ve_hasPart_26
  · rw [if_neg c_1] at h
    refine lv_iload_n hx hb d_Ve_hasPart_4 rfl (lv_at hl 1 rfl) ?_
    refine lv_aload_n hx hb d_Ve_hasPart_5 rfl (lv_at hl 0 rfl) ?_
    refine va_get (D := (dC, dI)) (ci := 0) (v := .int o_many) (C := R_Ve) (T := T_Ve) (N := 2) hx hb hts (iw_Ve _) hown hK hP 0 rfl rfl 0 (by decide) (hts (.fieldLink R_Ve 13 "ShaderMachine$Vectors" "many" "I") (List.mem_cons_of_mem _ tw_44)) (fun _ h9 => h9) rfl d_Ve_hasPart_6 ?_
    refine lv_icmp_ge (tgt := 25) hx hb d_Ve_hasPart_9 (by decide) (fun c_2 => ?_) (fun c_2 => ?_)
    · rw [if_pos c_2] at h
      refine lv_iconst (v := 0) hx hb d_Ve_hasPart_25 (by decide) ?_
      cases h
      exact ck_zret hx hb hr rfl hlk hK hP hD hS d_Ve_hasPart_26
    · rw [if_neg c_2] at h
      refine lv_iload_n hx hb d_Ve_hasPart_12 rfl (lv_at hl 2 rfl) ?_
      refine lv_if_lt (tgt := 25) hx hb d_Ve_hasPart_13 (by decide) (fun c_3 => ?_) (fun c_3 => ?_)
      · rw [if_pos c_3] at h
        refine lv_iconst (v := 0) hx hb d_Ve_hasPart_25 (by decide) ?_
        cases h
        exact ck_zret hx hb hr rfl hlk hK hP hD hS d_Ve_hasPart_26
      · rw [if_neg c_3] at h
        refine lv_iload_n hx hb d_Ve_hasPart_16 rfl (lv_at hl 2 rfl) ?_
        refine lv_iconst (v := 4) hx hb d_Ve_hasPart_17 (by decide) ?_
        refine lv_icmp_ge (tgt := 25) hx hb d_Ve_hasPart_18 (by decide) (fun c_4 => ?_) (fun c_4 => ?_)
        · rw [if_pos c_4] at h
          refine lv_iconst (v := 0) hx hb d_Ve_hasPart_25 (by decide) ?_
          cases h
          exact ck_zret hx hb hr rfl hlk hK hP hD hS d_Ve_hasPart_26
        · rw [if_neg c_4] at h
          refine lv_iconst (v := 1) hx hb d_Ve_hasPart_21 (by decide) ?_
          refine lv_goto (tgt := 26) hx hb d_Ve_hasPart_22 (by decide) ?_
          cases h
          exact ck_zret hx hb hr rfl hlk hK hP hD hS d_Ve_hasPart_26
def pf_Ve_part (p1 : Int32) (p2 : Int32) (o_many : Int32) (n_o_parts : Nat) (f_o_parts : Nat → Int32) : Option (Int32) :=
  Option.bind (pf_Ve_hasPart p1 p2 o_many) (fun r_2 => 
  if r_2 = 0 then
    some (0 : Int32)
  else
    if (0 : Int32) ≤ (((4 : Int32) * p1) + p2) ∧ (((4 : Int32) * p1) + p2).toNatClampNeg < n_o_parts then (
    some (f_o_parts (((4 : Int32) * p1) + p2).toNatClampNeg)) else none)
set_option maxHeartbeats 4000000 in
set_option maxRecDepth 100000 in
theorem k_Ve_part (l : Launch) (dC : Nat → ClassId) (dI : Nat → Nat → Nat) (cI cJ : ClassId) (p1 : Int32) (p2 : Int32) (o_many : Int32) (n_o_parts : Nat) (f_o_parts : Nat → Int32) (q_o : Nat) (q_o_parts : Nat) (r : Int32) (h : pf_Ve_part p1 p2 o_many n_o_parts f_o_parts = some r) : ck_i l y_Ve_part wm_Ve_part ({ frames := 1, cells := 0, slots := 0, locals := 22 } : Room) [.ref q_o, .int p1, .int p2] (dC, dI) [(cI, .int), (cJ, .long)] [(q_o, .inr (0, [.int o_many, .ref q_o_parts])), (q_o_parts, .inl (cI, n_o_parts, .inl f_o_parts))] r [(q_o, .inr (0, [.int o_many, .ref q_o_parts])), (q_o_parts, .inl (cI, n_o_parts, .inl f_o_parts))] := by
  refine ck_ofi (cc := c_Ve_part) (maxL := 3) (ret := (some .int)) (by decide +kernel) rfl ?_
  intro p e s m below meth c A C0 hK hP hD hS hE
  obtain ⟨hx, hb, hr, hml, hown, hts, hlk, hA, hin⟩ := C0
  unfold pf_Ve_part at h
  have hl := lv_entry ([.ref q_o, .int p1, .int p2]) (n := 3) (Nat.le_of_ble_eq_true rfl)
  rw [lg_entry_eq]
  generalize (lg_sl ([.ref q_o, .int p1, .int p2]) ++ List.replicate (3 - (lg_sl ([.ref q_o, .int p1, .int p2])).length) Slot.unset).toArray = ls at hl ⊢
  have hl : lv_has ls 3 [(0, .ref q_o), (1, .int p1), (2, .int p2)] := hl
  refine lv_aload_n hx hb d_Ve_part_0 rfl (lv_at hl 0 rfl) ?_
  refine lv_iload_n hx hb d_Ve_part_1 rfl (lv_at hl 1 rfl) ?_
  refine lv_iload_n hx hb d_Ve_part_2 rfl (lv_at hl 2 rfl) ?_
  obtain ⟨r_2, h_1, h⟩ := ch_bind h
  try dsimp only at h
  refine ck_goi (wc := [(q_o, .inr (0, [.int o_many, .ref q_o_parts]))]) (wr := [(q_o_parts, .inl (cI, n_o_parts, .inl f_o_parts))]) (w1 := [(q_o, .inr (0, [.int o_many, .ref q_o_parts]))]) (va_runV (As := [.int p1, .int p2]) (rest := []) ⟨hx, hb, hml, hown, hts⟩ (k_Ve_hasPart l dC dI cI cJ p1 p2 o_many q_o q_o_parts r_2 h_1 _) (cwV 2 hts (gw_V tw_486 tw_487 tw_488 tw_3 tw_489) rfl rfl rfl (by decide +kernel) ⟨Nat.le_of_ble_eq_true rfl, Nat.le_of_ble_eq_true rfl⟩) (ck_preV (wc := [(q_o, .inr (0, [.int o_many, .ref q_o_parts]))]) hK hP hD hS hA hE 0 rfl rfl rfl [0] (by decide) rfl) rfl rfl hl.1 rfl (lv_room (Nat.le_of_ble_eq_true rfl)) d_Ve_part_3 ⟨Nat.le_of_ble_eq_true rfl, Nat.le_of_ble_eq_true rfl⟩) hP hD hS hA [0] [1] rfl rfl (by decide) (by decide) (fun H locs hP hD hS => ?_)
  have hP : va_P (dC, dI) vwCl [(q_o, .inr (0, [.int o_many, .ref q_o_parts])), (q_o_parts, .inl (cI, n_o_parts, .inl f_o_parts))] H := hP.sub [1, 0] rfl
  have hD : va_D A [(q_o, .inr (0, [.int o_many, .ref q_o_parts])), (q_o_parts, .inl (cI, n_o_parts, .inl f_o_parts))] := hD.sub [1, 0] (by decide) rfl
  refine lv_if_eq (tgt := 22) hx hb d_Ve_part_6 (by decide) (fun c_3 => ?_) (fun c_3 => ?_)
  · rw [if_pos c_3] at h
    refine lv_iconst (v := 0) hx hb d_Ve_part_22 (by decide) ?_
    cases h
    exact ck_iret hx hb hr hlk hK hP hD hS d_Ve_part_23
  · rw [if_neg c_3] at h
    refine lv_aload_n hx hb d_Ve_part_9 rfl (lv_at hl 0 rfl) ?_
    refine va_get (D := (dC, dI)) (ci := 0) (v := .ref q_o_parts) (C := R_Ve) (T := T_Ve) (N := 2) hx hb hts (iw_Ve _) hown hK hP 0 rfl rfl 1 (by decide) (hts (.fieldLink R_Ve 19 "ShaderMachine$Vectors" "parts" "[I") (List.mem_cons_of_mem _ tw_45)) (fun _ h9 => h9) rfl d_Ve_part_10 ?_
    refine lv_iconst (v := 4) hx hb d_Ve_part_13 (by decide) ?_
    refine lv_iload_n hx hb d_Ve_part_14 rfl (lv_at hl 1 rfl) ?_
    refine lv_imul hx hb d_Ve_part_15 ?_
    refine lv_iload_n hx hb d_Ve_part_16 rfl (lv_at hl 2 rfl) ?_
    refine lv_iadd hx hb d_Ve_part_17 ?_
    obtain ⟨c_4, h⟩ := ch_ite h
    refine va_iald hx hb hK hP 1 0 rfl rfl (ch_in c_4) d_Ve_part_18 ?_
    refine lv_goto (tgt := 23) hx hb d_Ve_part_19 (by decide) ?_
    cases h
    exact ck_iret hx hb hr hlk hK hP hD hS d_Ve_part_23
def pf_Ve_has (p1 : Int32) (o_many : Int32) : Option (Int32) :=
  if p1 < 0 then
    some (0 : Int32)
  else
    if o_many ≤ p1 then
      some (0 : Int32)
    else
      some (1 : Int32)
set_option maxHeartbeats 4000000 in
set_option maxRecDepth 100000 in
theorem k_Ve_has (l : Launch) (dC : Nat → ClassId) (dI : Nat → Nat → Nat) (cI cJ : ClassId) (p1 : Int32) (o_many : Int32) (q_o : Nat) (q_o_parts : Nat) (r : Int32) (h : pf_Ve_has p1 o_many = some r) : ck_i l y_Ve_has wm_Ve_has ({ frames := 0, cells := 0, slots := 0, locals := 0 } : Room) [.ref q_o, .int p1] (dC, dI) [(cI, .int), (cJ, .long)] [(q_o, .inr (0, [.int o_many, .ref q_o_parts]))] r [(q_o, .inr (0, [.int o_many, .ref q_o_parts]))] := by
  refine ck_ofi (cc := c_Ve_has) (maxL := 2) (ret := (some .boolean)) (by decide +kernel) rfl ?_
  intro p e s m below meth c A C0 hK hP hD hS hE
  obtain ⟨hx, hb, hr, hml, hown, hts, hlk, hA, hin⟩ := C0
  unfold pf_Ve_has at h
  have hl := lv_entry ([.ref q_o, .int p1]) (n := 2) (Nat.le_of_ble_eq_true rfl)
  rw [lg_entry_eq]
  generalize (lg_sl ([.ref q_o, .int p1]) ++ List.replicate (2 - (lg_sl ([.ref q_o, .int p1])).length) Slot.unset).toArray = ls at hl ⊢
  have hl : lv_has ls 2 [(0, .ref q_o), (1, .int p1)] := hl
  refine lv_iload_n hx hb d_Ve_has_0 rfl (lv_at hl 1 rfl) ?_
  refine lv_if_lt (tgt := 16) hx hb d_Ve_has_1 (by decide) (fun c_1 => ?_) (fun c_1 => ?_)
  · rw [if_pos c_1] at h
    refine lv_iconst (v := 0) hx hb d_Ve_has_16 (by decide) ?_
    cases h
    exact ck_zret hx hb hr rfl hlk hK hP hD hS d_Ve_has_17
  · rw [if_neg c_1] at h
    refine lv_iload_n hx hb d_Ve_has_4 rfl (lv_at hl 1 rfl) ?_
    refine lv_aload_n hx hb d_Ve_has_5 rfl (lv_at hl 0 rfl) ?_
    refine va_get (D := (dC, dI)) (ci := 0) (v := .int o_many) (C := R_Ve) (T := T_Ve) (N := 2) hx hb hts (iw_Ve _) hown hK hP 0 rfl rfl 0 (by decide) (hts (.fieldLink R_Ve 13 "ShaderMachine$Vectors" "many" "I") (List.mem_cons_of_mem _ tw_44)) (fun _ h9 => h9) rfl d_Ve_has_6 ?_
    refine lv_icmp_ge (tgt := 16) hx hb d_Ve_has_9 (by decide) (fun c_2 => ?_) (fun c_2 => ?_)
    · rw [if_pos c_2] at h
      refine lv_iconst (v := 0) hx hb d_Ve_has_16 (by decide) ?_
      cases h
      exact ck_zret hx hb hr rfl hlk hK hP hD hS d_Ve_has_17
    · rw [if_neg c_2] at h
      refine lv_iconst (v := 1) hx hb d_Ve_has_12 (by decide) ?_
      refine lv_goto (tgt := 17) hx hb d_Ve_has_13 (by decide) ?_
      cases h
      exact ck_zret hx hb hr rfl hlk hK hP hD hS d_Ve_has_17
def pf_Ve_pick_10 (fu : Nat) (n_p3 : Nat) (n_o_parts : Nat) (f_o_parts : Nat → Int32) : Nat → Int32 → Int32 → Int32 → Int32 → (Nat → Int32) → Option ((Nat → Int32))
  | 0, _, _, _, _, _ => none
  | n + 1, x1, x2, x4, x5, g_f_p3 =>
    if (Int32.ofNat n_p3) ≤ x5 then
      some g_f_p3
    else
      if x4 = 0 then
        if (0 : Int32) ≤ x5 ∧ x5.toNatClampNeg < n_p3 then (
        pf_Ve_pick_10 fu n_p3 n_o_parts f_o_parts n x1 x2 x4 (x5 + 1) (upd g_f_p3 x5.toNatClampNeg (0 : Int32))) else none
      else
        if (0 : Int32) ≤ (((4 : Int32) * x1) + ((x2 >>> (((2 : Int32) * x5) &&& 31)) &&& (3 : Int32))) ∧ (((4 : Int32) * x1) + ((x2 >>> (((2 : Int32) * x5) &&& 31)) &&& (3 : Int32))).toNatClampNeg < n_o_parts then (
        if (0 : Int32) ≤ x5 ∧ x5.toNatClampNeg < n_p3 then (
        pf_Ve_pick_10 fu n_p3 n_o_parts f_o_parts n x1 x2 x4 (x5 + 1) (upd g_f_p3 x5.toNatClampNeg (f_o_parts (((4 : Int32) * x1) + ((x2 >>> (((2 : Int32) * x5) &&& 31)) &&& (3 : Int32))).toNatClampNeg))) else none) else none
def pf_Ve_pick (fu : Nat) (p1 : Int32) (p2 : Int32) (o_many : Int32) (n_p3 : Nat) (f_p3 : Nat → Int32) (n_o_parts : Nat) (f_o_parts : Nat → Int32) : Option ((Nat → Int32)) :=
  Option.bind (pf_Ve_has p1 o_many) (fun r_2 => 
  pf_Ve_pick_10 fu n_p3 n_o_parts f_o_parts fu p1 p2 r_2 (0 : Int32) f_p3)
set_option maxHeartbeats 4000000 in
set_option maxRecDepth 100000 in
theorem k_Ve_pick (l : Launch) (dC : Nat → ClassId) (dI : Nat → Nat → Nat) (cI cJ : ClassId) (fu : Nat) (p1 : Int32) (p2 : Int32) (o_many : Int32) (n_p3 : Nat) (f_p3 : Nat → Int32) (n_o_parts : Nat) (f_o_parts : Nat → Int32) (q_o : Nat) (q_p3 : Nat) (q_o_parts : Nat) (o_f_p3 : Nat → Int32) (h : pf_Ve_pick fu p1 p2 o_many n_p3 f_p3 n_o_parts f_o_parts = some o_f_p3) : ck_v l y_Ve_pick wm_Ve_pick ({ frames := 1, cells := 0, slots := 0, locals := 21 } : Room) [.ref q_o, .int p1, .int p2, .ref q_p3] (dC, dI) [(cI, .int), (cJ, .long)] [(q_o, .inr (0, [.int o_many, .ref q_o_parts])), (q_p3, .inl (cI, n_p3, .inl f_p3)), (q_o_parts, .inl (cI, n_o_parts, .inl f_o_parts))] [(q_o, .inr (0, [.int o_many, .ref q_o_parts])), (q_p3, .inl (cI, n_p3, .inl o_f_p3)), (q_o_parts, .inl (cI, n_o_parts, .inl f_o_parts))] := by
  refine ck_ofv (cc := c_Ve_pick) (maxL := 6) (ret := none) (by decide +kernel) rfl ?_
  intro p e s m below meth c A C0 hK hP hD hS hE
  obtain ⟨hx, hb, hr, hml, hown, hts, hlk, hA, hin⟩ := C0
  have w_10 : ∀ (n_10 : Nat) (x1 : Int32) (x2 : Int32) (x4 : Int32) (x5 : Int32) (g_f_p3 : Nat → Int32), pf_Ve_pick_10 fu n_p3 n_o_parts f_o_parts n_10 x1 x2 x4 x5 g_f_p3 = some o_f_p3 → ∀ (H : Heap) (locs : List Loc), va_P (dC, dI) vwCl [(q_o, .inr (0, [.int o_many, .ref q_o_parts])), (q_p3, .inl (cI, n_p3, .inl g_f_p3)), (q_o_parts, .inl (cI, n_o_parts, .inl f_o_parts))] H → va_D A [(q_o, .inr (0, [.int o_many, .ref q_o_parts])), (q_p3, .inl (cI, n_p3, .inl g_f_p3)), (q_o_parts, .inl (cI, n_o_parts, .inl f_o_parts))] → va_S A s.heap H locs → ∀ ls : Array Slot, lv_has ls 6 [(0, .ref q_o), (1, .int x1), (2, .int x2), (3, .ref q_p3), (4, .int x4), (5, .int x5)] → W p l e ({ frames := 1, cells := 0, slots := 0, locals := 21 } : Room) s m ([.ref q_o, .int p1, .int p2, .ref q_p3] : List Value).toArray below meth c H locs 0 0 (ck_Qv below (dC, dI) [(cI, .int), (cJ, .long)] A ([.ref q_o, .int p1, .int p2, .ref q_p3] : List Value).toArray s [(q_o, .inr (0, [.int o_many, .ref q_o_parts])), (q_p3, .inl (cI, n_p3, .inl o_f_p3)), (q_o_parts, .inl (cI, n_o_parts, .inl f_o_parts))]) (F0 m 10 ls []) := by
    intro n_10
    induction n_10 with
    | zero =>
      intro x1 x2 x4 x5 g_f_p3 h
      cases h
    | succ n_10 ih_10 =>
      intro x1 x2 x4 x5 g_f_p3 h H locs hP hD hS ls hl
      rw [pf_Ve_pick_10] at h
      refine lv_iload hx hb d_Ve_pick_10 (lv_at hl 5 rfl) ?_
      refine lv_aload_n hx hb d_Ve_pick_12 rfl (lv_at hl 3 rfl) ?_
      refine va_alen (v := Int32.ofNat n_p3) hx hb hK hP 1 0 rfl rfl rfl d_Ve_pick_13 ?_
      refine lv_icmp_ge (tgt := 53) hx hb d_Ve_pick_14 (by decide) (fun c_3 => ?_) (fun c_3 => ?_)
      · rw [if_pos c_3] at h
        cases h
        exact ck_vret hx hb hr hlk hK hP hD hS d_Ve_pick_53
      · rw [if_neg c_3] at h
        refine lv_aload_n hx hb d_Ve_pick_17 rfl (lv_at hl 3 rfl) ?_
        refine lv_iload hx hb d_Ve_pick_18 (lv_at hl 5 rfl) ?_
        refine lv_iload hx hb d_Ve_pick_20 (lv_at hl 4 rfl) ?_
        refine lv_if_eq (tgt := 45) hx hb d_Ve_pick_22 (by decide) (fun c_4 => ?_) (fun c_4 => ?_)
        · rw [if_pos c_4] at h
          refine lv_iconst (v := 0) hx hb d_Ve_pick_45 (by decide) ?_
          obtain ⟨c_5, h⟩ := ch_ite h
          refine va_iast hx hb hK hP hD hS 1 0 rfl rfl (ch_in c_5) d_Ve_pick_46 (fun H locs hP hD hS => ?_)
          have hP : va_P (dC, dI) vwCl [(q_o, .inr (0, [.int o_many, .ref q_o_parts])), (q_p3, .inl (cI, n_p3, .inl (upd g_f_p3 x5.toNatClampNeg (0 : Int32)))), (q_o_parts, .inl (cI, n_o_parts, .inl f_o_parts))] H := hP
          have hD : va_D A [(q_o, .inr (0, [.int o_many, .ref q_o_parts])), (q_p3, .inl (cI, n_p3, .inl (upd g_f_p3 x5.toNatClampNeg (0 : Int32)))), (q_o_parts, .inl (cI, n_o_parts, .inl f_o_parts))] := hD
          refine lv_iinc (v := (x5 + 1)) (lv' := [(5, .int (x5 + 1)), (0, .ref q_o), (1, .int x1), (2, .int x2), (3, .ref q_p3), (4, .int x4)]) hx hb d_Ve_pick_47 hl (k := 5) rfl (by rfl) (by decide) rfl (fun ls hl => ?_)
          refine lv_goto (tgt := 10) hx hb d_Ve_pick_50 (by decide) ?_
          exact ih_10 x1 x2 x4 (x5 + 1) (upd g_f_p3 x5.toNatClampNeg (0 : Int32)) h _ _ hP hD hS _ (lv_sub hl [1, 2, 3, 4, 5, 0] rfl)
        · rw [if_neg c_4] at h
          refine lv_aload_n hx hb d_Ve_pick_25 rfl (lv_at hl 0 rfl) ?_
          refine va_get (D := (dC, dI)) (ci := 0) (v := .ref q_o_parts) (C := R_Ve) (T := T_Ve) (N := 2) hx hb hts (iw_Ve _) hown hK hP 0 rfl rfl 1 (by decide) (hts (.fieldLink R_Ve 19 "ShaderMachine$Vectors" "parts" "[I") (List.mem_cons_of_mem _ tw_45)) (fun _ h9 => h9) rfl d_Ve_pick_26 ?_
          refine lv_iconst (v := 4) hx hb d_Ve_pick_29 (by decide) ?_
          refine lv_iload_n hx hb d_Ve_pick_30 rfl (lv_at hl 1 rfl) ?_
          refine lv_imul hx hb d_Ve_pick_31 ?_
          refine lv_iload_n hx hb d_Ve_pick_32 rfl (lv_at hl 2 rfl) ?_
          refine lv_iconst (v := 2) hx hb d_Ve_pick_33 (by decide) ?_
          refine lv_iload hx hb d_Ve_pick_34 (lv_at hl 5 rfl) ?_
          refine lv_imul hx hb d_Ve_pick_36 ?_
          refine lv_ishr hx hb d_Ve_pick_37 ?_
          refine lv_iconst (v := 3) hx hb d_Ve_pick_38 (by decide) ?_
          refine lv_iand hx hb d_Ve_pick_39 ?_
          refine lv_iadd hx hb d_Ve_pick_40 ?_
          obtain ⟨c_6, h⟩ := ch_ite h
          refine va_iald hx hb hK hP 2 0 rfl rfl (ch_in c_6) d_Ve_pick_41 ?_
          refine lv_goto (tgt := 46) hx hb d_Ve_pick_42 (by decide) ?_
          obtain ⟨c_7, h⟩ := ch_ite h
          refine va_iast hx hb hK hP hD hS 1 0 rfl rfl (ch_in c_7) d_Ve_pick_46 (fun H locs hP hD hS => ?_)
          have hP : va_P (dC, dI) vwCl [(q_o, .inr (0, [.int o_many, .ref q_o_parts])), (q_p3, .inl (cI, n_p3, .inl (upd g_f_p3 x5.toNatClampNeg (f_o_parts (((4 : Int32) * x1) + ((x2 >>> (((2 : Int32) * x5) &&& 31)) &&& (3 : Int32))).toNatClampNeg)))), (q_o_parts, .inl (cI, n_o_parts, .inl f_o_parts))] H := hP
          have hD : va_D A [(q_o, .inr (0, [.int o_many, .ref q_o_parts])), (q_p3, .inl (cI, n_p3, .inl (upd g_f_p3 x5.toNatClampNeg (f_o_parts (((4 : Int32) * x1) + ((x2 >>> (((2 : Int32) * x5) &&& 31)) &&& (3 : Int32))).toNatClampNeg)))), (q_o_parts, .inl (cI, n_o_parts, .inl f_o_parts))] := hD
          refine lv_iinc (v := (x5 + 1)) (lv' := [(5, .int (x5 + 1)), (0, .ref q_o), (1, .int x1), (2, .int x2), (3, .ref q_p3), (4, .int x4)]) hx hb d_Ve_pick_47 hl (k := 5) rfl (by rfl) (by decide) rfl (fun ls hl => ?_)
          refine lv_goto (tgt := 10) hx hb d_Ve_pick_50 (by decide) ?_
          exact ih_10 x1 x2 x4 (x5 + 1) (upd g_f_p3 x5.toNatClampNeg (f_o_parts (((4 : Int32) * x1) + ((x2 >>> (((2 : Int32) * x5) &&& 31)) &&& (3 : Int32))).toNatClampNeg)) h _ _ hP hD hS _ (lv_sub hl [1, 2, 3, 4, 5, 0] rfl)
  unfold pf_Ve_pick at h
  have hl := lv_entry ([.ref q_o, .int p1, .int p2, .ref q_p3]) (n := 6) (Nat.le_of_ble_eq_true rfl)
  rw [lg_entry_eq]
  generalize (lg_sl ([.ref q_o, .int p1, .int p2, .ref q_p3]) ++ List.replicate (6 - (lg_sl ([.ref q_o, .int p1, .int p2, .ref q_p3])).length) Slot.unset).toArray = ls at hl ⊢
  have hl : lv_has ls 6 [(0, .ref q_o), (1, .int p1), (2, .int p2), (3, .ref q_p3)] := hl
  refine lv_aload_n hx hb d_Ve_pick_0 rfl (lv_at hl 0 rfl) ?_
  refine lv_iload_n hx hb d_Ve_pick_1 rfl (lv_at hl 1 rfl) ?_
  obtain ⟨r_2, h_1, h⟩ := ch_bind h
  try dsimp only at h
  refine ck_goi (wc := [(q_o, .inr (0, [.int o_many, .ref q_o_parts]))]) (wr := [(q_p3, .inl (cI, n_p3, .inl f_p3)), (q_o_parts, .inl (cI, n_o_parts, .inl f_o_parts))]) (w1 := [(q_o, .inr (0, [.int o_many, .ref q_o_parts]))]) (va_runV (As := [.int p1]) (rest := []) ⟨hx, hb, hml, hown, hts⟩ (k_Ve_has l dC dI cI cJ p1 o_many q_o q_o_parts r_2 h_1 _) (cwV 1 hts (gw_V tw_575 tw_474 tw_475 tw_3 tw_476) rfl rfl rfl (by decide +kernel) ⟨Nat.le_of_ble_eq_true rfl, Nat.le_of_ble_eq_true rfl⟩) (ck_preV (wc := [(q_o, .inr (0, [.int o_many, .ref q_o_parts]))]) hK hP hD hS hA hE 0 rfl rfl rfl [0] (by decide) rfl) rfl rfl hl.1 rfl (lv_room (Nat.le_of_ble_eq_true rfl)) d_Ve_pick_2 ⟨Nat.le_of_ble_eq_true rfl, Nat.le_of_ble_eq_true rfl⟩) hP hD hS hA [0] [1, 2] rfl rfl (by decide) (by decide) (fun H locs hP hD hS => ?_)
  have hP : va_P (dC, dI) vwCl [(q_o, .inr (0, [.int o_many, .ref q_o_parts])), (q_p3, .inl (cI, n_p3, .inl f_p3)), (q_o_parts, .inl (cI, n_o_parts, .inl f_o_parts))] H := hP.sub [2, 0, 1] rfl
  have hD : va_D A [(q_o, .inr (0, [.int o_many, .ref q_o_parts])), (q_p3, .inl (cI, n_p3, .inl f_p3)), (q_o_parts, .inl (cI, n_o_parts, .inl f_o_parts))] := hD.sub [2, 0, 1] (by decide) rfl
  refine lv_istore (lv' := [(4, .int r_2), (0, .ref q_o), (1, .int p1), (2, .int p2), (3, .ref q_p3)]) hx hb d_Ve_pick_5 hl (by decide) rfl (fun ls hl => ?_)
  refine lv_iconst (v := 0) hx hb d_Ve_pick_7 (by decide) ?_
  refine lv_istore (lv' := [(5, .int (0 : Int32)), (4, .int r_2), (0, .ref q_o), (1, .int p1), (2, .int p2), (3, .ref q_p3)]) hx hb d_Ve_pick_8 hl (by decide) rfl (fun ls hl => ?_)
  exact w_10 fu p1 p2 r_2 (0 : Int32) f_p3 h _ _ hP hD hS _ (lv_sub hl [2, 3, 4, 5, 1, 0] rfl)
def pf_Ve_setPart (p1 : Int32) (p2 : Int32) (p3 : Int32) (o_many : Int32) (n_o_parts : Nat) (f_o_parts : Nat → Int32) : Option ((Nat → Int32)) :=
  Option.bind (pf_Ve_hasPart p1 p2 o_many) (fun r_2 => 
  if r_2 = 0 then
    some f_o_parts
  else
    if (0 : Int32) ≤ (((4 : Int32) * p1) + p2) ∧ (((4 : Int32) * p1) + p2).toNatClampNeg < n_o_parts then (
    some (upd f_o_parts (((4 : Int32) * p1) + p2).toNatClampNeg p3)) else none)
set_option maxHeartbeats 4000000 in
set_option maxRecDepth 100000 in
theorem k_Ve_setPart (l : Launch) (dC : Nat → ClassId) (dI : Nat → Nat → Nat) (cI cJ : ClassId) (p1 : Int32) (p2 : Int32) (p3 : Int32) (o_many : Int32) (n_o_parts : Nat) (f_o_parts : Nat → Int32) (q_o : Nat) (q_o_parts : Nat) (o_f_o_parts : Nat → Int32) (h : pf_Ve_setPart p1 p2 p3 o_many n_o_parts f_o_parts = some o_f_o_parts) : ck_v l y_Ve_setPart wm_Ve_setPart ({ frames := 1, cells := 0, slots := 0, locals := 22 } : Room) [.ref q_o, .int p1, .int p2, .int p3] (dC, dI) [(cI, .int), (cJ, .long)] [(q_o, .inr (0, [.int o_many, .ref q_o_parts])), (q_o_parts, .inl (cI, n_o_parts, .inl f_o_parts))] [(q_o, .inr (0, [.int o_many, .ref q_o_parts])), (q_o_parts, .inl (cI, n_o_parts, .inl o_f_o_parts))] := by
  refine ck_ofv (cc := c_Ve_setPart) (maxL := 4) (ret := none) (by decide +kernel) rfl ?_
  intro p e s m below meth c A C0 hK hP hD hS hE
  obtain ⟨hx, hb, hr, hml, hown, hts, hlk, hA, hin⟩ := C0
  unfold pf_Ve_setPart at h
  have hl := lv_entry ([.ref q_o, .int p1, .int p2, .int p3]) (n := 4) (Nat.le_of_ble_eq_true rfl)
  rw [lg_entry_eq]
  generalize (lg_sl ([.ref q_o, .int p1, .int p2, .int p3]) ++ List.replicate (4 - (lg_sl ([.ref q_o, .int p1, .int p2, .int p3])).length) Slot.unset).toArray = ls at hl ⊢
  have hl : lv_has ls 4 [(0, .ref q_o), (1, .int p1), (2, .int p2), (3, .int p3)] := hl
  refine lv_aload_n hx hb d_Ve_setPart_0 rfl (lv_at hl 0 rfl) ?_
  refine lv_iload_n hx hb d_Ve_setPart_1 rfl (lv_at hl 1 rfl) ?_
  refine lv_iload_n hx hb d_Ve_setPart_2 rfl (lv_at hl 2 rfl) ?_
  obtain ⟨r_2, h_1, h⟩ := ch_bind h
  try dsimp only at h
  refine ck_goi (wc := [(q_o, .inr (0, [.int o_many, .ref q_o_parts]))]) (wr := [(q_o_parts, .inl (cI, n_o_parts, .inl f_o_parts))]) (w1 := [(q_o, .inr (0, [.int o_many, .ref q_o_parts]))]) (va_runV (As := [.int p1, .int p2]) (rest := []) ⟨hx, hb, hml, hown, hts⟩ (k_Ve_hasPart l dC dI cI cJ p1 p2 o_many q_o q_o_parts r_2 h_1 _) (cwV 2 hts (gw_V tw_486 tw_487 tw_488 tw_3 tw_489) rfl rfl rfl (by decide +kernel) ⟨Nat.le_of_ble_eq_true rfl, Nat.le_of_ble_eq_true rfl⟩) (ck_preV (wc := [(q_o, .inr (0, [.int o_many, .ref q_o_parts]))]) hK hP hD hS hA hE 0 rfl rfl rfl [0] (by decide) rfl) rfl rfl hl.1 rfl (lv_room (Nat.le_of_ble_eq_true rfl)) d_Ve_setPart_3 ⟨Nat.le_of_ble_eq_true rfl, Nat.le_of_ble_eq_true rfl⟩) hP hD hS hA [0] [1] rfl rfl (by decide) (by decide) (fun H locs hP hD hS => ?_)
  have hP : va_P (dC, dI) vwCl [(q_o, .inr (0, [.int o_many, .ref q_o_parts])), (q_o_parts, .inl (cI, n_o_parts, .inl f_o_parts))] H := hP.sub [1, 0] rfl
  have hD : va_D A [(q_o, .inr (0, [.int o_many, .ref q_o_parts])), (q_o_parts, .inl (cI, n_o_parts, .inl f_o_parts))] := hD.sub [1, 0] (by decide) rfl
  refine lv_if_eq (tgt := 20) hx hb d_Ve_setPart_6 (by decide) (fun c_3 => ?_) (fun c_3 => ?_)
  · rw [if_pos c_3] at h
    cases h
    exact ck_vret hx hb hr hlk hK hP hD hS d_Ve_setPart_20
  · rw [if_neg c_3] at h
    refine lv_aload_n hx hb d_Ve_setPart_9 rfl (lv_at hl 0 rfl) ?_
    refine va_get (D := (dC, dI)) (ci := 0) (v := .ref q_o_parts) (C := R_Ve) (T := T_Ve) (N := 2) hx hb hts (iw_Ve _) hown hK hP 0 rfl rfl 1 (by decide) (hts (.fieldLink R_Ve 19 "ShaderMachine$Vectors" "parts" "[I") (List.mem_cons_of_mem _ tw_45)) (fun _ h9 => h9) rfl d_Ve_setPart_10 ?_
    refine lv_iconst (v := 4) hx hb d_Ve_setPart_13 (by decide) ?_
    refine lv_iload_n hx hb d_Ve_setPart_14 rfl (lv_at hl 1 rfl) ?_
    refine lv_imul hx hb d_Ve_setPart_15 ?_
    refine lv_iload_n hx hb d_Ve_setPart_16 rfl (lv_at hl 2 rfl) ?_
    refine lv_iadd hx hb d_Ve_setPart_17 ?_
    refine lv_iload_n hx hb d_Ve_setPart_18 rfl (lv_at hl 3 rfl) ?_
    obtain ⟨c_4, h⟩ := ch_ite h
    refine va_iast hx hb hK hP hD hS 1 0 rfl rfl (ch_in c_4) d_Ve_setPart_19 (fun H locs hP hD hS => ?_)
    have hP : va_P (dC, dI) vwCl [(q_o, .inr (0, [.int o_many, .ref q_o_parts])), (q_o_parts, .inl (cI, n_o_parts, .inl (upd f_o_parts (((4 : Int32) * p1) + p2).toNatClampNeg p3)))] H := hP
    have hD : va_D A [(q_o, .inr (0, [.int o_many, .ref q_o_parts])), (q_o_parts, .inl (cI, n_o_parts, .inl (upd f_o_parts (((4 : Int32) * p1) + p2).toNatClampNeg p3)))] := hD
    cases h
    exact ck_vret hx hb hr hlk hK hP hD hS d_Ve_setPart_20
def pf_Ve_set (p1 : Int32) (p2 : Int32) (p3 : Int32) (p4 : Int32) (p5 : Int32) (o_many : Int32) (n_o_parts : Nat) (f_o_parts : Nat → Int32) : Option ((Nat → Int32)) :=
  Option.bind (pf_Ve_setPart p1 (0 : Int32) p2 o_many n_o_parts f_o_parts) (fun w_2 => 
  Option.bind (pf_Ve_setPart p1 (1 : Int32) p3 o_many n_o_parts w_2) (fun w_4 => 
  Option.bind (pf_Ve_setPart p1 (2 : Int32) p4 o_many n_o_parts w_4) (fun w_6 => 
  Option.bind (pf_Ve_setPart p1 (3 : Int32) p5 o_many n_o_parts w_6) (fun w_8 => 
  some w_8))))
set_option maxHeartbeats 4000000 in
set_option maxRecDepth 100000 in
theorem k_Ve_set (l : Launch) (dC : Nat → ClassId) (dI : Nat → Nat → Nat) (cI cJ : ClassId) (p1 : Int32) (p2 : Int32) (p3 : Int32) (p4 : Int32) (p5 : Int32) (o_many : Int32) (n_o_parts : Nat) (f_o_parts : Nat → Int32) (q_o : Nat) (q_o_parts : Nat) (o_f_o_parts : Nat → Int32) (h : pf_Ve_set p1 p2 p3 p4 p5 o_many n_o_parts f_o_parts = some o_f_o_parts) : ck_v l y_Ve_set wm_Ve_set ({ frames := 2, cells := 0, slots := 0, locals := 45 } : Room) [.ref q_o, .int p1, .int p2, .int p3, .int p4, .int p5] (dC, dI) [(cI, .int), (cJ, .long)] [(q_o, .inr (0, [.int o_many, .ref q_o_parts])), (q_o_parts, .inl (cI, n_o_parts, .inl f_o_parts))] [(q_o, .inr (0, [.int o_many, .ref q_o_parts])), (q_o_parts, .inl (cI, n_o_parts, .inl o_f_o_parts))] := by
  refine ck_ofv (cc := c_Ve_set) (maxL := 6) (ret := none) (by decide +kernel) rfl ?_
  intro p e s m below meth c A C0 hK hP hD hS hE
  obtain ⟨hx, hb, hr, hml, hown, hts, hlk, hA, hin⟩ := C0
  unfold pf_Ve_set at h
  have hl := lv_entry ([.ref q_o, .int p1, .int p2, .int p3, .int p4, .int p5]) (n := 6) (Nat.le_of_ble_eq_true rfl)
  rw [lg_entry_eq]
  generalize (lg_sl ([.ref q_o, .int p1, .int p2, .int p3, .int p4, .int p5]) ++ List.replicate (6 - (lg_sl ([.ref q_o, .int p1, .int p2, .int p3, .int p4, .int p5])).length) Slot.unset).toArray = ls at hl ⊢
  have hl : lv_has ls 6 [(0, .ref q_o), (1, .int p1), (2, .int p2), (3, .int p3), (4, .int p4), (5, .int p5)] := hl
  refine lv_aload_n hx hb d_Ve_set_0 rfl (lv_at hl 0 rfl) ?_
  refine lv_iload_n hx hb d_Ve_set_1 rfl (lv_at hl 1 rfl) ?_
  refine lv_iconst (v := 0) hx hb d_Ve_set_2 (by decide) ?_
  refine lv_iload_n hx hb d_Ve_set_3 rfl (lv_at hl 2 rfl) ?_
  obtain ⟨w_2, h_1, h⟩ := ch_bind h
  try dsimp only at h
  refine ck_gov (wc := [(q_o, .inr (0, [.int o_many, .ref q_o_parts])), (q_o_parts, .inl (cI, n_o_parts, .inl f_o_parts))]) (wr := []) (w1 := [(q_o, .inr (0, [.int o_many, .ref q_o_parts])), (q_o_parts, .inl (cI, n_o_parts, .inl w_2))]) (va_runV (As := [.int p1, .int (0 : Int32), .int p2]) (rest := []) ⟨hx, hb, hml, hown, hts⟩ (k_Ve_setPart l dC dI cI cJ p1 (0 : Int32) p2 o_many n_o_parts f_o_parts q_o q_o_parts w_2 h_1 _) (cwV 3 hts (gw_V tw_482 tw_483 tw_484 tw_3 tw_485) rfl rfl rfl (by decide +kernel) ⟨Nat.le_of_ble_eq_true rfl, Nat.le_of_ble_eq_true rfl⟩) (ck_preV (wc := [(q_o, .inr (0, [.int o_many, .ref q_o_parts])), (q_o_parts, .inl (cI, n_o_parts, .inl f_o_parts))]) hK hP hD hS hA hE 0 rfl rfl rfl [0, 1] (by decide) rfl) rfl rfl hl.1 rfl (lv_room (Nat.le_of_ble_eq_true rfl)) d_Ve_set_4 ⟨Nat.le_of_ble_eq_true rfl, Nat.le_of_ble_eq_true rfl⟩) hP hD hS hA [0, 1] [] rfl rfl (by decide) (by decide) (fun H locs hP hD hS => ?_)
  have hP : va_P (dC, dI) vwCl [(q_o, .inr (0, [.int o_many, .ref q_o_parts])), (q_o_parts, .inl (cI, n_o_parts, .inl w_2))] H := hP.sub [0, 1] rfl
  have hD : va_D A [(q_o, .inr (0, [.int o_many, .ref q_o_parts])), (q_o_parts, .inl (cI, n_o_parts, .inl w_2))] := hD.sub [0, 1] (by decide) rfl
  refine lv_aload_n hx hb d_Ve_set_7 rfl (lv_at hl 0 rfl) ?_
  refine lv_iload_n hx hb d_Ve_set_8 rfl (lv_at hl 1 rfl) ?_
  refine lv_iconst (v := 1) hx hb d_Ve_set_9 (by decide) ?_
  refine lv_iload_n hx hb d_Ve_set_10 rfl (lv_at hl 3 rfl) ?_
  obtain ⟨w_4, h_3, h⟩ := ch_bind h
  try dsimp only at h
  refine ck_gov (wc := [(q_o, .inr (0, [.int o_many, .ref q_o_parts])), (q_o_parts, .inl (cI, n_o_parts, .inl w_2))]) (wr := []) (w1 := [(q_o, .inr (0, [.int o_many, .ref q_o_parts])), (q_o_parts, .inl (cI, n_o_parts, .inl w_4))]) (va_runV (As := [.int p1, .int (1 : Int32), .int p3]) (rest := []) ⟨hx, hb, hml, hown, hts⟩ (k_Ve_setPart l dC dI cI cJ p1 (1 : Int32) p3 o_many n_o_parts w_2 q_o q_o_parts w_4 h_3 _) (cwV 3 hts (gw_V tw_482 tw_483 tw_484 tw_3 tw_485) rfl rfl rfl (by decide +kernel) ⟨Nat.le_of_ble_eq_true rfl, Nat.le_of_ble_eq_true rfl⟩) (ck_preV (wc := [(q_o, .inr (0, [.int o_many, .ref q_o_parts])), (q_o_parts, .inl (cI, n_o_parts, .inl w_2))]) hK hP hD hS hA hE 0 rfl rfl rfl [0, 1] (by decide) rfl) rfl rfl hl.1 rfl (lv_room (Nat.le_of_ble_eq_true rfl)) d_Ve_set_11 ⟨Nat.le_of_ble_eq_true rfl, Nat.le_of_ble_eq_true rfl⟩) hP hD hS hA [0, 1] [] rfl rfl (by decide) (by decide) (fun H locs hP hD hS => ?_)
  have hP : va_P (dC, dI) vwCl [(q_o, .inr (0, [.int o_many, .ref q_o_parts])), (q_o_parts, .inl (cI, n_o_parts, .inl w_4))] H := hP.sub [0, 1] rfl
  have hD : va_D A [(q_o, .inr (0, [.int o_many, .ref q_o_parts])), (q_o_parts, .inl (cI, n_o_parts, .inl w_4))] := hD.sub [0, 1] (by decide) rfl
  refine lv_aload_n hx hb d_Ve_set_14 rfl (lv_at hl 0 rfl) ?_
  refine lv_iload_n hx hb d_Ve_set_15 rfl (lv_at hl 1 rfl) ?_
  refine lv_iconst (v := 2) hx hb d_Ve_set_16 (by decide) ?_
  refine lv_iload hx hb d_Ve_set_17 (lv_at hl 4 rfl) ?_
  obtain ⟨w_6, h_5, h⟩ := ch_bind h
  try dsimp only at h
  refine ck_gov (wc := [(q_o, .inr (0, [.int o_many, .ref q_o_parts])), (q_o_parts, .inl (cI, n_o_parts, .inl w_4))]) (wr := []) (w1 := [(q_o, .inr (0, [.int o_many, .ref q_o_parts])), (q_o_parts, .inl (cI, n_o_parts, .inl w_6))]) (va_runV (As := [.int p1, .int (2 : Int32), .int p4]) (rest := []) ⟨hx, hb, hml, hown, hts⟩ (k_Ve_setPart l dC dI cI cJ p1 (2 : Int32) p4 o_many n_o_parts w_4 q_o q_o_parts w_6 h_5 _) (cwV 3 hts (gw_V tw_482 tw_483 tw_484 tw_3 tw_485) rfl rfl rfl (by decide +kernel) ⟨Nat.le_of_ble_eq_true rfl, Nat.le_of_ble_eq_true rfl⟩) (ck_preV (wc := [(q_o, .inr (0, [.int o_many, .ref q_o_parts])), (q_o_parts, .inl (cI, n_o_parts, .inl w_4))]) hK hP hD hS hA hE 0 rfl rfl rfl [0, 1] (by decide) rfl) rfl rfl hl.1 rfl (lv_room (Nat.le_of_ble_eq_true rfl)) d_Ve_set_19 ⟨Nat.le_of_ble_eq_true rfl, Nat.le_of_ble_eq_true rfl⟩) hP hD hS hA [0, 1] [] rfl rfl (by decide) (by decide) (fun H locs hP hD hS => ?_)
  have hP : va_P (dC, dI) vwCl [(q_o, .inr (0, [.int o_many, .ref q_o_parts])), (q_o_parts, .inl (cI, n_o_parts, .inl w_6))] H := hP.sub [0, 1] rfl
  have hD : va_D A [(q_o, .inr (0, [.int o_many, .ref q_o_parts])), (q_o_parts, .inl (cI, n_o_parts, .inl w_6))] := hD.sub [0, 1] (by decide) rfl
  refine lv_aload_n hx hb d_Ve_set_22 rfl (lv_at hl 0 rfl) ?_
  refine lv_iload_n hx hb d_Ve_set_23 rfl (lv_at hl 1 rfl) ?_
  refine lv_iconst (v := 3) hx hb d_Ve_set_24 (by decide) ?_
  refine lv_iload hx hb d_Ve_set_25 (lv_at hl 5 rfl) ?_
  obtain ⟨w_8, h_7, h⟩ := ch_bind h
  try dsimp only at h
  refine ck_gov (wc := [(q_o, .inr (0, [.int o_many, .ref q_o_parts])), (q_o_parts, .inl (cI, n_o_parts, .inl w_6))]) (wr := []) (w1 := [(q_o, .inr (0, [.int o_many, .ref q_o_parts])), (q_o_parts, .inl (cI, n_o_parts, .inl w_8))]) (va_runV (As := [.int p1, .int (3 : Int32), .int p5]) (rest := []) ⟨hx, hb, hml, hown, hts⟩ (k_Ve_setPart l dC dI cI cJ p1 (3 : Int32) p5 o_many n_o_parts w_6 q_o q_o_parts w_8 h_7 _) (cwV 3 hts (gw_V tw_482 tw_483 tw_484 tw_3 tw_485) rfl rfl rfl (by decide +kernel) ⟨Nat.le_of_ble_eq_true rfl, Nat.le_of_ble_eq_true rfl⟩) (ck_preV (wc := [(q_o, .inr (0, [.int o_many, .ref q_o_parts])), (q_o_parts, .inl (cI, n_o_parts, .inl w_6))]) hK hP hD hS hA hE 0 rfl rfl rfl [0, 1] (by decide) rfl) rfl rfl hl.1 rfl (lv_room (Nat.le_of_ble_eq_true rfl)) d_Ve_set_27 ⟨Nat.le_of_ble_eq_true rfl, Nat.le_of_ble_eq_true rfl⟩) hP hD hS hA [0, 1] [] rfl rfl (by decide) (by decide) (fun H locs hP hD hS => ?_)
  have hP : va_P (dC, dI) vwCl [(q_o, .inr (0, [.int o_many, .ref q_o_parts])), (q_o_parts, .inl (cI, n_o_parts, .inl w_8))] H := hP.sub [0, 1] rfl
  have hD : va_D A [(q_o, .inr (0, [.int o_many, .ref q_o_parts])), (q_o_parts, .inl (cI, n_o_parts, .inl w_8))] := hD.sub [0, 1] (by decide) rfl
  cases h
  exact ck_vret hx hb hr hlk hK hP hD hS d_Ve_set_30
def pf_Lo_open (p1 : Int32) (p2 : Int64) (o_depth : Int32) (n_o_places : Nat) (f_o_places : Nat → Int32) (n_o_counts : Nat) (f_o_counts : Nat → Int64) : Option (Int32 × (Nat → Int32) × (Nat → Int64)) :=
  if o_depth < 0 then
    some (o_depth, f_o_places, f_o_counts)
  else
    if (4 : Int32) ≤ o_depth then
      some (o_depth, f_o_places, f_o_counts)
    else
      if (0 : Int32) ≤ o_depth ∧ o_depth.toNatClampNeg < n_o_places then (
      if (0 : Int32) ≤ o_depth ∧ o_depth.toNatClampNeg < n_o_counts then (
      some ((o_depth + (1 : Int32)), (upd f_o_places o_depth.toNatClampNeg p1), (vp_updL f_o_counts o_depth.toNatClampNeg p2))) else none) else none
set_option maxHeartbeats 4000000 in
set_option maxRecDepth 100000 in
theorem k_Lo_open (l : Launch) (dC : Nat → ClassId) (dI : Nat → Nat → Nat) (cI cJ : ClassId) (p1 : Int32) (p2 : Int64) (o_depth : Int32) (n_o_places : Nat) (f_o_places : Nat → Int32) (n_o_counts : Nat) (f_o_counts : Nat → Int64) (q_o : Nat) (q_o_places : Nat) (q_o_counts : Nat) (o_o_depth : Int32) (o_f_o_places : Nat → Int32) (o_f_o_counts : Nat → Int64) (h : pf_Lo_open p1 p2 o_depth n_o_places f_o_places n_o_counts f_o_counts = some (o_o_depth, o_f_o_places, o_f_o_counts)) : ck_v l y_Lo_open wm_Lo_open ({ frames := 0, cells := 0, slots := 0, locals := 0 } : Room) [.ref q_o, .int p1, .long p2] (dC, dI) [(cI, .int), (cJ, .long)] [(q_o, .inr (2, [.ref q_o_places, .ref q_o_counts, .int o_depth])), (q_o_places, .inl (cI, n_o_places, .inl f_o_places)), (q_o_counts, .inl (cJ, n_o_counts, .inr (.inl f_o_counts)))] [(q_o, .inr (2, [.ref q_o_places, .ref q_o_counts, .int o_o_depth])), (q_o_places, .inl (cI, n_o_places, .inl o_f_o_places)), (q_o_counts, .inl (cJ, n_o_counts, .inr (.inl o_f_o_counts)))] := by
  refine ck_ofv (cc := c_Lo_open) (maxL := 4) (ret := none) (by decide +kernel) rfl ?_
  intro p e s m below meth c A C0 hK hP hD hS hE
  obtain ⟨hx, hb, hr, hml, hown, hts, hlk, hA, hin⟩ := C0
  unfold pf_Lo_open at h
  have hl := lv_entry ([.ref q_o, .int p1, .long p2]) (n := 4) (Nat.le_of_ble_eq_true rfl)
  rw [lg_entry_eq]
  generalize (lg_sl ([.ref q_o, .int p1, .long p2]) ++ List.replicate (4 - (lg_sl ([.ref q_o, .int p1, .long p2])).length) Slot.unset).toArray = ls at hl ⊢
  have hl : lv_has ls 4 [(0, .ref q_o), (1, .int p1), (2, .long p2)] := hl
  refine lv_aload_n hx hb d_Lo_open_0 rfl (lv_at hl 0 rfl) ?_
  refine va_get (D := (dC, dI)) (ci := 2) (v := .int o_depth) (C := R_Lo) (T := T_Lo) (N := 3) hx hb hts (iw_Lo _) hown hK hP 0 rfl rfl 2 (by decide) (hts (.fieldLink R_Lo 19 "ShaderMachine$Loops" "depth" "I") (List.mem_cons_of_mem _ tw_97)) (fun _ h9 => h9) rfl d_Lo_open_1 ?_
  refine lv_if_lt (tgt := 45) hx hb d_Lo_open_4 (by decide) (fun c_1 => ?_) (fun c_1 => ?_)
  · rw [if_pos c_1] at h
    cases h
    exact ck_vret hx hb hr hlk hK hP hD hS d_Lo_open_45
  · rw [if_neg c_1] at h
    refine lv_aload_n hx hb d_Lo_open_7 rfl (lv_at hl 0 rfl) ?_
    refine va_get (D := (dC, dI)) (ci := 2) (v := .int o_depth) (C := R_Lo) (T := T_Lo) (N := 3) hx hb hts (iw_Lo _) hown hK hP 0 rfl rfl 2 (by decide) (hts (.fieldLink R_Lo 19 "ShaderMachine$Loops" "depth" "I") (List.mem_cons_of_mem _ tw_97)) (fun _ h9 => h9) rfl d_Lo_open_8 ?_
    refine lv_iconst (v := 4) hx hb d_Lo_open_11 (by decide) ?_
    refine lv_icmp_ge (tgt := 45) hx hb d_Lo_open_12 (by decide) (fun c_2 => ?_) (fun c_2 => ?_)
    · rw [if_pos c_2] at h
      cases h
      exact ck_vret hx hb hr hlk hK hP hD hS d_Lo_open_45
    · rw [if_neg c_2] at h
      refine lv_aload_n hx hb d_Lo_open_15 rfl (lv_at hl 0 rfl) ?_
      refine va_get (D := (dC, dI)) (ci := 2) (v := .ref q_o_places) (C := R_Lo) (T := T_Lo) (N := 3) hx hb hts (iw_Lo _) hown hK hP 0 rfl rfl 0 (by decide) (hts (.fieldLink R_Lo 11 "ShaderMachine$Loops" "places" "[I") (List.mem_cons_of_mem _ tw_95)) (fun _ h9 => h9) rfl d_Lo_open_16 ?_
      refine lv_aload_n hx hb d_Lo_open_19 rfl (lv_at hl 0 rfl) ?_
      refine va_get (D := (dC, dI)) (ci := 2) (v := .int o_depth) (C := R_Lo) (T := T_Lo) (N := 3) hx hb hts (iw_Lo _) hown hK hP 0 rfl rfl 2 (by decide) (hts (.fieldLink R_Lo 19 "ShaderMachine$Loops" "depth" "I") (List.mem_cons_of_mem _ tw_97)) (fun _ h9 => h9) rfl d_Lo_open_20 ?_
      refine lv_iload_n hx hb d_Lo_open_23 rfl (lv_at hl 1 rfl) ?_
      obtain ⟨c_3, h⟩ := ch_ite h
      refine va_iast hx hb hK hP hD hS 1 0 rfl rfl (ch_in c_3) d_Lo_open_24 (fun H locs hP hD hS => ?_)
      have hP : va_P (dC, dI) vwCl [(q_o, .inr (2, [.ref q_o_places, .ref q_o_counts, .int o_depth])), (q_o_places, .inl (cI, n_o_places, .inl (upd f_o_places o_depth.toNatClampNeg p1))), (q_o_counts, .inl (cJ, n_o_counts, .inr (.inl f_o_counts)))] H := hP
      have hD : va_D A [(q_o, .inr (2, [.ref q_o_places, .ref q_o_counts, .int o_depth])), (q_o_places, .inl (cI, n_o_places, .inl (upd f_o_places o_depth.toNatClampNeg p1))), (q_o_counts, .inl (cJ, n_o_counts, .inr (.inl f_o_counts)))] := hD
      refine lv_aload_n hx hb d_Lo_open_25 rfl (lv_at hl 0 rfl) ?_
      refine va_get (D := (dC, dI)) (ci := 2) (v := .ref q_o_counts) (C := R_Lo) (T := T_Lo) (N := 3) hx hb hts (iw_Lo _) hown hK hP 0 rfl rfl 1 (by decide) (hts (.fieldLink R_Lo 15 "ShaderMachine$Loops" "counts" "[J") (List.mem_cons_of_mem _ tw_96)) (fun _ h9 => h9) rfl d_Lo_open_26 ?_
      refine lv_aload_n hx hb d_Lo_open_29 rfl (lv_at hl 0 rfl) ?_
      refine va_get (D := (dC, dI)) (ci := 2) (v := .int o_depth) (C := R_Lo) (T := T_Lo) (N := 3) hx hb hts (iw_Lo _) hown hK hP 0 rfl rfl 2 (by decide) (hts (.fieldLink R_Lo 19 "ShaderMachine$Loops" "depth" "I") (List.mem_cons_of_mem _ tw_97)) (fun _ h9 => h9) rfl d_Lo_open_30 ?_
      refine lv_lload_n hx hb d_Lo_open_33 rfl (lv_at hl 2 rfl) ?_
      obtain ⟨c_4, h⟩ := ch_ite h
      refine va_last hx hb hK hP hD hS 2 1 rfl rfl (ch_in c_4) d_Lo_open_34 (fun H locs hP hD hS => ?_)
      have hP : va_P (dC, dI) vwCl [(q_o, .inr (2, [.ref q_o_places, .ref q_o_counts, .int o_depth])), (q_o_places, .inl (cI, n_o_places, .inl (upd f_o_places o_depth.toNatClampNeg p1))), (q_o_counts, .inl (cJ, n_o_counts, .inr (.inl (vp_updL f_o_counts o_depth.toNatClampNeg p2))))] H := hP
      have hD : va_D A [(q_o, .inr (2, [.ref q_o_places, .ref q_o_counts, .int o_depth])), (q_o_places, .inl (cI, n_o_places, .inl (upd f_o_places o_depth.toNatClampNeg p1))), (q_o_counts, .inl (cJ, n_o_counts, .inr (.inl (vp_updL f_o_counts o_depth.toNatClampNeg p2))))] := hD
      refine lv_aload_n hx hb d_Lo_open_35 rfl (lv_at hl 0 rfl) ?_
      refine lv_dup hx hb d_Lo_open_36 rfl ?_
      refine va_get (D := (dC, dI)) (ci := 2) (v := .int o_depth) (C := R_Lo) (T := T_Lo) (N := 3) hx hb hts (iw_Lo _) hown hK hP 0 rfl rfl 2 (by decide) (hts (.fieldLink R_Lo 19 "ShaderMachine$Loops" "depth" "I") (List.mem_cons_of_mem _ tw_97)) (fun _ h9 => h9) rfl d_Lo_open_37 ?_
      refine lv_iconst (v := 1) hx hb d_Lo_open_40 (by decide) ?_
      refine lv_iadd hx hb d_Lo_open_41 ?_
      refine va_put (D := (dC, dI)) (ci := 2) (v := .int (o_depth + (1 : Int32))) (ty := .int) (C := R_Lo) (T := T_Lo) (N := 3) hx hb hts (iw_Lo _) ty_Lo tk_Lo nd_Lo hown hK hP hD hS 0 rfl rfl 2 (by decide) (hts (.fieldLink R_Lo 19 "ShaderMachine$Loops" "depth" "I") (List.mem_cons_of_mem _ tw_97)) (fun _ h9 => h9) rfl (by decide +kernel) rfl rfl (Nat.le_of_ble_eq_true rfl) d_Lo_open_42 (fun H locs hP hD hS => ?_)
      have hP : va_P (dC, dI) vwCl [(q_o, .inr (2, [.ref q_o_places, .ref q_o_counts, .int (o_depth + (1 : Int32))])), (q_o_places, .inl (cI, n_o_places, .inl (upd f_o_places o_depth.toNatClampNeg p1))), (q_o_counts, .inl (cJ, n_o_counts, .inr (.inl (vp_updL f_o_counts o_depth.toNatClampNeg p2))))] H := hP
      have hD : va_D A [(q_o, .inr (2, [.ref q_o_places, .ref q_o_counts, .int (o_depth + (1 : Int32))])), (q_o_places, .inl (cI, n_o_places, .inl (upd f_o_places o_depth.toNatClampNeg p1))), (q_o_counts, .inl (cJ, n_o_counts, .inr (.inl (vp_updL f_o_counts o_depth.toNatClampNeg p2))))] := hD
      cases h
      exact ck_vret hx hb hr hlk hK hP hD hS d_Lo_open_45
def pf_St_sourceFile (p1 : Int32) : Option (Nat) :=
  if p1 < 0 ∨ 2 < p1 then
    some 0
  else
  if p1 = 0 then
    some 1
  else
  if p1 = 1 then
    some 2
  else
  if p1 = 2 then
    some 3
  else
    none
set_option maxHeartbeats 4000000 in
set_option maxRecDepth 100000 in
theorem k_St_sourceFile (l : Launch) (dC : Nat → ClassId) (dI : Nat → Nat → Nat) (cI cJ : ClassId) (p1 : Int32) (q_o : Nat) (q_o_memory : Nat) (q_o_temporaries : Nat) (q_o_ins : Nat) (q_o_outs : Nat) (q_o_uniforms : Nat) (q_o_textures : Nat) (q_o_nothing : Nat) (r : Nat) (h : pf_St_sourceFile p1 = some r) : ck_a l y_St_sourceFile wm_St_sourceFile ({ frames := 0, cells := 0, slots := 0, locals := 0 } : Room) [.ref q_o, .int p1] (dC, dI) [(cI, .int), (cJ, .long)] [(q_o, .inr (1, [.ref q_o_memory, .ref q_o_temporaries, .ref q_o_ins, .ref q_o_outs, .ref q_o_uniforms, .ref q_o_textures, .ref q_o_nothing]))] ([q_o_nothing, q_o_temporaries, q_o_ins, q_o_uniforms].getD r 0) [(q_o, .inr (1, [.ref q_o_memory, .ref q_o_temporaries, .ref q_o_ins, .ref q_o_outs, .ref q_o_uniforms, .ref q_o_textures, .ref q_o_nothing]))] := by
  refine ck_ofa (cc := c_St_sourceFile) (maxL := 2) (ret := (some (.object "ShaderMachine$Vectors"))) (by decide +kernel) rfl ?_
  intro p e s m below meth c A C0 hK hP hD hS hE
  obtain ⟨hx, hb, hr, hml, hown, hts, hlk, hA, hin⟩ := C0
  unfold pf_St_sourceFile at h
  have hl := lv_entry ([.ref q_o, .int p1]) (n := 2) (Nat.le_of_ble_eq_true rfl)
  rw [lg_entry_eq]
  generalize (lg_sl ([.ref q_o, .int p1]) ++ List.replicate (2 - (lg_sl ([.ref q_o, .int p1])).length) Slot.unset).toArray = ls at hl ⊢
  have hl : lv_has ls 2 [(0, .ref q_o), (1, .int p1)] := hl
  refine lv_iload_n hx hb d_St_sourceFile_0 rfl (lv_at hl 1 rfl) ?_
  by_cases c_1 : p1 < 0 ∨ 2 < p1
  · rw [if_pos c_1] at h
    refine lv_tableOut (tgt := 43) hx hb d_St_sourceFile_1 (ch_out c_1 (by decide) (by decide)) (by decide) ?_
    refine lv_aload_n hx hb d_St_sourceFile_43 rfl (lv_at hl 0 rfl) ?_
    refine va_get (D := (dC, dI)) (ci := 1) (v := .ref q_o_nothing) (C := R_St) (T := T_St) (N := 7) hx hb hts (iw_St _) hown hK hP 0 rfl rfl 6 (by decide) (hts (.fieldLink R_St 34 "ShaderMachine$Store" "nothing" "LShaderMachine$Vectors;") (List.mem_cons_of_mem _ tw_67)) (fun _ h9 => h9) rfl d_St_sourceFile_44 ?_
    cases h
    exact ck_aret hx hb hr (Or.inl ⟨_, rfl⟩) hlk hK hP hD hS d_St_sourceFile_47
  rw [if_neg c_1] at h
  by_cases c_2 : p1 = 0
  · rw [if_pos c_2] at h
    refine lv_tableIn (tgt := 28) hx hb d_St_sourceFile_1 (by rw [c_2]; decide) (by rw [c_2]; decide) (by rw [c_2]; rfl) (by decide) ?_
    refine lv_aload_n hx hb d_St_sourceFile_28 rfl (lv_at hl 0 rfl) ?_
    refine va_get (D := (dC, dI)) (ci := 1) (v := .ref q_o_temporaries) (C := R_St) (T := T_St) (N := 7) hx hb hts (iw_St _) hown hK hP 0 rfl rfl 1 (by decide) (hts (.fieldLink R_St 18 "ShaderMachine$Store" "temporaries" "LShaderMachine$Vectors;") (List.mem_cons_of_mem _ tw_53)) (fun _ h9 => h9) rfl d_St_sourceFile_29 ?_
    cases h
    exact ck_aret hx hb hr (Or.inl ⟨_, rfl⟩) hlk hK hP hD hS d_St_sourceFile_32
  rw [if_neg c_2] at h
  by_cases c_3 : p1 = 1
  · rw [if_pos c_3] at h
    refine lv_tableIn (tgt := 33) hx hb d_St_sourceFile_1 (by rw [c_3]; decide) (by rw [c_3]; decide) (by rw [c_3]; rfl) (by decide) ?_
    refine lv_aload_n hx hb d_St_sourceFile_33 rfl (lv_at hl 0 rfl) ?_
    refine va_get (D := (dC, dI)) (ci := 1) (v := .ref q_o_ins) (C := R_St) (T := T_St) (N := 7) hx hb hts (iw_St _) hown hK hP 0 rfl rfl 2 (by decide) (hts (.fieldLink R_St 22 "ShaderMachine$Store" "ins" "LShaderMachine$Vectors;") (List.mem_cons_of_mem _ tw_56)) (fun _ h9 => h9) rfl d_St_sourceFile_34 ?_
    cases h
    exact ck_aret hx hb hr (Or.inl ⟨_, rfl⟩) hlk hK hP hD hS d_St_sourceFile_37
  rw [if_neg c_3] at h
  by_cases c_4 : p1 = 2
  · rw [if_pos c_4] at h
    refine lv_tableIn (tgt := 38) hx hb d_St_sourceFile_1 (by rw [c_4]; decide) (by rw [c_4]; decide) (by rw [c_4]; rfl) (by decide) ?_
    refine lv_aload_n hx hb d_St_sourceFile_38 rfl (lv_at hl 0 rfl) ?_
    refine va_get (D := (dC, dI)) (ci := 1) (v := .ref q_o_uniforms) (C := R_St) (T := T_St) (N := 7) hx hb hts (iw_St _) hown hK hP 0 rfl rfl 4 (by decide) (hts (.fieldLink R_St 28 "ShaderMachine$Store" "uniforms" "LShaderMachine$Vectors;") (List.mem_cons_of_mem _ tw_61)) (fun _ h9 => h9) rfl d_St_sourceFile_39 ?_
    cases h
    exact ck_aret hx hb hr (Or.inl ⟨_, rfl⟩) hlk hK hP hD hS d_St_sourceFile_42
  rw [if_neg c_4] at h
  cases h
def pf_Ki_sources (p1 : Int32) : Option (Int32) :=
  if p1 < 0 then
    some (0 : Int32)
  else
    if (41 : Int32) ≤ p1 then
      some (0 : Int32)
    else
      if (0 : Int32) ≤ p1 ∧ p1.toNatClampNeg < 41 then (
      some (ks_ p1.toNatClampNeg)) else none
set_option maxHeartbeats 4000000 in
set_option maxRecDepth 100000 in
theorem k_Ki_sources (l : Launch) (dC : Nat → ClassId) (dI : Nat → Nat → Nat) (cI cJ : ClassId) (p1 : Int32) (r : Int32) (h : pf_Ki_sources p1 = some r) : ck_i l y_Ki_sources wm_Ki_sources ({ frames := 0, cells := 0, slots := 0, locals := 0 } : Room) [.int p1] (dC, dI) [(cI, .int), (cJ, .long)] [] r [] := by
  refine ck_ofi (cc := c_Ki_sources) (maxL := 1) (ret := (some .int)) (by decide +kernel) rfl ?_
  intro p e s m below meth c A C0 hK hP hD hS hE
  obtain ⟨hx, hb, hr, hml, hown, hts, hlk, hA, hin⟩ := C0
  obtain ⟨tK, hZK, hTK⟩ := hE.2
  unfold pf_Ki_sources at h
  have hl := lv_entry ([.int p1]) (n := 1) (Nat.le_of_ble_eq_true rfl)
  rw [lg_entry_eq]
  generalize (lg_sl ([.int p1]) ++ List.replicate (1 - (lg_sl ([.int p1])).length) Slot.unset).toArray = ls at hl ⊢
  have hl : lv_has ls 1 [(0, .int p1)] := hl
  refine lv_iload_n hx hb d_Ki_sources_0 rfl (lv_at hl 0 rfl) ?_
  refine lv_if_lt (tgt := 20) hx hb d_Ki_sources_1 (by decide) (fun c_1 => ?_) (fun c_1 => ?_)
  · rw [if_pos c_1] at h
    refine lv_iconst (v := 0) hx hb d_Ki_sources_20 (by decide) ?_
    cases h
    exact ck_iret hx hb hr hlk hK hP hD hS d_Ki_sources_21
  · rw [if_neg c_1] at h
    refine lv_iload_n hx hb d_Ki_sources_4 rfl (lv_at hl 0 rfl) ?_
    refine va_gets hx hb hZK hS hown (hts (.fieldLink R_Ki 7 "ShaderMachine$Kind" "SOURCES" "[I") (List.mem_cons_of_mem _ tw_374)) (fun _ h9 => h9) d_Ki_sources_5 ?_
    refine va_tlen (v := 41) hx hb hTK hS (by decide) d_Ki_sources_8 ?_
    refine lv_icmp_ge (tgt := 20) hx hb d_Ki_sources_9 (by decide) (fun c_2 => ?_) (fun c_2 => ?_)
    · rw [if_pos c_2] at h
      refine lv_iconst (v := 0) hx hb d_Ki_sources_20 (by decide) ?_
      cases h
      exact ck_iret hx hb hr hlk hK hP hD hS d_Ki_sources_21
    · rw [if_neg c_2] at h
      refine va_gets hx hb hZK hS hown (hts (.fieldLink R_Ki 7 "ShaderMachine$Kind" "SOURCES" "[I") (List.mem_cons_of_mem _ tw_374)) (fun _ h9 => h9) d_Ki_sources_12 ?_
      refine lv_iload_n hx hb d_Ki_sources_15 rfl (lv_at hl 0 rfl) ?_
      obtain ⟨c_3, h⟩ := ch_ite h
      refine va_ti hx hb hTK hS (ch_in c_3) rfl d_Ki_sources_16 ?_
      refine lv_goto (tgt := 21) hx hb d_Ki_sources_17 (by decide) ?_
      cases h
      exact ck_iret hx hb hr hlk hK hP hD hS d_Ki_sources_21
