def pf_St_sourceFile (p1 : Int32) : Option (Nat) :=
  if p1 < 0 ∨ 2 < p1 then
    some 0
  else
  if p1 = 0 then
    some 1
  else
  if p1 = 1 then
    some 2
  else
  if p1 = 2 then
    some 3
  else
    none
set_option maxHeartbeats 4000000 in
set_option maxRecDepth 100000 in
theorem k_St_sourceFile (l : Launch) (dC : Nat → ClassId) (dI : Nat → Nat → Nat) (cI cJ : ClassId) (p1 : Int32) (q_o : Nat) (q_o_memory : Nat) (q_o_temporaries : Nat) (q_o_ins : Nat) (q_o_outs : Nat) (q_o_uniforms : Nat) (q_o_textures : Nat) (q_o_nothing : Nat) (r : Nat) (h : pf_St_sourceFile p1 = some r) : ck_a l y_St_sourceFile wm_St_sourceFile ({ frames := 0, cells := 0, slots := 0, locals := 0 } : Room) [.ref q_o, .int p1] (dC, dI) [(cI, .int), (cJ, .long)] [(q_o, .inr (1, [.ref q_o_memory, .ref q_o_temporaries, .ref q_o_ins, .ref q_o_outs, .ref q_o_uniforms, .ref q_o_textures, .ref q_o_nothing]))] ([q_o_nothing, q_o_temporaries, q_o_ins, q_o_uniforms].getD r 0) [(q_o, .inr (1, [.ref q_o_memory, .ref q_o_temporaries, .ref q_o_ins, .ref q_o_outs, .ref q_o_uniforms, .ref q_o_textures, .ref q_o_nothing]))] := by
  refine ck_ofa (cc := c_St_sourceFile) (maxL := 2) (ret := (some (.object "ShaderMachine$Vectors"))) (by decide +kernel) rfl ?_
  intro p e s m below meth c A C0 hK hP hD hS hE
  obtain ⟨hx, hb, hr, hml, hown, hts, hlk, hA, hin⟩ := C0
  unfold pf_St_sourceFile at h
  have hl := lv_entry ([.ref q_o, .int p1]) (n := 2) (Nat.le_of_ble_eq_true rfl)
  rw [lg_entry_eq]
  generalize (lg_sl ([.ref q_o, .int p1]) ++ List.replicate (2 - (lg_sl ([.ref q_o, .int p1])).length) Slot.unset).toArray = ls at hl ⊢
  have hl : lv_has ls 2 [(0, .ref q_o), (1, .int p1)] := hl
  refine lv_iload_n hx hb d_St_sourceFile_0 rfl (lv_at hl 1 rfl) ?_
  by_cases c_1 : p1 < 0 ∨ 2 < p1
  · rw [if_pos c_1] at h
    refine lv_tableOut (tgt := 43) hx hb d_St_sourceFile_1 (ch_out c_1 (by decide) (by decide)) (by decide) ?_
    refine lv_aload_n hx hb d_St_sourceFile_43 rfl (lv_at hl 0 rfl) ?_
    refine va_get (D := (dC, dI)) (ci := 1) (v := .ref q_o_nothing) (C := R_St) (T := T_St) (N := 7) hx hb hts (iw_St _) hown hK hP 0 rfl rfl 6 (by decide) (hts (.fieldLink R_St 34 "ShaderMachine$Store" "nothing" "LShaderMachine$Vectors;") (List.mem_cons_of_mem _ tw_67)) (fun _ h9 => h9) rfl d_St_sourceFile_44 ?_
    cases h
    exact ck_aret hx hb hr (Or.inl ⟨_, rfl⟩) hlk hK hP hD hS d_St_sourceFile_47
  rw [if_neg c_1] at h
  by_cases c_2 : p1 = 0
  · rw [if_pos c_2] at h
    refine lv_tableIn (tgt := 28) hx hb d_St_sourceFile_1 (by rw [c_2]; decide) (by rw [c_2]; decide) (by rw [c_2]; rfl) (by decide) ?_
    refine lv_aload_n hx hb d_St_sourceFile_28 rfl (lv_at hl 0 rfl) ?_
    refine va_get (D := (dC, dI)) (ci := 1) (v := .ref q_o_temporaries) (C := R_St) (T := T_St) (N := 7) hx hb hts (iw_St _) hown hK hP 0 rfl rfl 1 (by decide) (hts (.fieldLink R_St 18 "ShaderMachine$Store" "temporaries" "LShaderMachine$Vectors;") (List.mem_cons_of_mem _ tw_53)) (fun _ h9 => h9) rfl d_St_sourceFile_29 ?_
    cases h
    exact ck_aret hx hb hr (Or.inl ⟨_, rfl⟩) hlk hK hP hD hS d_St_sourceFile_32
  rw [if_neg c_2] at h
  by_cases c_3 : p1 = 1
  · rw [if_pos c_3] at h
    refine lv_tableIn (tgt := 33) hx hb d_St_sourceFile_1 (by rw [c_3]; decide) (by rw [c_3]; decide) (by rw [c_3]; rfl) (by decide) ?_
    refine lv_aload_n hx hb d_St_sourceFile_33 rfl (lv_at hl 0 rfl) ?_
    refine va_get (D := (dC, dI)) (ci := 1) (v := .ref q_o_ins) (C := R_St) (T := T_St) (N := 7) hx hb hts (iw_St _) hown hK hP 0 rfl rfl 2 (by decide) (hts (.fieldLink R_St 22 "ShaderMachine$Store" "ins" "LShaderMachine$Vectors;") (List.mem_cons_of_mem _ tw_56)) (fun _ h9 => h9) rfl d_St_sourceFile_34 ?_
    cases h
    exact ck_aret hx hb hr (Or.inl ⟨_, rfl⟩) hlk hK hP hD hS d_St_sourceFile_37
  rw [if_neg c_3] at h
  by_cases c_4 : p1 = 2
  · rw [if_pos c_4] at h
    refine lv_tableIn (tgt := 38) hx hb d_St_sourceFile_1 (by rw [c_4]; decide) (by rw [c_4]; decide) (by rw [c_4]; rfl) (by decide) ?_
    refine lv_aload_n hx hb d_St_sourceFile_38 rfl (lv_at hl 0 rfl) ?_
    refine va_get (D := (dC, dI)) (ci := 1) (v := .ref q_o_uniforms) (C := R_St) (T := T_St) (N := 7) hx hb hts (iw_St _) hown hK hP 0 rfl rfl 4 (by decide) (hts (.fieldLink R_St 28 "ShaderMachine$Store" "uniforms" "LShaderMachine$Vectors;") (List.mem_cons_of_mem _ tw_61)) (fun _ h9 => h9) rfl d_St_sourceFile_39 ?_
    cases h
    exact ck_aret hx hb hr (Or.inl ⟨_, rfl⟩) hlk hK hP hD hS d_St_sourceFile_42
  rw [if_neg c_4] at h
  cases h
def pf_St_targetFile (p1 : Int32) : Option (Nat) :=
  if p1 = (1 : Int32) then
    some 1
  else
    some 0
set_option maxHeartbeats 4000000 in
set_option maxRecDepth 100000 in
theorem k_St_targetFile (l : Launch) (dC : Nat → ClassId) (dI : Nat → Nat → Nat) (cI cJ : ClassId) (p1 : Int32) (q_o : Nat) (q_o_memory : Nat) (q_o_temporaries : Nat) (q_o_ins : Nat) (q_o_outs : Nat) (q_o_uniforms : Nat) (q_o_textures : Nat) (q_o_nothing : Nat) (r : Nat) (h : pf_St_targetFile p1 = some r) : ck_a l y_St_targetFile wm_St_targetFile ({ frames := 0, cells := 0, slots := 0, locals := 0 } : Room) [.ref q_o, .int p1] (dC, dI) [(cI, .int), (cJ, .long)] [(q_o, .inr (1, [.ref q_o_memory, .ref q_o_temporaries, .ref q_o_ins, .ref q_o_outs, .ref q_o_uniforms, .ref q_o_textures, .ref q_o_nothing]))] ([q_o_temporaries, q_o_outs].getD r 0) [(q_o, .inr (1, [.ref q_o_memory, .ref q_o_temporaries, .ref q_o_ins, .ref q_o_outs, .ref q_o_uniforms, .ref q_o_textures, .ref q_o_nothing]))] := by
  refine ck_ofa (cc := c_St_targetFile) (maxL := 2) (ret := (some (.object "ShaderMachine$Vectors"))) (by decide +kernel) rfl ?_
  intro p e s m below meth c A C0 hK hP hD hS hE
  obtain ⟨hx, hb, hr, hml, hown, hts, hlk, hA, hin⟩ := C0
  unfold pf_St_targetFile at h
  have hl := lv_entry ([.ref q_o, .int p1]) (n := 2) (Nat.le_of_ble_eq_true rfl)
  rw [lg_entry_eq]
  generalize (lg_sl ([.ref q_o, .int p1]) ++ List.replicate (2 - (lg_sl ([.ref q_o, .int p1])).length) Slot.unset).toArray = ls at hl ⊢
  have hl : lv_has ls 2 [(0, .ref q_o), (1, .int p1)] := hl
  refine lv_iload_n hx hb d_St_targetFile_0 rfl (lv_at hl 1 rfl) ?_
  refine lv_iconst (v := 1) hx hb d_St_targetFile_1 (by decide) ?_
  refine lv_icmp_ne (tgt := 12) hx hb d_St_targetFile_2 (by decide) (fun c_1 => ?_) (fun c_1 => ?_)
  · rw [if_neg c_1] at h
    refine lv_aload_n hx hb d_St_targetFile_12 rfl (lv_at hl 0 rfl) ?_
    refine va_get (D := (dC, dI)) (ci := 1) (v := .ref q_o_temporaries) (C := R_St) (T := T_St) (N := 7) hx hb hts (iw_St _) hown hK hP 0 rfl rfl 1 (by decide) (hts (.fieldLink R_St 18 "ShaderMachine$Store" "temporaries" "LShaderMachine$Vectors;") (List.mem_cons_of_mem _ tw_53)) (fun _ h9 => h9) rfl d_St_targetFile_13 ?_
    cases h
    exact ck_aret hx hb hr (Or.inl ⟨_, rfl⟩) hlk hK hP hD hS d_St_targetFile_16
  · rw [if_pos c_1] at h
    refine lv_aload_n hx hb d_St_targetFile_5 rfl (lv_at hl 0 rfl) ?_
    refine va_get (D := (dC, dI)) (ci := 1) (v := .ref q_o_outs) (C := R_St) (T := T_St) (N := 7) hx hb hts (iw_St _) hown hK hP 0 rfl rfl 3 (by decide) (hts (.fieldLink R_St 25 "ShaderMachine$Store" "outs" "LShaderMachine$Vectors;") (List.mem_cons_of_mem _ tw_58)) (fun _ h9 => h9) rfl d_St_targetFile_6 ?_
    refine lv_goto (tgt := 16) hx hb d_St_targetFile_9 (by decide) ?_
    cases h
    exact ck_aret hx hb hr (Or.inl ⟨_, rfl⟩) hlk hK hP hD hS d_St_targetFile_16
def pf_Lo_clear : Option (Int32) :=
  some (0 : Int32)
set_option maxHeartbeats 4000000 in
set_option maxRecDepth 100000 in
theorem k_Lo_clear (l : Launch) (dC : Nat → ClassId) (dI : Nat → Nat → Nat) (cI cJ : ClassId) (o_depth : Int32) (q_o : Nat) (q_o_places : Nat) (q_o_counts : Nat) (o_o_depth : Int32) (h : pf_Lo_clear = some o_o_depth) : ck_v l y_Lo_clear wm_Lo_clear ({ frames := 0, cells := 0, slots := 0, locals := 0 } : Room) [.ref q_o] (dC, dI) [(cI, .int), (cJ, .long)] [(q_o, .inr (2, [.ref q_o_places, .ref q_o_counts, .int o_depth]))] [(q_o, .inr (2, [.ref q_o_places, .ref q_o_counts, .int o_o_depth]))] := by
  refine ck_ofv (cc := c_Lo_clear) (maxL := 1) (ret := none) (by decide +kernel) rfl ?_
  intro p e s m below meth c A C0 hK hP hD hS hE
  obtain ⟨hx, hb, hr, hml, hown, hts, hlk, hA, hin⟩ := C0
  unfold pf_Lo_clear at h
  have hl := lv_entry ([.ref q_o]) (n := 1) (Nat.le_of_ble_eq_true rfl)
  rw [lg_entry_eq]
  generalize (lg_sl ([.ref q_o]) ++ List.replicate (1 - (lg_sl ([.ref q_o])).length) Slot.unset).toArray = ls at hl ⊢
  have hl : lv_has ls 1 [(0, .ref q_o)] := hl
  refine lv_aload_n hx hb d_Lo_clear_0 rfl (lv_at hl 0 rfl) ?_
  refine lv_iconst (v := 0) hx hb d_Lo_clear_1 (by decide) ?_
  refine va_put (D := (dC, dI)) (ci := 2) (v := .int (0 : Int32)) (ty := .int) (C := R_Lo) (T := T_Lo) (N := 3) hx hb hts (iw_Lo _) ty_Lo tk_Lo nd_Lo hown hK hP hD hS 0 rfl rfl 2 (by decide) (hts (.fieldLink R_Lo 19 "ShaderMachine$Loops" "depth" "I") (List.mem_cons_of_mem _ tw_97)) (fun _ h9 => h9) rfl (by decide +kernel) rfl rfl (Nat.le_of_ble_eq_true rfl) d_Lo_clear_2 (fun H locs hP hD hS => ?_)
  have hP : va_P (dC, dI) vwCl [(q_o, .inr (2, [.ref q_o_places, .ref q_o_counts, .int (0 : Int32)]))] H := hP
  have hD : va_D A [(q_o, .inr (2, [.ref q_o_places, .ref q_o_counts, .int (0 : Int32)]))] := hD
  cases h
  exact ck_vret hx hb hr hlk hK hP hD hS d_Lo_clear_5
def pf_Lo_isEmpty (o_depth : Int32) : Option (Int32) :=
  if o_depth = 0 then
    some (1 : Int32)
  else
    some (0 : Int32)
set_option maxHeartbeats 4000000 in
set_option maxRecDepth 100000 in
theorem k_Lo_isEmpty (l : Launch) (dC : Nat → ClassId) (dI : Nat → Nat → Nat) (cI cJ : ClassId) (o_depth : Int32) (q_o : Nat) (q_o_places : Nat) (q_o_counts : Nat) (r : Int32) (h : pf_Lo_isEmpty o_depth = some r) : ck_i l y_Lo_isEmpty wm_Lo_isEmpty ({ frames := 0, cells := 0, slots := 0, locals := 0 } : Room) [.ref q_o] (dC, dI) [(cI, .int), (cJ, .long)] [(q_o, .inr (2, [.ref q_o_places, .ref q_o_counts, .int o_depth]))] r [(q_o, .inr (2, [.ref q_o_places, .ref q_o_counts, .int o_depth]))] := by
  refine ck_ofi (cc := c_Lo_isEmpty) (maxL := 1) (ret := (some .boolean)) (by decide +kernel) rfl ?_
  intro p e s m below meth c A C0 hK hP hD hS hE
  obtain ⟨hx, hb, hr, hml, hown, hts, hlk, hA, hin⟩ := C0
  unfold pf_Lo_isEmpty at h
  have hl := lv_entry ([.ref q_o]) (n := 1) (Nat.le_of_ble_eq_true rfl)
  rw [lg_entry_eq]
  generalize (lg_sl ([.ref q_o]) ++ List.replicate (1 - (lg_sl ([.ref q_o])).length) Slot.unset).toArray = ls at hl ⊢
  have hl : lv_has ls 1 [(0, .ref q_o)] := hl
  refine lv_aload_n hx hb d_Lo_isEmpty_0 rfl (lv_at hl 0 rfl) ?_
  refine va_get (D := (dC, dI)) (ci := 2) (v := .int o_depth) (C := R_Lo) (T := T_Lo) (N := 3) hx hb hts (iw_Lo _) hown hK hP 0 rfl rfl 2 (by decide) (hts (.fieldLink R_Lo 19 "ShaderMachine$Loops" "depth" "I") (List.mem_cons_of_mem _ tw_97)) (fun _ h9 => h9) rfl d_Lo_isEmpty_1 ?_
  refine lv_if_ne (tgt := 11) hx hb d_Lo_isEmpty_4 (by decide) (fun c_1 => ?_) (fun c_1 => ?_)
  · rw [if_neg c_1] at h
    refine lv_iconst (v := 0) hx hb d_Lo_isEmpty_11 (by decide) ?_
    cases h
    exact ck_zret hx hb hr rfl hlk hK hP hD hS d_Lo_isEmpty_12
  · rw [if_pos c_1] at h
    refine lv_iconst (v := 1) hx hb d_Lo_isEmpty_7 (by decide) ?_
    refine lv_goto (tgt := 12) hx hb d_Lo_isEmpty_8 (by decide) ?_
    cases h
    exact ck_zret hx hb hr rfl hlk hK hP hD hS d_Lo_isEmpty_12
def pf_Lo_isFull (o_depth : Int32) : Option (Int32) :=
  if o_depth = (4 : Int32) then
    some (1 : Int32)
  else
    some (0 : Int32)
set_option maxHeartbeats 4000000 in
set_option maxRecDepth 100000 in
theorem k_Lo_isFull (l : Launch) (dC : Nat → ClassId) (dI : Nat → Nat → Nat) (cI cJ : ClassId) (o_depth : Int32) (q_o : Nat) (q_o_places : Nat) (q_o_counts : Nat) (r : Int32) (h : pf_Lo_isFull o_depth = some r) : ck_i l y_Lo_isFull wm_Lo_isFull ({ frames := 0, cells := 0, slots := 0, locals := 0 } : Room) [.ref q_o] (dC, dI) [(cI, .int), (cJ, .long)] [(q_o, .inr (2, [.ref q_o_places, .ref q_o_counts, .int o_depth]))] r [(q_o, .inr (2, [.ref q_o_places, .ref q_o_counts, .int o_depth]))] := by
  refine ck_ofi (cc := c_Lo_isFull) (maxL := 1) (ret := (some .boolean)) (by decide +kernel) rfl ?_
  intro p e s m below meth c A C0 hK hP hD hS hE
  obtain ⟨hx, hb, hr, hml, hown, hts, hlk, hA, hin⟩ := C0
  unfold pf_Lo_isFull at h
  have hl := lv_entry ([.ref q_o]) (n := 1) (Nat.le_of_ble_eq_true rfl)
  rw [lg_entry_eq]
  generalize (lg_sl ([.ref q_o]) ++ List.replicate (1 - (lg_sl ([.ref q_o])).length) Slot.unset).toArray = ls at hl ⊢
  have hl : lv_has ls 1 [(0, .ref q_o)] := hl
  refine lv_aload_n hx hb d_Lo_isFull_0 rfl (lv_at hl 0 rfl) ?_
  refine va_get (D := (dC, dI)) (ci := 2) (v := .int o_depth) (C := R_Lo) (T := T_Lo) (N := 3) hx hb hts (iw_Lo _) hown hK hP 0 rfl rfl 2 (by decide) (hts (.fieldLink R_Lo 19 "ShaderMachine$Loops" "depth" "I") (List.mem_cons_of_mem _ tw_97)) (fun _ h9 => h9) rfl d_Lo_isFull_1 ?_
  refine lv_iconst (v := 4) hx hb d_Lo_isFull_4 (by decide) ?_
  refine lv_icmp_ne (tgt := 12) hx hb d_Lo_isFull_5 (by decide) (fun c_1 => ?_) (fun c_1 => ?_)
  · rw [if_neg c_1] at h
    refine lv_iconst (v := 0) hx hb d_Lo_isFull_12 (by decide) ?_
    cases h
    exact ck_zret hx hb hr rfl hlk hK hP hD hS d_Lo_isFull_13
  · rw [if_pos c_1] at h
    refine lv_iconst (v := 1) hx hb d_Lo_isFull_8 (by decide) ?_
    refine lv_goto (tgt := 13) hx hb d_Lo_isFull_9 (by decide) ?_
    cases h
    exact ck_zret hx hb hr rfl hlk hK hP hD hS d_Lo_isFull_13
def pf_Lo_open (p1 : Int32) (p2 : Int64) (o_depth : Int32) (n_o_places : Nat) (f_o_places : Nat → Int32) (n_o_counts : Nat) (f_o_counts : Nat → Int64) : Option (Int32 × (Nat → Int32) × (Nat → Int64)) :=
  if o_depth < 0 then
    some (o_depth, f_o_places, f_o_counts)
  else
    if (4 : Int32) ≤ o_depth then
      some (o_depth, f_o_places, f_o_counts)
    else
      if (0 : Int32) ≤ o_depth ∧ o_depth.toNatClampNeg < n_o_places then (
      if (0 : Int32) ≤ o_depth ∧ o_depth.toNatClampNeg < n_o_counts then (
      some ((o_depth + (1 : Int32)), (upd f_o_places o_depth.toNatClampNeg p1), (vp_updL f_o_counts o_depth.toNatClampNeg p2))) else none) else none
set_option maxHeartbeats 4000000 in
set_option maxRecDepth 100000 in
theorem k_Lo_open (l : Launch) (dC : Nat → ClassId) (dI : Nat → Nat → Nat) (cI cJ : ClassId) (p1 : Int32) (p2 : Int64) (o_depth : Int32) (n_o_places : Nat) (f_o_places : Nat → Int32) (n_o_counts : Nat) (f_o_counts : Nat → Int64) (q_o : Nat) (q_o_places : Nat) (q_o_counts : Nat) (o_o_depth : Int32) (o_f_o_places : Nat → Int32) (o_f_o_counts : Nat → Int64) (h : pf_Lo_open p1 p2 o_depth n_o_places f_o_places n_o_counts f_o_counts = some (o_o_depth, o_f_o_places, o_f_o_counts)) : ck_v l y_Lo_open wm_Lo_open ({ frames := 0, cells := 0, slots := 0, locals := 0 } : Room) [.ref q_o, .int p1, .long p2] (dC, dI) [(cI, .int), (cJ, .long)] [(q_o, .inr (2, [.ref q_o_places, .ref q_o_counts, .int o_depth])), (q_o_places, .inl (cI, n_o_places, .inl f_o_places)), (q_o_counts, .inl (cJ, n_o_counts, .inr (.inl f_o_counts)))] [(q_o, .inr (2, [.ref q_o_places, .ref q_o_counts, .int o_o_depth])), (q_o_places, .inl (cI, n_o_places, .inl o_f_o_places)), (q_o_counts, .inl (cJ, n_o_counts, .inr (.inl o_f_o_counts)))] := by
  refine ck_ofv (cc := c_Lo_open) (maxL := 4) (ret := none) (by decide +kernel) rfl ?_
  intro p e s m below meth c A C0 hK hP hD hS hE
  obtain ⟨hx, hb, hr, hml, hown, hts, hlk, hA, hin⟩ := C0
  unfold pf_Lo_open at h
  have hl := lv_entry ([.ref q_o, .int p1, .long p2]) (n := 4) (Nat.le_of_ble_eq_true rfl)
  rw [lg_entry_eq]
  generalize (lg_sl ([.ref q_o, .int p1, .long p2]) ++ List.replicate (4 - (lg_sl ([.ref q_o, .int p1, .long p2])).length) Slot.unset).toArray = ls at hl ⊢
  have hl : lv_has ls 4 [(0, .ref q_o), (1, .int p1), (2, .long p2)] := hl
  refine lv_aload_n hx hb d_Lo_open_0 rfl (lv_at hl 0 rfl) ?_
  refine va_get (D := (dC, dI)) (ci := 2) (v := .int o_depth) (C := R_Lo) (T := T_Lo) (N := 3) hx hb hts (iw_Lo _) hown hK hP 0 rfl rfl 2 (by decide) (hts (.fieldLink R_Lo 19 "ShaderMachine$Loops" "depth" "I") (List.mem_cons_of_mem _ tw_97)) (fun _ h9 => h9) rfl d_Lo_open_1 ?_
  refine lv_if_lt (tgt := 45) hx hb d_Lo_open_4 (by decide) (fun c_1 => ?_) (fun c_1 => ?_)
  · rw [if_pos c_1] at h
    cases h
    exact ck_vret hx hb hr hlk hK hP hD hS d_Lo_open_45
  · rw [if_neg c_1] at h
    refine lv_aload_n hx hb d_Lo_open_7 rfl (lv_at hl 0 rfl) ?_
    refine va_get (D := (dC, dI)) (ci := 2) (v := .int o_depth) (C := R_Lo) (T := T_Lo) (N := 3) hx hb hts (iw_Lo _) hown hK hP 0 rfl rfl 2 (by decide) (hts (.fieldLink R_Lo 19 "ShaderMachine$Loops" "depth" "I") (List.mem_cons_of_mem _ tw_97)) (fun _ h9 => h9) rfl d_Lo_open_8 ?_
    refine lv_iconst (v := 4) hx hb d_Lo_open_11 (by decide) ?_
    refine lv_icmp_ge (tgt := 45) hx hb d_Lo_open_12 (by decide) (fun c_2 => ?_) (fun c_2 => ?_)
    · rw [if_pos c_2] at h
      cases h
      exact ck_vret hx hb hr hlk hK hP hD hS d_Lo_open_45
    · rw [if_neg c_2] at h
      refine lv_aload_n hx hb d_Lo_open_15 rfl (lv_at hl 0 rfl) ?_
      refine va_get (D := (dC, dI)) (ci := 2) (v := .ref q_o_places) (C := R_Lo) (T := T_Lo) (N := 3) hx hb hts (iw_Lo _) hown hK hP 0 rfl rfl 0 (by decide) (hts (.fieldLink R_Lo 11 "ShaderMachine$Loops" "places" "[I") (List.mem_cons_of_mem _ tw_95)) (fun _ h9 => h9) rfl d_Lo_open_16 ?_
      refine lv_aload_n hx hb d_Lo_open_19 rfl (lv_at hl 0 rfl) ?_
      refine va_get (D := (dC, dI)) (ci := 2) (v := .int o_depth) (C := R_Lo) (T := T_Lo) (N := 3) hx hb hts (iw_Lo _) hown hK hP 0 rfl rfl 2 (by decide) (hts (.fieldLink R_Lo 19 "ShaderMachine$Loops" "depth" "I") (List.mem_cons_of_mem _ tw_97)) (fun _ h9 => h9) rfl d_Lo_open_20 ?_
      refine lv_iload_n hx hb d_Lo_open_23 rfl (lv_at hl 1 rfl) ?_
      obtain ⟨c_3, h⟩ := ch_ite h
      refine va_iast hx hb hK hP hD hS 1 0 rfl rfl (ch_in c_3) d_Lo_open_24 (fun H locs hP hD hS => ?_)
      have hP : va_P (dC, dI) vwCl [(q_o, .inr (2, [.ref q_o_places, .ref q_o_counts, .int o_depth])), (q_o_places, .inl (cI, n_o_places, .inl (upd f_o_places o_depth.toNatClampNeg p1))), (q_o_counts, .inl (cJ, n_o_counts, .inr (.inl f_o_counts)))] H := hP
      have hD : va_D A [(q_o, .inr (2, [.ref q_o_places, .ref q_o_counts, .int o_depth])), (q_o_places, .inl (cI, n_o_places, .inl (upd f_o_places o_depth.toNatClampNeg p1))), (q_o_counts, .inl (cJ, n_o_counts, .inr (.inl f_o_counts)))] := hD
      refine lv_aload_n hx hb d_Lo_open_25 rfl (lv_at hl 0 rfl) ?_
      refine va_get (D := (dC, dI)) (ci := 2) (v := .ref q_o_counts) (C := R_Lo) (T := T_Lo) (N := 3) hx hb hts (iw_Lo _) hown hK hP 0 rfl rfl 1 (by decide) (hts (.fieldLink R_Lo 15 "ShaderMachine$Loops" "counts" "[J") (List.mem_cons_of_mem _ tw_96)) (fun _ h9 => h9) rfl d_Lo_open_26 ?_
      refine lv_aload_n hx hb d_Lo_open_29 rfl (lv_at hl 0 rfl) ?_
      refine va_get (D := (dC, dI)) (ci := 2) (v := .int o_depth) (C := R_Lo) (T := T_Lo) (N := 3) hx hb hts (iw_Lo _) hown hK hP 0 rfl rfl 2 (by decide) (hts (.fieldLink R_Lo 19 "ShaderMachine$Loops" "depth" "I") (List.mem_cons_of_mem _ tw_97)) (fun _ h9 => h9) rfl d_Lo_open_30 ?_
      refine lv_lload_n hx hb d_Lo_open_33 rfl (lv_at hl 2 rfl) ?_
      obtain ⟨c_4, h⟩ := ch_ite h
      refine va_last hx hb hK hP hD hS 2 1 rfl rfl (ch_in c_4) d_Lo_open_34 (fun H locs hP hD hS => ?_)
      have hP : va_P (dC, dI) vwCl [(q_o, .inr (2, [.ref q_o_places, .ref q_o_counts, .int o_depth])), (q_o_places, .inl (cI, n_o_places, .inl (upd f_o_places o_depth.toNatClampNeg p1))), (q_o_counts, .inl (cJ, n_o_counts, .inr (.inl (vp_updL f_o_counts o_depth.toNatClampNeg p2))))] H := hP
      have hD : va_D A [(q_o, .inr (2, [.ref q_o_places, .ref q_o_counts, .int o_depth])), (q_o_places, .inl (cI, n_o_places, .inl (upd f_o_places o_depth.toNatClampNeg p1))), (q_o_counts, .inl (cJ, n_o_counts, .inr (.inl (vp_updL f_o_counts o_depth.toNatClampNeg p2))))] := hD
      refine lv_aload_n hx hb d_Lo_open_35 rfl (lv_at hl 0 rfl) ?_
      refine lv_dup hx hb d_Lo_open_36 rfl ?_
      refine va_get (D := (dC, dI)) (ci := 2) (v := .int o_depth) (C := R_Lo) (T := T_Lo) (N := 3) hx hb hts (iw_Lo _) hown hK hP 0 rfl rfl 2 (by decide) (hts (.fieldLink R_Lo 19 "ShaderMachine$Loops" "depth" "I") (List.mem_cons_of_mem _ tw_97)) (fun _ h9 => h9) rfl d_Lo_open_37 ?_
      refine lv_iconst (v := 1) hx hb d_Lo_open_40 (by decide) ?_
      refine lv_iadd hx hb d_Lo_open_41 ?_
      refine va_put (D := (dC, dI)) (ci := 2) (v := .int (o_depth + (1 : Int32))) (ty := .int) (C := R_Lo) (T := T_Lo) (N := 3) hx hb hts (iw_Lo _) ty_Lo tk_Lo nd_Lo hown hK hP hD hS 0 rfl rfl 2 (by decide) (hts (.fieldLink R_Lo 19 "ShaderMachine$Loops" "depth" "I") (List.mem_cons_of_mem _ tw_97)) (fun _ h9 => h9) rfl (by decide +kernel) rfl rfl (Nat.le_of_ble_eq_true rfl) d_Lo_open_42 (fun H locs hP hD hS => ?_)
      have hP : va_P (dC, dI) vwCl [(q_o, .inr (2, [.ref q_o_places, .ref q_o_counts, .int (o_depth + (1 : Int32))])), (q_o_places, .inl (cI, n_o_places, .inl (upd f_o_places o_depth.toNatClampNeg p1))), (q_o_counts, .inl (cJ, n_o_counts, .inr (.inl (vp_updL f_o_counts o_depth.toNatClampNeg p2))))] H := hP
      have hD : va_D A [(q_o, .inr (2, [.ref q_o_places, .ref q_o_counts, .int (o_depth + (1 : Int32))])), (q_o_places, .inl (cI, n_o_places, .inl (upd f_o_places o_depth.toNatClampNeg p1))), (q_o_counts, .inl (cJ, n_o_counts, .inr (.inl (vp_updL f_o_counts o_depth.toNatClampNeg p2))))] := hD
      cases h
      exact ck_vret hx hb hr hlk hK hP hD hS d_Lo_open_45
def pf_Lo_close (o_depth : Int32) : Option (Int32) :=
  if o_depth ≤ 0 then
    some o_depth
  else
    some (o_depth - (1 : Int32))
set_option maxHeartbeats 4000000 in
set_option maxRecDepth 100000 in
theorem k_Lo_close (l : Launch) (dC : Nat → ClassId) (dI : Nat → Nat → Nat) (cI cJ : ClassId) (o_depth : Int32) (q_o : Nat) (q_o_places : Nat) (q_o_counts : Nat) (o_o_depth : Int32) (h : pf_Lo_close o_depth = some o_o_depth) : ck_v l y_Lo_close wm_Lo_close ({ frames := 0, cells := 0, slots := 0, locals := 0 } : Room) [.ref q_o] (dC, dI) [(cI, .int), (cJ, .long)] [(q_o, .inr (2, [.ref q_o_places, .ref q_o_counts, .int o_depth]))] [(q_o, .inr (2, [.ref q_o_places, .ref q_o_counts, .int o_o_depth]))] := by
  refine ck_ofv (cc := c_Lo_close) (maxL := 1) (ret := none) (by decide +kernel) rfl ?_
  intro p e s m below meth c A C0 hK hP hD hS hE
  obtain ⟨hx, hb, hr, hml, hown, hts, hlk, hA, hin⟩ := C0
  unfold pf_Lo_close at h
  have hl := lv_entry ([.ref q_o]) (n := 1) (Nat.le_of_ble_eq_true rfl)
  rw [lg_entry_eq]
  generalize (lg_sl ([.ref q_o]) ++ List.replicate (1 - (lg_sl ([.ref q_o])).length) Slot.unset).toArray = ls at hl ⊢
  have hl : lv_has ls 1 [(0, .ref q_o)] := hl
  refine lv_aload_n hx hb d_Lo_close_0 rfl (lv_at hl 0 rfl) ?_
  refine va_get (D := (dC, dI)) (ci := 2) (v := .int o_depth) (C := R_Lo) (T := T_Lo) (N := 3) hx hb hts (iw_Lo _) hown hK hP 0 rfl rfl 2 (by decide) (hts (.fieldLink R_Lo 19 "ShaderMachine$Loops" "depth" "I") (List.mem_cons_of_mem _ tw_97)) (fun _ h9 => h9) rfl d_Lo_close_1 ?_
  refine lv_if_le (tgt := 17) hx hb d_Lo_close_4 (by decide) (fun c_1 => ?_) (fun c_1 => ?_)
  · rw [if_pos c_1] at h
    cases h
    exact ck_vret hx hb hr hlk hK hP hD hS d_Lo_close_17
  · rw [if_neg c_1] at h
    refine lv_aload_n hx hb d_Lo_close_7 rfl (lv_at hl 0 rfl) ?_
    refine lv_dup hx hb d_Lo_close_8 rfl ?_
    refine va_get (D := (dC, dI)) (ci := 2) (v := .int o_depth) (C := R_Lo) (T := T_Lo) (N := 3) hx hb hts (iw_Lo _) hown hK hP 0 rfl rfl 2 (by decide) (hts (.fieldLink R_Lo 19 "ShaderMachine$Loops" "depth" "I") (List.mem_cons_of_mem _ tw_97)) (fun _ h9 => h9) rfl d_Lo_close_9 ?_
    refine lv_iconst (v := 1) hx hb d_Lo_close_12 (by decide) ?_
    refine lv_isub hx hb d_Lo_close_13 ?_
    refine va_put (D := (dC, dI)) (ci := 2) (v := .int (o_depth - (1 : Int32))) (ty := .int) (C := R_Lo) (T := T_Lo) (N := 3) hx hb hts (iw_Lo _) ty_Lo tk_Lo nd_Lo hown hK hP hD hS 0 rfl rfl 2 (by decide) (hts (.fieldLink R_Lo 19 "ShaderMachine$Loops" "depth" "I") (List.mem_cons_of_mem _ tw_97)) (fun _ h9 => h9) rfl (by decide +kernel) rfl rfl (Nat.le_of_ble_eq_true rfl) d_Lo_close_14 (fun H locs hP hD hS => ?_)
    have hP : va_P (dC, dI) vwCl [(q_o, .inr (2, [.ref q_o_places, .ref q_o_counts, .int (o_depth - (1 : Int32))]))] H := hP
    have hD : va_D A [(q_o, .inr (2, [.ref q_o_places, .ref q_o_counts, .int (o_depth - (1 : Int32))]))] := hD
    cases h
    exact ck_vret hx hb hr hlk hK hP hD hS d_Lo_close_17
def pf_Lo_innermost (o_depth : Int32) (n_o_places : Nat) (f_o_places : Nat → Int32) : Option (Int32) :=
  if o_depth ≤ 0 then
    some (-1 : Int32)
  else
    if (4 : Int32) < o_depth then
      some (-1 : Int32)
    else
      if (0 : Int32) ≤ (o_depth - (1 : Int32)) ∧ (o_depth - (1 : Int32)).toNatClampNeg < n_o_places then (
      some (f_o_places (o_depth - (1 : Int32)).toNatClampNeg)) else none
set_option maxHeartbeats 4000000 in
set_option maxRecDepth 100000 in
theorem k_Lo_innermost (l : Launch) (dC : Nat → ClassId) (dI : Nat → Nat → Nat) (cI cJ : ClassId) (o_depth : Int32) (n_o_places : Nat) (f_o_places : Nat → Int32) (q_o : Nat) (q_o_places : Nat) (q_o_counts : Nat) (r : Int32) (h : pf_Lo_innermost o_depth n_o_places f_o_places = some r) : ck_i l y_Lo_innermost wm_Lo_innermost ({ frames := 0, cells := 0, slots := 0, locals := 0 } : Room) [.ref q_o] (dC, dI) [(cI, .int), (cJ, .long)] [(q_o, .inr (2, [.ref q_o_places, .ref q_o_counts, .int o_depth])), (q_o_places, .inl (cI, n_o_places, .inl f_o_places))] r [(q_o, .inr (2, [.ref q_o_places, .ref q_o_counts, .int o_depth])), (q_o_places, .inl (cI, n_o_places, .inl f_o_places))] := by
  refine ck_ofi (cc := c_Lo_innermost) (maxL := 1) (ret := (some .int)) (by decide +kernel) rfl ?_
  intro p e s m below meth c A C0 hK hP hD hS hE
  obtain ⟨hx, hb, hr, hml, hown, hts, hlk, hA, hin⟩ := C0
  unfold pf_Lo_innermost at h
  have hl := lv_entry ([.ref q_o]) (n := 1) (Nat.le_of_ble_eq_true rfl)
  rw [lg_entry_eq]
  generalize (lg_sl ([.ref q_o]) ++ List.replicate (1 - (lg_sl ([.ref q_o])).length) Slot.unset).toArray = ls at hl ⊢
  have hl : lv_has ls 1 [(0, .ref q_o)] := hl
  refine lv_aload_n hx hb d_Lo_innermost_0 rfl (lv_at hl 0 rfl) ?_
  refine va_get (D := (dC, dI)) (ci := 2) (v := .int o_depth) (C := R_Lo) (T := T_Lo) (N := 3) hx hb hts (iw_Lo _) hown hK hP 0 rfl rfl 2 (by decide) (hts (.fieldLink R_Lo 19 "ShaderMachine$Loops" "depth" "I") (List.mem_cons_of_mem _ tw_97)) (fun _ h9 => h9) rfl d_Lo_innermost_1 ?_
  refine lv_if_le (tgt := 29) hx hb d_Lo_innermost_4 (by decide) (fun c_1 => ?_) (fun c_1 => ?_)
  · rw [if_pos c_1] at h
    refine lv_iconst (v := -1) hx hb d_Lo_innermost_29 (by decide) ?_
    cases h
    exact ck_iret hx hb hr hlk hK hP hD hS d_Lo_innermost_30
  · rw [if_neg c_1] at h
    refine lv_aload_n hx hb d_Lo_innermost_7 rfl (lv_at hl 0 rfl) ?_
    refine va_get (D := (dC, dI)) (ci := 2) (v := .int o_depth) (C := R_Lo) (T := T_Lo) (N := 3) hx hb hts (iw_Lo _) hown hK hP 0 rfl rfl 2 (by decide) (hts (.fieldLink R_Lo 19 "ShaderMachine$Loops" "depth" "I") (List.mem_cons_of_mem _ tw_97)) (fun _ h9 => h9) rfl d_Lo_innermost_8 ?_
    refine lv_iconst (v := 4) hx hb d_Lo_innermost_11 (by decide) ?_
    refine lv_icmp_gt (tgt := 29) hx hb d_Lo_innermost_12 (by decide) (fun c_2 => ?_) (fun c_2 => ?_)
    · rw [if_pos c_2] at h
      refine lv_iconst (v := -1) hx hb d_Lo_innermost_29 (by decide) ?_
      cases h
      exact ck_iret hx hb hr hlk hK hP hD hS d_Lo_innermost_30
    · rw [if_neg c_2] at h
      refine lv_aload_n hx hb d_Lo_innermost_15 rfl (lv_at hl 0 rfl) ?_
      refine va_get (D := (dC, dI)) (ci := 2) (v := .ref q_o_places) (C := R_Lo) (T := T_Lo) (N := 3) hx hb hts (iw_Lo _) hown hK hP 0 rfl rfl 0 (by decide) (hts (.fieldLink R_Lo 11 "ShaderMachine$Loops" "places" "[I") (List.mem_cons_of_mem _ tw_95)) (fun _ h9 => h9) rfl d_Lo_innermost_16 ?_
      refine lv_aload_n hx hb d_Lo_innermost_19 rfl (lv_at hl 0 rfl) ?_
      refine va_get (D := (dC, dI)) (ci := 2) (v := .int o_depth) (C := R_Lo) (T := T_Lo) (N := 3) hx hb hts (iw_Lo _) hown hK hP 0 rfl rfl 2 (by decide) (hts (.fieldLink R_Lo 19 "ShaderMachine$Loops" "depth" "I") (List.mem_cons_of_mem _ tw_97)) (fun _ h9 => h9) rfl d_Lo_innermost_20 ?_
      refine lv_iconst (v := 1) hx hb d_Lo_innermost_23 (by decide) ?_
      refine lv_isub hx hb d_Lo_innermost_24 ?_
      obtain ⟨c_3, h⟩ := ch_ite h
      refine va_iald hx hb hK hP 1 0 rfl rfl (ch_in c_3) d_Lo_innermost_25 ?_
      refine lv_goto (tgt := 30) hx hb d_Lo_innermost_26 (by decide) ?_
      cases h
      exact ck_iret hx hb hr hlk hK hP hD hS d_Lo_innermost_30
def pf_Lo_count (o_depth : Int32) (n_o_counts : Nat) (f_o_counts : Nat → Int64) : Option (Int64) :=
  if o_depth ≤ 0 then
    some (1 : Int64)
  else
    if (4 : Int32) < o_depth then
      some (1 : Int64)
    else
      if (0 : Int32) ≤ (o_depth - (1 : Int32)) ∧ (o_depth - (1 : Int32)).toNatClampNeg < n_o_counts then (
      some (f_o_counts (o_depth - (1 : Int32)).toNatClampNeg)) else none
set_option maxHeartbeats 4000000 in
set_option maxRecDepth 100000 in
theorem k_Lo_count (l : Launch) (dC : Nat → ClassId) (dI : Nat → Nat → Nat) (cI cJ : ClassId) (o_depth : Int32) (n_o_counts : Nat) (f_o_counts : Nat → Int64) (q_o : Nat) (q_o_places : Nat) (q_o_counts : Nat) (r : Int64) (h : pf_Lo_count o_depth n_o_counts f_o_counts = some r) : ck_l l y_Lo_count wm_Lo_count ({ frames := 0, cells := 0, slots := 0, locals := 0 } : Room) [.ref q_o] (dC, dI) [(cI, .int), (cJ, .long)] [(q_o, .inr (2, [.ref q_o_places, .ref q_o_counts, .int o_depth])), (q_o_counts, .inl (cJ, n_o_counts, .inr (.inl f_o_counts)))] r [(q_o, .inr (2, [.ref q_o_places, .ref q_o_counts, .int o_depth])), (q_o_counts, .inl (cJ, n_o_counts, .inr (.inl f_o_counts)))] := by
  refine ck_ofl (cc := c_Lo_count) (maxL := 1) (ret := (some .long)) (by decide +kernel) rfl ?_
  intro p e s m below meth c A C0 hK hP hD hS hE
  obtain ⟨hx, hb, hr, hml, hown, hts, hlk, hA, hin⟩ := C0
  unfold pf_Lo_count at h
  have hl := lv_entry ([.ref q_o]) (n := 1) (Nat.le_of_ble_eq_true rfl)
  rw [lg_entry_eq]
  generalize (lg_sl ([.ref q_o]) ++ List.replicate (1 - (lg_sl ([.ref q_o])).length) Slot.unset).toArray = ls at hl ⊢
  have hl : lv_has ls 1 [(0, .ref q_o)] := hl
  refine lv_aload_n hx hb d_Lo_count_0 rfl (lv_at hl 0 rfl) ?_
  refine va_get (D := (dC, dI)) (ci := 2) (v := .int o_depth) (C := R_Lo) (T := T_Lo) (N := 3) hx hb hts (iw_Lo _) hown hK hP 0 rfl rfl 2 (by decide) (hts (.fieldLink R_Lo 19 "ShaderMachine$Loops" "depth" "I") (List.mem_cons_of_mem _ tw_97)) (fun _ h9 => h9) rfl d_Lo_count_1 ?_
  refine lv_if_le (tgt := 29) hx hb d_Lo_count_4 (by decide) (fun c_1 => ?_) (fun c_1 => ?_)
  · rw [if_pos c_1] at h
    refine lv_lconst (v := 1) hx hb d_Lo_count_29 (by decide) ?_
    cases h
    exact ck_lret hx hb hr hlk hK hP hD hS d_Lo_count_30
  · rw [if_neg c_1] at h
    refine lv_aload_n hx hb d_Lo_count_7 rfl (lv_at hl 0 rfl) ?_
    refine va_get (D := (dC, dI)) (ci := 2) (v := .int o_depth) (C := R_Lo) (T := T_Lo) (N := 3) hx hb hts (iw_Lo _) hown hK hP 0 rfl rfl 2 (by decide) (hts (.fieldLink R_Lo 19 "ShaderMachine$Loops" "depth" "I") (List.mem_cons_of_mem _ tw_97)) (fun _ h9 => h9) rfl d_Lo_count_8 ?_
    refine lv_iconst (v := 4) hx hb d_Lo_count_11 (by decide) ?_
    refine lv_icmp_gt (tgt := 29) hx hb d_Lo_count_12 (by decide) (fun c_2 => ?_) (fun c_2 => ?_)
    · rw [if_pos c_2] at h
      refine lv_lconst (v := 1) hx hb d_Lo_count_29 (by decide) ?_
      cases h
      exact ck_lret hx hb hr hlk hK hP hD hS d_Lo_count_30
    · rw [if_neg c_2] at h
      refine lv_aload_n hx hb d_Lo_count_15 rfl (lv_at hl 0 rfl) ?_
      refine va_get (D := (dC, dI)) (ci := 2) (v := .ref q_o_counts) (C := R_Lo) (T := T_Lo) (N := 3) hx hb hts (iw_Lo _) hown hK hP 0 rfl rfl 1 (by decide) (hts (.fieldLink R_Lo 15 "ShaderMachine$Loops" "counts" "[J") (List.mem_cons_of_mem _ tw_96)) (fun _ h9 => h9) rfl d_Lo_count_16 ?_
      refine lv_aload_n hx hb d_Lo_count_19 rfl (lv_at hl 0 rfl) ?_
      refine va_get (D := (dC, dI)) (ci := 2) (v := .int o_depth) (C := R_Lo) (T := T_Lo) (N := 3) hx hb hts (iw_Lo _) hown hK hP 0 rfl rfl 2 (by decide) (hts (.fieldLink R_Lo 19 "ShaderMachine$Loops" "depth" "I") (List.mem_cons_of_mem _ tw_97)) (fun _ h9 => h9) rfl d_Lo_count_20 ?_
      refine lv_iconst (v := 1) hx hb d_Lo_count_23 (by decide) ?_
      refine lv_isub hx hb d_Lo_count_24 ?_
      obtain ⟨c_3, h⟩ := ch_ite h
      refine va_lald hx hb hK hP 1 1 rfl rfl (ch_in c_3) d_Lo_count_25 ?_
      refine lv_goto (tgt := 30) hx hb d_Lo_count_26 (by decide) ?_
      cases h
      exact ck_lret hx hb hr hlk hK hP hD hS d_Lo_count_30
def pf_Lo_setCount (p1 : Int64) (o_depth : Int32) (n_o_counts : Nat) (f_o_counts : Nat → Int64) : Option ((Nat → Int64)) :=
  if o_depth ≤ 0 then
    some f_o_counts
  else
    if (4 : Int32) < o_depth then
      some f_o_counts
    else
      if (0 : Int32) ≤ (o_depth - (1 : Int32)) ∧ (o_depth - (1 : Int32)).toNatClampNeg < n_o_counts then (
      some (vp_updL f_o_counts (o_depth - (1 : Int32)).toNatClampNeg p1)) else none
set_option maxHeartbeats 4000000 in
set_option maxRecDepth 100000 in
theorem k_Lo_setCount (l : Launch) (dC : Nat → ClassId) (dI : Nat → Nat → Nat) (cI cJ : ClassId) (p1 : Int64) (o_depth : Int32) (n_o_counts : Nat) (f_o_counts : Nat → Int64) (q_o : Nat) (q_o_places : Nat) (q_o_counts : Nat) (o_f_o_counts : Nat → Int64) (h : pf_Lo_setCount p1 o_depth n_o_counts f_o_counts = some o_f_o_counts) : ck_v l y_Lo_setCount wm_Lo_setCount ({ frames := 0, cells := 0, slots := 0, locals := 0 } : Room) [.ref q_o, .long p1] (dC, dI) [(cI, .int), (cJ, .long)] [(q_o, .inr (2, [.ref q_o_places, .ref q_o_counts, .int o_depth])), (q_o_counts, .inl (cJ, n_o_counts, .inr (.inl f_o_counts)))] [(q_o, .inr (2, [.ref q_o_places, .ref q_o_counts, .int o_depth])), (q_o_counts, .inl (cJ, n_o_counts, .inr (.inl o_f_o_counts)))] := by
  refine ck_ofv (cc := c_Lo_setCount) (maxL := 3) (ret := none) (by decide +kernel) rfl ?_
  intro p e s m below meth c A C0 hK hP hD hS hE
  obtain ⟨hx, hb, hr, hml, hown, hts, hlk, hA, hin⟩ := C0
  unfold pf_Lo_setCount at h
  have hl := lv_entry ([.ref q_o, .long p1]) (n := 3) (Nat.le_of_ble_eq_true rfl)
  rw [lg_entry_eq]
  generalize (lg_sl ([.ref q_o, .long p1]) ++ List.replicate (3 - (lg_sl ([.ref q_o, .long p1])).length) Slot.unset).toArray = ls at hl ⊢
  have hl : lv_has ls 3 [(0, .ref q_o), (1, .long p1)] := hl
  refine lv_aload_n hx hb d_Lo_setCount_0 rfl (lv_at hl 0 rfl) ?_
  refine va_get (D := (dC, dI)) (ci := 2) (v := .int o_depth) (C := R_Lo) (T := T_Lo) (N := 3) hx hb hts (iw_Lo _) hown hK hP 0 rfl rfl 2 (by decide) (hts (.fieldLink R_Lo 19 "ShaderMachine$Loops" "depth" "I") (List.mem_cons_of_mem _ tw_97)) (fun _ h9 => h9) rfl d_Lo_setCount_1 ?_
  refine lv_if_le (tgt := 27) hx hb d_Lo_setCount_4 (by decide) (fun c_1 => ?_) (fun c_1 => ?_)
  · rw [if_pos c_1] at h
    cases h
    exact ck_vret hx hb hr hlk hK hP hD hS d_Lo_setCount_27
  · rw [if_neg c_1] at h
    refine lv_aload_n hx hb d_Lo_setCount_7 rfl (lv_at hl 0 rfl) ?_
    refine va_get (D := (dC, dI)) (ci := 2) (v := .int o_depth) (C := R_Lo) (T := T_Lo) (N := 3) hx hb hts (iw_Lo _) hown hK hP 0 rfl rfl 2 (by decide) (hts (.fieldLink R_Lo 19 "ShaderMachine$Loops" "depth" "I") (List.mem_cons_of_mem _ tw_97)) (fun _ h9 => h9) rfl d_Lo_setCount_8 ?_
    refine lv_iconst (v := 4) hx hb d_Lo_setCount_11 (by decide) ?_
    refine lv_icmp_gt (tgt := 27) hx hb d_Lo_setCount_12 (by decide) (fun c_2 => ?_) (fun c_2 => ?_)
    · rw [if_pos c_2] at h
      cases h
      exact ck_vret hx hb hr hlk hK hP hD hS d_Lo_setCount_27
    · rw [if_neg c_2] at h
      refine lv_aload_n hx hb d_Lo_setCount_15 rfl (lv_at hl 0 rfl) ?_
      refine va_get (D := (dC, dI)) (ci := 2) (v := .ref q_o_counts) (C := R_Lo) (T := T_Lo) (N := 3) hx hb hts (iw_Lo _) hown hK hP 0 rfl rfl 1 (by decide) (hts (.fieldLink R_Lo 15 "ShaderMachine$Loops" "counts" "[J") (List.mem_cons_of_mem _ tw_96)) (fun _ h9 => h9) rfl d_Lo_setCount_16 ?_
      refine lv_aload_n hx hb d_Lo_setCount_19 rfl (lv_at hl 0 rfl) ?_
      refine va_get (D := (dC, dI)) (ci := 2) (v := .int o_depth) (C := R_Lo) (T := T_Lo) (N := 3) hx hb hts (iw_Lo _) hown hK hP 0 rfl rfl 2 (by decide) (hts (.fieldLink R_Lo 19 "ShaderMachine$Loops" "depth" "I") (List.mem_cons_of_mem _ tw_97)) (fun _ h9 => h9) rfl d_Lo_setCount_20 ?_
      refine lv_iconst (v := 1) hx hb d_Lo_setCount_23 (by decide) ?_
      refine lv_isub hx hb d_Lo_setCount_24 ?_
      refine lv_lload_n hx hb d_Lo_setCount_25 rfl (lv_at hl 1 rfl) ?_
      obtain ⟨c_3, h⟩ := ch_ite h
      refine va_last hx hb hK hP hD hS 1 1 rfl rfl (ch_in c_3) d_Lo_setCount_26 (fun H locs hP hD hS => ?_)
      have hP : va_P (dC, dI) vwCl [(q_o, .inr (2, [.ref q_o_places, .ref q_o_counts, .int o_depth])), (q_o_counts, .inl (cJ, n_o_counts, .inr (.inl (vp_updL f_o_counts (o_depth - (1 : Int32)).toNatClampNeg p1))))] H := hP
      have hD : va_D A [(q_o, .inr (2, [.ref q_o_places, .ref q_o_counts, .int o_depth])), (q_o_counts, .inl (cJ, n_o_counts, .inr (.inl (vp_updL f_o_counts (o_depth - (1 : Int32)).toNatClampNeg p1))))] := hD
      cases h
      exact ck_vret hx hb hr hlk hK hP hD hS d_Lo_setCount_27
def pf_Pr_read_18 (fu : Nat) (n_p1_memory : Nat) (f_p1_memory : Nat → Int32) (n_o_words : Nat) : Nat → Int32 → Int32 → Int32 → (Nat → Int32) → Option (Int32 × (Nat → Int32))
  | 0, _, _, _, _ => none
  | n + 1, x2, x4, g_o_many, g_f_o_words =>
    if ((3 : Int32) * g_o_many) ≤ x4 then
      some (g_o_many, g_f_o_words)
    else
      Option.bind (pf_St_word (x2 + x4) n_p1_memory f_p1_memory) (fun r_7 => 
      if (0 : Int32) ≤ x4 ∧ x4.toNatClampNeg < n_o_words then (
      pf_Pr_read_18 fu n_p1_memory f_p1_memory n_o_words n x2 (x4 + 1) g_o_many (upd g_f_o_words x4.toNatClampNeg r_7)) else none)
def pf_Pr_read (fu : Nat) (p2 : Int32) (p3 : Int32) (n_p1_memory : Nat) (f_p1_memory : Nat → Int32) (n_o_words : Nat) (f_o_words : Nat → Int32) : Option (Int32 × (Nat → Int32)) :=
  Option.bind (pf_Ma_min (256 : Int32) p3) (fun r_2 => 
  Option.bind (pf_Ma_max (0 : Int32) r_2) (fun r_4 => 
  pf_Pr_read_18 fu n_p1_memory f_p1_memory n_o_words fu p2 (0 : Int32) r_4 f_o_words))
set_option maxHeartbeats 4000000 in
set_option maxRecDepth 100000 in
theorem k_Pr_read (l : Launch) (dC : Nat → ClassId) (dI : Nat → Nat → Nat) (cI cJ : ClassId) (fu : Nat) (p2 : Int32) (p3 : Int32) (o_many : Int32) (n_p1_memory : Nat) (f_p1_memory : Nat → Int32) (n_o_words : Nat) (f_o_words : Nat → Int32) (q_o : Nat) (q_p1 : Nat) (q_o_words : Nat) (q_p1_memory : Nat) (q_p1_temporaries : Nat) (q_p1_ins : Nat) (q_p1_outs : Nat) (q_p1_uniforms : Nat) (q_p1_textures : Nat) (q_p1_nothing : Nat) (o_o_many : Int32) (o_f_o_words : Nat → Int32) (h : pf_Pr_read fu p2 p3 n_p1_memory f_p1_memory n_o_words f_o_words = some (o_o_many, o_f_o_words)) : ck_v l y_Pr_read wm_Pr_read ({ frames := 2, cells := 0, slots := 0, locals := 42 } : Room) [.ref q_o, .ref q_p1, .int p2, .int p3] (dC, dI) [(cI, .int), (cJ, .long)] [(q_o, .inr (3, [.ref q_o_words, .int o_many])), (q_p1, .inr (1, [.ref q_p1_memory, .ref q_p1_temporaries, .ref q_p1_ins, .ref q_p1_outs, .ref q_p1_uniforms, .ref q_p1_textures, .ref q_p1_nothing])), (q_p1_memory, .inl (cI, n_p1_memory, .inl f_p1_memory)), (q_o_words, .inl (cI, n_o_words, .inl f_o_words))] [(q_o, .inr (3, [.ref q_o_words, .int o_o_many])), (q_p1, .inr (1, [.ref q_p1_memory, .ref q_p1_temporaries, .ref q_p1_ins, .ref q_p1_outs, .ref q_p1_uniforms, .ref q_p1_textures, .ref q_p1_nothing])), (q_p1_memory, .inl (cI, n_p1_memory, .inl f_p1_memory)), (q_o_words, .inl (cI, n_o_words, .inl o_f_o_words))] := by
  refine ck_ofv (cc := c_Pr_read) (maxL := 5) (ret := none) (by decide +kernel) rfl ?_
  intro p e s m below meth c A C0 hK hP hD hS hE
  obtain ⟨hx, hb, hr, hml, hown, hts, hlk, hA, hin⟩ := C0
  have w_18 : ∀ (n_18 : Nat) (x2 : Int32) (x4 : Int32) (g_o_many : Int32) (g_f_o_words : Nat → Int32), pf_Pr_read_18 fu n_p1_memory f_p1_memory n_o_words n_18 x2 x4 g_o_many g_f_o_words = some (o_o_many, o_f_o_words) → ∀ (H : Heap) (locs : List Loc), va_P (dC, dI) vwCl [(q_o, .inr (3, [.ref q_o_words, .int g_o_many])), (q_p1, .inr (1, [.ref q_p1_memory, .ref q_p1_temporaries, .ref q_p1_ins, .ref q_p1_outs, .ref q_p1_uniforms, .ref q_p1_textures, .ref q_p1_nothing])), (q_p1_memory, .inl (cI, n_p1_memory, .inl f_p1_memory)), (q_o_words, .inl (cI, n_o_words, .inl g_f_o_words))] H → va_D A [(q_o, .inr (3, [.ref q_o_words, .int g_o_many])), (q_p1, .inr (1, [.ref q_p1_memory, .ref q_p1_temporaries, .ref q_p1_ins, .ref q_p1_outs, .ref q_p1_uniforms, .ref q_p1_textures, .ref q_p1_nothing])), (q_p1_memory, .inl (cI, n_p1_memory, .inl f_p1_memory)), (q_o_words, .inl (cI, n_o_words, .inl g_f_o_words))] → va_S A s.heap H locs → ∀ ls : Array Slot, lv_has ls 5 [(0, .ref q_o), (1, .ref q_p1), (2, .int x2), (4, .int x4)] → W p l e ({ frames := 2, cells := 0, slots := 0, locals := 42 } : Room) s m ([.ref q_o, .ref q_p1, .int p2, .int p3] : List Value).toArray below meth c H locs 0 0 (ck_Qv below (dC, dI) [(cI, .int), (cJ, .long)] A ([.ref q_o, .ref q_p1, .int p2, .int p3] : List Value).toArray s [(q_o, .inr (3, [.ref q_o_words, .int o_o_many])), (q_p1, .inr (1, [.ref q_p1_memory, .ref q_p1_temporaries, .ref q_p1_ins, .ref q_p1_outs, .ref q_p1_uniforms, .ref q_p1_textures, .ref q_p1_nothing])), (q_p1_memory, .inl (cI, n_p1_memory, .inl f_p1_memory)), (q_o_words, .inl (cI, n_o_words, .inl o_f_o_words))]) (F0 m 18 ls []) := by
    intro n_18
    induction n_18 with
    | zero =>
      intro x2 x4 g_o_many g_f_o_words h
      cases h
    | succ n_18 ih_18 =>
      intro x2 x4 g_o_many g_f_o_words h H locs hP hD hS ls hl
      rw [pf_Pr_read_18] at h
      refine lv_iload hx hb d_Pr_read_18 (lv_at hl 3 rfl) ?_
      refine lv_iconst (v := 3) hx hb d_Pr_read_20 (by decide) ?_
      refine lv_aload_n hx hb d_Pr_read_21 rfl (lv_at hl 0 rfl) ?_
      refine va_get (D := (dC, dI)) (ci := 3) (v := .int g_o_many) (C := R_Pr) (T := T_Pr) (N := 2) hx hb hts (iw_Pr _) hown hK hP 0 rfl rfl 1 (by decide) (hts (.fieldLink R_Pr 22 "ShaderMachine$Program" "many" "I") (List.mem_cons_of_mem _ tw_162)) (fun _ h9 => h9) rfl d_Pr_read_22 ?_
      refine lv_imul hx hb d_Pr_read_25 ?_
      refine lv_icmp_ge (tgt := 50) hx hb d_Pr_read_26 (by decide) (fun c_5 => ?_) (fun c_5 => ?_)
      · rw [if_pos c_5] at h
        cases h
        exact ck_vret hx hb hr hlk hK hP hD hS d_Pr_read_50
      · rw [if_neg c_5] at h
        refine lv_aload_n hx hb d_Pr_read_29 rfl (lv_at hl 0 rfl) ?_
        refine va_get (D := (dC, dI)) (ci := 3) (v := .ref q_o_words) (C := R_Pr) (T := T_Pr) (N := 2) hx hb hts (iw_Pr _) hown hK hP 0 rfl rfl 0 (by decide) (hts (.fieldLink R_Pr 9 "ShaderMachine$Program" "words" "[I") (List.mem_cons_of_mem _ tw_161)) (fun _ h9 => h9) rfl d_Pr_read_30 ?_
        refine lv_iload hx hb d_Pr_read_33 (lv_at hl 3 rfl) ?_
        refine lv_aload_n hx hb d_Pr_read_35 rfl (lv_at hl 1 rfl) ?_
        refine lv_iload_n hx hb d_Pr_read_36 rfl (lv_at hl 2 rfl) ?_
        refine lv_iload hx hb d_Pr_read_37 (lv_at hl 3 rfl) ?_
        refine lv_iadd hx hb d_Pr_read_39 ?_
        obtain ⟨r_7, h_6, h⟩ := ch_bind h
        try dsimp only at h
        refine ck_goi (wc := [(q_p1, .inr (1, [.ref q_p1_memory, .ref q_p1_temporaries, .ref q_p1_ins, .ref q_p1_outs, .ref q_p1_uniforms, .ref q_p1_textures, .ref q_p1_nothing])), (q_p1_memory, .inl (cI, n_p1_memory, .inl f_p1_memory))]) (wr := [(q_o, .inr (3, [.ref q_o_words, .int g_o_many])), (q_o_words, .inl (cI, n_o_words, .inl g_f_o_words))]) (w1 := [(q_p1, .inr (1, [.ref q_p1_memory, .ref q_p1_temporaries, .ref q_p1_ins, .ref q_p1_outs, .ref q_p1_uniforms, .ref q_p1_textures, .ref q_p1_nothing])), (q_p1_memory, .inl (cI, n_p1_memory, .inl f_p1_memory))]) (va_runV (As := [.int (x2 + x4)]) (rest := [.int x4, .ref q_o_words]) ⟨hx, hb, hml, hown, hts⟩ (k_St_word l dC dI cI cJ (x2 + x4) n_p1_memory f_p1_memory q_p1 q_p1_memory q_p1_temporaries q_p1_ins q_p1_outs q_p1_uniforms q_p1_textures q_p1_nothing r_7 h_6 _) (cwV 1 hts (gw_V tw_307 tw_308 tw_309 tw_2 tw_310) rfl rfl rfl (by decide +kernel) ⟨Nat.le_of_ble_eq_true rfl, Nat.le_of_ble_eq_true rfl⟩) (ck_preV (wc := [(q_p1, .inr (1, [.ref q_p1_memory, .ref q_p1_temporaries, .ref q_p1_ins, .ref q_p1_outs, .ref q_p1_uniforms, .ref q_p1_textures, .ref q_p1_nothing])), (q_p1_memory, .inl (cI, n_p1_memory, .inl f_p1_memory))]) hK hP hD hS hA hE 1 rfl rfl rfl [1, 2] (by decide) rfl) rfl rfl hl.1 rfl (lv_room (Nat.le_of_ble_eq_true rfl)) d_Pr_read_40 ⟨Nat.le_of_ble_eq_true rfl, Nat.le_of_ble_eq_true rfl⟩) hP hD hS hA [1, 2] [0, 3] rfl rfl (by decide) (by decide) (fun H locs hP hD hS => ?_)
        have hP : va_P (dC, dI) vwCl [(q_o, .inr (3, [.ref q_o_words, .int g_o_many])), (q_p1, .inr (1, [.ref q_p1_memory, .ref q_p1_temporaries, .ref q_p1_ins, .ref q_p1_outs, .ref q_p1_uniforms, .ref q_p1_textures, .ref q_p1_nothing])), (q_p1_memory, .inl (cI, n_p1_memory, .inl f_p1_memory)), (q_o_words, .inl (cI, n_o_words, .inl g_f_o_words))] H := hP.sub [0, 2, 3, 1] rfl
        have hD : va_D A [(q_o, .inr (3, [.ref q_o_words, .int g_o_many])), (q_p1, .inr (1, [.ref q_p1_memory, .ref q_p1_temporaries, .ref q_p1_ins, .ref q_p1_outs, .ref q_p1_uniforms, .ref q_p1_textures, .ref q_p1_nothing])), (q_p1_memory, .inl (cI, n_p1_memory, .inl f_p1_memory)), (q_o_words, .inl (cI, n_o_words, .inl g_f_o_words))] := hD.sub [0, 2, 3, 1] (by decide) rfl
        obtain ⟨c_8, h⟩ := ch_ite h
        refine va_iast hx hb hK hP hD hS 3 0 rfl rfl (ch_in c_8) d_Pr_read_43 (fun H locs hP hD hS => ?_)
        have hP : va_P (dC, dI) vwCl [(q_o, .inr (3, [.ref q_o_words, .int g_o_many])), (q_p1, .inr (1, [.ref q_p1_memory, .ref q_p1_temporaries, .ref q_p1_ins, .ref q_p1_outs, .ref q_p1_uniforms, .ref q_p1_textures, .ref q_p1_nothing])), (q_p1_memory, .inl (cI, n_p1_memory, .inl f_p1_memory)), (q_o_words, .inl (cI, n_o_words, .inl (upd g_f_o_words x4.toNatClampNeg r_7)))] H := hP
        have hD : va_D A [(q_o, .inr (3, [.ref q_o_words, .int g_o_many])), (q_p1, .inr (1, [.ref q_p1_memory, .ref q_p1_temporaries, .ref q_p1_ins, .ref q_p1_outs, .ref q_p1_uniforms, .ref q_p1_textures, .ref q_p1_nothing])), (q_p1_memory, .inl (cI, n_p1_memory, .inl f_p1_memory)), (q_o_words, .inl (cI, n_o_words, .inl (upd g_f_o_words x4.toNatClampNeg r_7)))] := hD
        refine lv_iinc (v := (x4 + 1)) (lv' := [(4, .int (x4 + 1)), (0, .ref q_o), (1, .ref q_p1), (2, .int x2)]) hx hb d_Pr_read_44 hl (k := 3) rfl (by rfl) (by decide) rfl (fun ls hl => ?_)
        refine lv_goto (tgt := 18) hx hb d_Pr_read_47 (by decide) ?_
        exact ih_18 x2 (x4 + 1) g_o_many (upd g_f_o_words x4.toNatClampNeg r_7) h _ _ hP hD hS _ (lv_sub hl [1, 2, 3, 0] rfl)
  unfold pf_Pr_read at h
  have hl := lv_entry ([.ref q_o, .ref q_p1, .int p2, .int p3]) (n := 5) (Nat.le_of_ble_eq_true rfl)
  rw [lg_entry_eq]
  generalize (lg_sl ([.ref q_o, .ref q_p1, .int p2, .int p3]) ++ List.replicate (5 - (lg_sl ([.ref q_o, .ref q_p1, .int p2, .int p3])).length) Slot.unset).toArray = ls at hl ⊢
  have hl : lv_has ls 5 [(0, .ref q_o), (1, .ref q_p1), (2, .int p2), (3, .int p3)] := hl
  refine lv_aload_n hx hb d_Pr_read_0 rfl (lv_at hl 0 rfl) ?_
  refine lv_iconst (v := 0) hx hb d_Pr_read_1 (by decide) ?_
  refine lv_sipush (v := 256) hx hb d_Pr_read_2 (by decide) ?_
  refine lv_iload_n hx hb d_Pr_read_5 rfl (lv_at hl 3 rfl) ?_
  obtain ⟨r_2, h_1, h⟩ := ch_bind h
  try dsimp only at h
  refine ck_goi (wc := []) (wr := [(q_o, .inr (3, [.ref q_o_words, .int o_many])), (q_p1, .inr (1, [.ref q_p1_memory, .ref q_p1_temporaries, .ref q_p1_ins, .ref q_p1_outs, .ref q_p1_uniforms, .ref q_p1_textures, .ref q_p1_nothing])), (q_p1_memory, .inl (cI, n_p1_memory, .inl f_p1_memory)), (q_o_words, .inl (cI, n_o_words, .inl f_o_words))]) (w1 := []) (va_runS (As := [.int (256 : Int32), .int p3]) (rest := [.int (0 : Int32), .ref q_o]) ⟨hx, hb, hml, hown, hts⟩ (k_Ma_min l dC dI cI cJ (256 : Int32) p3 r_2 h_1 _) (va_cwS 2 hts (gw_S tw_303 tw_304 tw_4 tw_305) rfl rfl rfl (by decide +kernel) ⟨Nat.le_of_ble_eq_true rfl, Nat.le_of_ble_eq_true rfl⟩) (ck_preS (wc := []) hK hP hD hS hA hE [] (by decide) rfl) rfl rfl hl.1 rfl (lv_room (Nat.le_of_ble_eq_true rfl)) d_Pr_read_6 ⟨Nat.le_of_ble_eq_true rfl, Nat.le_of_ble_eq_true rfl⟩) hP hD hS hA [] [0, 1, 2, 3] rfl rfl (by decide) (by decide) (fun H locs hP hD hS => ?_)
  have hP : va_P (dC, dI) vwCl [(q_o, .inr (3, [.ref q_o_words, .int o_many])), (q_p1, .inr (1, [.ref q_p1_memory, .ref q_p1_temporaries, .ref q_p1_ins, .ref q_p1_outs, .ref q_p1_uniforms, .ref q_p1_textures, .ref q_p1_nothing])), (q_p1_memory, .inl (cI, n_p1_memory, .inl f_p1_memory)), (q_o_words, .inl (cI, n_o_words, .inl f_o_words))] H := hP.sub [0, 1, 2, 3] rfl
  have hD : va_D A [(q_o, .inr (3, [.ref q_o_words, .int o_many])), (q_p1, .inr (1, [.ref q_p1_memory, .ref q_p1_temporaries, .ref q_p1_ins, .ref q_p1_outs, .ref q_p1_uniforms, .ref q_p1_textures, .ref q_p1_nothing])), (q_p1_memory, .inl (cI, n_p1_memory, .inl f_p1_memory)), (q_o_words, .inl (cI, n_o_words, .inl f_o_words))] := hD.sub [0, 1, 2, 3] (by decide) rfl
  obtain ⟨r_4, h_3, h⟩ := ch_bind h
  try dsimp only at h
  refine ck_goi (wc := []) (wr := [(q_o, .inr (3, [.ref q_o_words, .int o_many])), (q_p1, .inr (1, [.ref q_p1_memory, .ref q_p1_temporaries, .ref q_p1_ins, .ref q_p1_outs, .ref q_p1_uniforms, .ref q_p1_textures, .ref q_p1_nothing])), (q_p1_memory, .inl (cI, n_p1_memory, .inl f_p1_memory)), (q_o_words, .inl (cI, n_o_words, .inl f_o_words))]) (w1 := []) (va_runS (As := [.int (0 : Int32), .int r_2]) (rest := [.ref q_o]) ⟨hx, hb, hml, hown, hts⟩ (k_Ma_max l dC dI cI cJ (0 : Int32) r_2 r_4 h_3 _) (va_cwS 2 hts (gw_S tw_306 tw_42 tw_4 tw_43) rfl rfl rfl (by decide +kernel) ⟨Nat.le_of_ble_eq_true rfl, Nat.le_of_ble_eq_true rfl⟩) (ck_preS (wc := []) hK hP hD hS hA hE [] (by decide) rfl) rfl rfl hl.1 rfl (lv_room (Nat.le_of_ble_eq_true rfl)) d_Pr_read_9 ⟨Nat.le_of_ble_eq_true rfl, Nat.le_of_ble_eq_true rfl⟩) hP hD hS hA [] [0, 1, 2, 3] rfl rfl (by decide) (by decide) (fun H locs hP hD hS => ?_)
  have hP : va_P (dC, dI) vwCl [(q_o, .inr (3, [.ref q_o_words, .int o_many])), (q_p1, .inr (1, [.ref q_p1_memory, .ref q_p1_temporaries, .ref q_p1_ins, .ref q_p1_outs, .ref q_p1_uniforms, .ref q_p1_textures, .ref q_p1_nothing])), (q_p1_memory, .inl (cI, n_p1_memory, .inl f_p1_memory)), (q_o_words, .inl (cI, n_o_words, .inl f_o_words))] H := hP.sub [0, 1, 2, 3] rfl
  have hD : va_D A [(q_o, .inr (3, [.ref q_o_words, .int o_many])), (q_p1, .inr (1, [.ref q_p1_memory, .ref q_p1_temporaries, .ref q_p1_ins, .ref q_p1_outs, .ref q_p1_uniforms, .ref q_p1_textures, .ref q_p1_nothing])), (q_p1_memory, .inl (cI, n_p1_memory, .inl f_p1_memory)), (q_o_words, .inl (cI, n_o_words, .inl f_o_words))] := hD.sub [0, 1, 2, 3] (by decide) rfl
  refine va_put (D := (dC, dI)) (ci := 3) (v := .int r_4) (ty := .int) (C := R_Pr) (T := T_Pr) (N := 2) hx hb hts (iw_Pr _) ty_Pr tk_Pr nd_Pr hown hK hP hD hS 0 rfl rfl 1 (by decide) (hts (.fieldLink R_Pr 22 "ShaderMachine$Program" "many" "I") (List.mem_cons_of_mem _ tw_162)) (fun _ h9 => h9) rfl (by decide +kernel) rfl rfl (Nat.le_of_ble_eq_true rfl) d_Pr_read_12 (fun H locs hP hD hS => ?_)
  have hP : va_P (dC, dI) vwCl [(q_o, .inr (3, [.ref q_o_words, .int r_4])), (q_p1, .inr (1, [.ref q_p1_memory, .ref q_p1_temporaries, .ref q_p1_ins, .ref q_p1_outs, .ref q_p1_uniforms, .ref q_p1_textures, .ref q_p1_nothing])), (q_p1_memory, .inl (cI, n_p1_memory, .inl f_p1_memory)), (q_o_words, .inl (cI, n_o_words, .inl f_o_words))] H := hP
  have hD : va_D A [(q_o, .inr (3, [.ref q_o_words, .int r_4])), (q_p1, .inr (1, [.ref q_p1_memory, .ref q_p1_temporaries, .ref q_p1_ins, .ref q_p1_outs, .ref q_p1_uniforms, .ref q_p1_textures, .ref q_p1_nothing])), (q_p1_memory, .inl (cI, n_p1_memory, .inl f_p1_memory)), (q_o_words, .inl (cI, n_o_words, .inl f_o_words))] := hD
  refine lv_iconst (v := 0) hx hb d_Pr_read_15 (by decide) ?_
  refine lv_istore (lv' := [(4, .int (0 : Int32)), (0, .ref q_o), (1, .ref q_p1), (2, .int p2), (3, .int p3)]) hx hb d_Pr_read_16 hl (by decide) rfl (fun ls hl => ?_)
  exact w_18 fu p2 (0 : Int32) r_4 f_o_words h _ _ hP hD hS _ (lv_sub hl [1, 2, 3, 0] rfl)
def pf_Pr_isEmpty (o_many : Int32) : Option (Int32) :=
  if o_many = 0 then
    some (1 : Int32)
  else
    some (0 : Int32)
set_option maxHeartbeats 4000000 in
set_option maxRecDepth 100000 in
theorem k_Pr_isEmpty (l : Launch) (dC : Nat → ClassId) (dI : Nat → Nat → Nat) (cI cJ : ClassId) (o_many : Int32) (q_o : Nat) (q_o_words : Nat) (r : Int32) (h : pf_Pr_isEmpty o_many = some r) : ck_i l y_Pr_isEmpty wm_Pr_isEmpty ({ frames := 0, cells := 0, slots := 0, locals := 0 } : Room) [.ref q_o] (dC, dI) [(cI, .int), (cJ, .long)] [(q_o, .inr (3, [.ref q_o_words, .int o_many]))] r [(q_o, .inr (3, [.ref q_o_words, .int o_many]))] := by
  refine ck_ofi (cc := c_Pr_isEmpty) (maxL := 1) (ret := (some .boolean)) (by decide +kernel) rfl ?_
  intro p e s m below meth c A C0 hK hP hD hS hE
  obtain ⟨hx, hb, hr, hml, hown, hts, hlk, hA, hin⟩ := C0
  unfold pf_Pr_isEmpty at h
  have hl := lv_entry ([.ref q_o]) (n := 1) (Nat.le_of_ble_eq_true rfl)
  rw [lg_entry_eq]
  generalize (lg_sl ([.ref q_o]) ++ List.replicate (1 - (lg_sl ([.ref q_o])).length) Slot.unset).toArray = ls at hl ⊢
  have hl : lv_has ls 1 [(0, .ref q_o)] := hl
  refine lv_aload_n hx hb d_Pr_isEmpty_0 rfl (lv_at hl 0 rfl) ?_
  refine va_get (D := (dC, dI)) (ci := 3) (v := .int o_many) (C := R_Pr) (T := T_Pr) (N := 2) hx hb hts (iw_Pr _) hown hK hP 0 rfl rfl 1 (by decide) (hts (.fieldLink R_Pr 22 "ShaderMachine$Program" "many" "I") (List.mem_cons_of_mem _ tw_162)) (fun _ h9 => h9) rfl d_Pr_isEmpty_1 ?_
  refine lv_if_ne (tgt := 11) hx hb d_Pr_isEmpty_4 (by decide) (fun c_1 => ?_) (fun c_1 => ?_)
  · rw [if_neg c_1] at h
    refine lv_iconst (v := 0) hx hb d_Pr_isEmpty_11 (by decide) ?_
    cases h
    exact ck_zret hx hb hr rfl hlk hK hP hD hS d_Pr_isEmpty_12
  · rw [if_pos c_1] at h
    refine lv_iconst (v := 1) hx hb d_Pr_isEmpty_7 (by decide) ?_
    refine lv_goto (tgt := 12) hx hb d_Pr_isEmpty_8 (by decide) ?_
    cases h
    exact ck_zret hx hb hr rfl hlk hK hP hD hS d_Pr_isEmpty_12
def pf_Pr_many (o_many : Int32) : Option (Int32) :=
  some o_many
set_option maxHeartbeats 4000000 in
set_option maxRecDepth 100000 in
theorem k_Pr_many (l : Launch) (dC : Nat → ClassId) (dI : Nat → Nat → Nat) (cI cJ : ClassId) (o_many : Int32) (q_o : Nat) (q_o_words : Nat) (r : Int32) (h : pf_Pr_many o_many = some r) : ck_i l y_Pr_many wm_Pr_many ({ frames := 0, cells := 0, slots := 0, locals := 0 } : Room) [.ref q_o] (dC, dI) [(cI, .int), (cJ, .long)] [(q_o, .inr (3, [.ref q_o_words, .int o_many]))] r [(q_o, .inr (3, [.ref q_o_words, .int o_many]))] := by
  refine ck_ofi (cc := c_Pr_many) (maxL := 1) (ret := (some .int)) (by decide +kernel) rfl ?_
  intro p e s m below meth c A C0 hK hP hD hS hE
  obtain ⟨hx, hb, hr, hml, hown, hts, hlk, hA, hin⟩ := C0
  unfold pf_Pr_many at h
  have hl := lv_entry ([.ref q_o]) (n := 1) (Nat.le_of_ble_eq_true rfl)
  rw [lg_entry_eq]
  generalize (lg_sl ([.ref q_o]) ++ List.replicate (1 - (lg_sl ([.ref q_o])).length) Slot.unset).toArray = ls at hl ⊢
  have hl : lv_has ls 1 [(0, .ref q_o)] := hl
  refine lv_aload_n hx hb d_Pr_many_0 rfl (lv_at hl 0 rfl) ?_
  refine va_get (D := (dC, dI)) (ci := 3) (v := .int o_many) (C := R_Pr) (T := T_Pr) (N := 2) hx hb hts (iw_Pr _) hown hK hP 0 rfl rfl 1 (by decide) (hts (.fieldLink R_Pr 22 "ShaderMachine$Program" "many" "I") (List.mem_cons_of_mem _ tw_162)) (fun _ h9 => h9) rfl d_Pr_many_1 ?_
  cases h
  exact ck_iret hx hb hr hlk hK hP hD hS d_Pr_many_4
def pf_Pr_has (p1 : Int32) (o_many : Int32) : Option (Int32) :=
  if p1 < 0 then
    some (0 : Int32)
  else
    if o_many ≤ p1 then
      some (0 : Int32)
    else
      some (1 : Int32)
set_option maxHeartbeats 4000000 in
set_option maxRecDepth 100000 in
theorem k_Pr_has (l : Launch) (dC : Nat → ClassId) (dI : Nat → Nat → Nat) (cI cJ : ClassId) (p1 : Int32) (o_many : Int32) (q_o : Nat) (q_o_words : Nat) (r : Int32) (h : pf_Pr_has p1 o_many = some r) : ck_i l y_Pr_has wm_Pr_has ({ frames := 0, cells := 0, slots := 0, locals := 0 } : Room) [.ref q_o, .int p1] (dC, dI) [(cI, .int), (cJ, .long)] [(q_o, .inr (3, [.ref q_o_words, .int o_many]))] r [(q_o, .inr (3, [.ref q_o_words, .int o_many]))] := by
  refine ck_ofi (cc := c_Pr_has) (maxL := 2) (ret := (some .boolean)) (by decide +kernel) rfl ?_
  intro p e s m below meth c A C0 hK hP hD hS hE
  obtain ⟨hx, hb, hr, hml, hown, hts, hlk, hA, hin⟩ := C0
  unfold pf_Pr_has at h
  have hl := lv_entry ([.ref q_o, .int p1]) (n := 2) (Nat.le_of_ble_eq_true rfl)
  rw [lg_entry_eq]
  generalize (lg_sl ([.ref q_o, .int p1]) ++ List.replicate (2 - (lg_sl ([.ref q_o, .int p1])).length) Slot.unset).toArray = ls at hl ⊢
  have hl : lv_has ls 2 [(0, .ref q_o), (1, .int p1)] := hl
  refine lv_iload_n hx hb d_Pr_has_0 rfl (lv_at hl 1 rfl) ?_
  refine lv_if_lt (tgt := 16) hx hb d_Pr_has_1 (by decide) (fun c_1 => ?_) (fun c_1 => ?_)
  · rw [if_pos c_1] at h
    refine lv_iconst (v := 0) hx hb d_Pr_has_16 (by decide) ?_
    cases h
    exact ck_zret hx hb hr rfl hlk hK hP hD hS d_Pr_has_17
  · rw [if_neg c_1] at h
    refine lv_iload_n hx hb d_Pr_has_4 rfl (lv_at hl 1 rfl) ?_
    refine lv_aload_n hx hb d_Pr_has_5 rfl (lv_at hl 0 rfl) ?_
    refine va_get (D := (dC, dI)) (ci := 3) (v := .int o_many) (C := R_Pr) (T := T_Pr) (N := 2) hx hb hts (iw_Pr _) hown hK hP 0 rfl rfl 1 (by decide) (hts (.fieldLink R_Pr 22 "ShaderMachine$Program" "many" "I") (List.mem_cons_of_mem _ tw_162)) (fun _ h9 => h9) rfl d_Pr_has_6 ?_
    refine lv_icmp_ge (tgt := 16) hx hb d_Pr_has_9 (by decide) (fun c_2 => ?_) (fun c_2 => ?_)
    · rw [if_pos c_2] at h
      refine lv_iconst (v := 0) hx hb d_Pr_has_16 (by decide) ?_
      cases h
      exact ck_zret hx hb hr rfl hlk hK hP hD hS d_Pr_has_17
    · rw [if_neg c_2] at h
      refine lv_iconst (v := 1) hx hb d_Pr_has_12 (by decide) ?_
      refine lv_goto (tgt := 17) hx hb d_Pr_has_13 (by decide) ?_
      cases h
      exact ck_zret hx hb hr rfl hlk hK hP hD hS d_Pr_has_17
def pf_Pr_first (p1 : Int32) (o_many : Int32) (n_o_words : Nat) (f_o_words : Nat → Int32) : Option (Int32) :=
  Option.bind (pf_Pr_has p1 o_many) (fun r_2 => 
  if r_2 = 0 then
    some (0 : Int32)
  else
    if (0 : Int32) ≤ ((3 : Int32) * p1) ∧ ((3 : Int32) * p1).toNatClampNeg < n_o_words then (
    some (f_o_words ((3 : Int32) * p1).toNatClampNeg)) else none)
set_option maxHeartbeats 4000000 in
set_option maxRecDepth 100000 in
theorem k_Pr_first (l : Launch) (dC : Nat → ClassId) (dI : Nat → Nat → Nat) (cI cJ : ClassId) (p1 : Int32) (o_many : Int32) (n_o_words : Nat) (f_o_words : Nat → Int32) (q_o : Nat) (q_o_words : Nat) (r : Int32) (h : pf_Pr_first p1 o_many n_o_words f_o_words = some r) : ck_i l y_Pr_first wm_Pr_first ({ frames := 1, cells := 0, slots := 0, locals := 21 } : Room) [.ref q_o, .int p1] (dC, dI) [(cI, .int), (cJ, .long)] [(q_o, .inr (3, [.ref q_o_words, .int o_many])), (q_o_words, .inl (cI, n_o_words, .inl f_o_words))] r [(q_o, .inr (3, [.ref q_o_words, .int o_many])), (q_o_words, .inl (cI, n_o_words, .inl f_o_words))] := by
  refine ck_ofi (cc := c_Pr_first) (maxL := 2) (ret := (some .int)) (by decide +kernel) rfl ?_
  intro p e s m below meth c A C0 hK hP hD hS hE
  obtain ⟨hx, hb, hr, hml, hown, hts, hlk, hA, hin⟩ := C0
  unfold pf_Pr_first at h
  have hl := lv_entry ([.ref q_o, .int p1]) (n := 2) (Nat.le_of_ble_eq_true rfl)
  rw [lg_entry_eq]
  generalize (lg_sl ([.ref q_o, .int p1]) ++ List.replicate (2 - (lg_sl ([.ref q_o, .int p1])).length) Slot.unset).toArray = ls at hl ⊢
  have hl : lv_has ls 2 [(0, .ref q_o), (1, .int p1)] := hl
  refine lv_aload_n hx hb d_Pr_first_0 rfl (lv_at hl 0 rfl) ?_
  refine lv_iload_n hx hb d_Pr_first_1 rfl (lv_at hl 1 rfl) ?_
  obtain ⟨r_2, h_1, h⟩ := ch_bind h
  try dsimp only at h
  refine ck_goi (wc := [(q_o, .inr (3, [.ref q_o_words, .int o_many]))]) (wr := [(q_o_words, .inl (cI, n_o_words, .inl f_o_words))]) (w1 := [(q_o, .inr (3, [.ref q_o_words, .int o_many]))]) (va_runV (As := [.int p1]) (rest := []) ⟨hx, hb, hml, hown, hts⟩ (k_Pr_has l dC dI cI cJ p1 o_many q_o q_o_words r_2 h_1 _) (cwV 1 hts (gw_V tw_339 tw_341 sw_65 tw_8 tw_342) rfl rfl rfl (by decide +kernel) ⟨Nat.le_of_ble_eq_true rfl, Nat.le_of_ble_eq_true rfl⟩) (ck_preV (wc := [(q_o, .inr (3, [.ref q_o_words, .int o_many]))]) hK hP hD hS hA hE 0 rfl rfl rfl [0] (by decide) rfl) rfl rfl hl.1 rfl (lv_room (Nat.le_of_ble_eq_true rfl)) d_Pr_first_2 ⟨Nat.le_of_ble_eq_true rfl, Nat.le_of_ble_eq_true rfl⟩) hP hD hS hA [0] [1] rfl rfl (by decide) (by decide) (fun H locs hP hD hS => ?_)
  have hP : va_P (dC, dI) vwCl [(q_o, .inr (3, [.ref q_o_words, .int o_many])), (q_o_words, .inl (cI, n_o_words, .inl f_o_words))] H := hP.sub [1, 0] rfl
  have hD : va_D A [(q_o, .inr (3, [.ref q_o_words, .int o_many])), (q_o_words, .inl (cI, n_o_words, .inl f_o_words))] := hD.sub [1, 0] (by decide) rfl
  refine lv_if_eq (tgt := 19) hx hb d_Pr_first_5 (by decide) (fun c_3 => ?_) (fun c_3 => ?_)
  · rw [if_pos c_3] at h
    refine lv_iconst (v := 0) hx hb d_Pr_first_19 (by decide) ?_
    cases h
    exact ck_iret hx hb hr hlk hK hP hD hS d_Pr_first_20
  · rw [if_neg c_3] at h
    refine lv_aload_n hx hb d_Pr_first_8 rfl (lv_at hl 0 rfl) ?_
    refine va_get (D := (dC, dI)) (ci := 3) (v := .ref q_o_words) (C := R_Pr) (T := T_Pr) (N := 2) hx hb hts (iw_Pr _) hown hK hP 0 rfl rfl 0 (by decide) (hts (.fieldLink R_Pr 9 "ShaderMachine$Program" "words" "[I") (List.mem_cons_of_mem _ tw_161)) (fun _ h9 => h9) rfl d_Pr_first_9 ?_
    refine lv_iconst (v := 3) hx hb d_Pr_first_12 (by decide) ?_
    refine lv_iload_n hx hb d_Pr_first_13 rfl (lv_at hl 1 rfl) ?_
    refine lv_imul hx hb d_Pr_first_14 ?_
    obtain ⟨c_4, h⟩ := ch_ite h
    refine va_iald hx hb hK hP 1 0 rfl rfl (ch_in c_4) d_Pr_first_15 ?_
    refine lv_goto (tgt := 20) hx hb d_Pr_first_16 (by decide) ?_
    cases h
    exact ck_iret hx hb hr hlk hK hP hD hS d_Pr_first_20
def pf_Pr_second (p1 : Int32) (o_many : Int32) (n_o_words : Nat) (f_o_words : Nat → Int32) : Option (Int32) :=
  Option.bind (pf_Pr_has p1 o_many) (fun r_2 => 
  if r_2 = 0 then
    some (0 : Int32)
  else
    if (0 : Int32) ≤ (((3 : Int32) * p1) + (1 : Int32)) ∧ (((3 : Int32) * p1) + (1 : Int32)).toNatClampNeg < n_o_words then (
    some (f_o_words (((3 : Int32) * p1) + (1 : Int32)).toNatClampNeg)) else none)
set_option maxHeartbeats 4000000 in
set_option maxRecDepth 100000 in
theorem k_Pr_second (l : Launch) (dC : Nat → ClassId) (dI : Nat → Nat → Nat) (cI cJ : ClassId) (p1 : Int32) (o_many : Int32) (n_o_words : Nat) (f_o_words : Nat → Int32) (q_o : Nat) (q_o_words : Nat) (r : Int32) (h : pf_Pr_second p1 o_many n_o_words f_o_words = some r) : ck_i l y_Pr_second wm_Pr_second ({ frames := 1, cells := 0, slots := 0, locals := 21 } : Room) [.ref q_o, .int p1] (dC, dI) [(cI, .int), (cJ, .long)] [(q_o, .inr (3, [.ref q_o_words, .int o_many])), (q_o_words, .inl (cI, n_o_words, .inl f_o_words))] r [(q_o, .inr (3, [.ref q_o_words, .int o_many])), (q_o_words, .inl (cI, n_o_words, .inl f_o_words))] := by
  refine ck_ofi (cc := c_Pr_second) (maxL := 2) (ret := (some .int)) (by decide +kernel) rfl ?_
  intro p e s m below meth c A C0 hK hP hD hS hE
  obtain ⟨hx, hb, hr, hml, hown, hts, hlk, hA, hin⟩ := C0
  unfold pf_Pr_second at h
  have hl := lv_entry ([.ref q_o, .int p1]) (n := 2) (Nat.le_of_ble_eq_true rfl)
  rw [lg_entry_eq]
  generalize (lg_sl ([.ref q_o, .int p1]) ++ List.replicate (2 - (lg_sl ([.ref q_o, .int p1])).length) Slot.unset).toArray = ls at hl ⊢
  have hl : lv_has ls 2 [(0, .ref q_o), (1, .int p1)] := hl
  refine lv_aload_n hx hb d_Pr_second_0 rfl (lv_at hl 0 rfl) ?_
  refine lv_iload_n hx hb d_Pr_second_1 rfl (lv_at hl 1 rfl) ?_
  obtain ⟨r_2, h_1, h⟩ := ch_bind h
  try dsimp only at h
  refine ck_goi (wc := [(q_o, .inr (3, [.ref q_o_words, .int o_many]))]) (wr := [(q_o_words, .inl (cI, n_o_words, .inl f_o_words))]) (w1 := [(q_o, .inr (3, [.ref q_o_words, .int o_many]))]) (va_runV (As := [.int p1]) (rest := []) ⟨hx, hb, hml, hown, hts⟩ (k_Pr_has l dC dI cI cJ p1 o_many q_o q_o_words r_2 h_1 _) (cwV 1 hts (gw_V tw_339 tw_341 sw_65 tw_8 tw_342) rfl rfl rfl (by decide +kernel) ⟨Nat.le_of_ble_eq_true rfl, Nat.le_of_ble_eq_true rfl⟩) (ck_preV (wc := [(q_o, .inr (3, [.ref q_o_words, .int o_many]))]) hK hP hD hS hA hE 0 rfl rfl rfl [0] (by decide) rfl) rfl rfl hl.1 rfl (lv_room (Nat.le_of_ble_eq_true rfl)) d_Pr_second_2 ⟨Nat.le_of_ble_eq_true rfl, Nat.le_of_ble_eq_true rfl⟩) hP hD hS hA [0] [1] rfl rfl (by decide) (by decide) (fun H locs hP hD hS => ?_)
  have hP : va_P (dC, dI) vwCl [(q_o, .inr (3, [.ref q_o_words, .int o_many])), (q_o_words, .inl (cI, n_o_words, .inl f_o_words))] H := hP.sub [1, 0] rfl
  have hD : va_D A [(q_o, .inr (3, [.ref q_o_words, .int o_many])), (q_o_words, .inl (cI, n_o_words, .inl f_o_words))] := hD.sub [1, 0] (by decide) rfl
  refine lv_if_eq (tgt := 21) hx hb d_Pr_second_5 (by decide) (fun c_3 => ?_) (fun c_3 => ?_)
  · rw [if_pos c_3] at h
    refine lv_iconst (v := 0) hx hb d_Pr_second_21 (by decide) ?_
    cases h
    exact ck_iret hx hb hr hlk hK hP hD hS d_Pr_second_22
  · rw [if_neg c_3] at h
    refine lv_aload_n hx hb d_Pr_second_8 rfl (lv_at hl 0 rfl) ?_
    refine va_get (D := (dC, dI)) (ci := 3) (v := .ref q_o_words) (C := R_Pr) (T := T_Pr) (N := 2) hx hb hts (iw_Pr _) hown hK hP 0 rfl rfl 0 (by decide) (hts (.fieldLink R_Pr 9 "ShaderMachine$Program" "words" "[I") (List.mem_cons_of_mem _ tw_161)) (fun _ h9 => h9) rfl d_Pr_second_9 ?_
    refine lv_iconst (v := 3) hx hb d_Pr_second_12 (by decide) ?_
    refine lv_iload_n hx hb d_Pr_second_13 rfl (lv_at hl 1 rfl) ?_
    refine lv_imul hx hb d_Pr_second_14 ?_
    refine lv_iconst (v := 1) hx hb d_Pr_second_15 (by decide) ?_
    refine lv_iadd hx hb d_Pr_second_16 ?_
    obtain ⟨c_4, h⟩ := ch_ite h
    refine va_iald hx hb hK hP 1 0 rfl rfl (ch_in c_4) d_Pr_second_17 ?_
    refine lv_goto (tgt := 22) hx hb d_Pr_second_18 (by decide) ?_
    cases h
    exact ck_iret hx hb hr hlk hK hP hD hS d_Pr_second_22
def pf_Pr_third (p1 : Int32) (o_many : Int32) (n_o_words : Nat) (f_o_words : Nat → Int32) : Option (Int32) :=
  Option.bind (pf_Pr_has p1 o_many) (fun r_2 => 
  if r_2 = 0 then
    some (0 : Int32)
  else
    if (0 : Int32) ≤ (((3 : Int32) * p1) + (2 : Int32)) ∧ (((3 : Int32) * p1) + (2 : Int32)).toNatClampNeg < n_o_words then (
    some (f_o_words (((3 : Int32) * p1) + (2 : Int32)).toNatClampNeg)) else none)
set_option maxHeartbeats 4000000 in
set_option maxRecDepth 100000 in
theorem k_Pr_third (l : Launch) (dC : Nat → ClassId) (dI : Nat → Nat → Nat) (cI cJ : ClassId) (p1 : Int32) (o_many : Int32) (n_o_words : Nat) (f_o_words : Nat → Int32) (q_o : Nat) (q_o_words : Nat) (r : Int32) (h : pf_Pr_third p1 o_many n_o_words f_o_words = some r) : ck_i l y_Pr_third wm_Pr_third ({ frames := 1, cells := 0, slots := 0, locals := 21 } : Room) [.ref q_o, .int p1] (dC, dI) [(cI, .int), (cJ, .long)] [(q_o, .inr (3, [.ref q_o_words, .int o_many])), (q_o_words, .inl (cI, n_o_words, .inl f_o_words))] r [(q_o, .inr (3, [.ref q_o_words, .int o_many])), (q_o_words, .inl (cI, n_o_words, .inl f_o_words))] := by
  refine ck_ofi (cc := c_Pr_third) (maxL := 2) (ret := (some .int)) (by decide +kernel) rfl ?_
  intro p e s m below meth c A C0 hK hP hD hS hE
  obtain ⟨hx, hb, hr, hml, hown, hts, hlk, hA, hin⟩ := C0
  unfold pf_Pr_third at h
  have hl := lv_entry ([.ref q_o, .int p1]) (n := 2) (Nat.le_of_ble_eq_true rfl)
  rw [lg_entry_eq]
  generalize (lg_sl ([.ref q_o, .int p1]) ++ List.replicate (2 - (lg_sl ([.ref q_o, .int p1])).length) Slot.unset).toArray = ls at hl ⊢
  have hl : lv_has ls 2 [(0, .ref q_o), (1, .int p1)] := hl
  refine lv_aload_n hx hb d_Pr_third_0 rfl (lv_at hl 0 rfl) ?_
  refine lv_iload_n hx hb d_Pr_third_1 rfl (lv_at hl 1 rfl) ?_
  obtain ⟨r_2, h_1, h⟩ := ch_bind h
  try dsimp only at h
  refine ck_goi (wc := [(q_o, .inr (3, [.ref q_o_words, .int o_many]))]) (wr := [(q_o_words, .inl (cI, n_o_words, .inl f_o_words))]) (w1 := [(q_o, .inr (3, [.ref q_o_words, .int o_many]))]) (va_runV (As := [.int p1]) (rest := []) ⟨hx, hb, hml, hown, hts⟩ (k_Pr_has l dC dI cI cJ p1 o_many q_o q_o_words r_2 h_1 _) (cwV 1 hts (gw_V tw_339 tw_341 sw_65 tw_8 tw_342) rfl rfl rfl (by decide +kernel) ⟨Nat.le_of_ble_eq_true rfl, Nat.le_of_ble_eq_true rfl⟩) (ck_preV (wc := [(q_o, .inr (3, [.ref q_o_words, .int o_many]))]) hK hP hD hS hA hE 0 rfl rfl rfl [0] (by decide) rfl) rfl rfl hl.1 rfl (lv_room (Nat.le_of_ble_eq_true rfl)) d_Pr_third_2 ⟨Nat.le_of_ble_eq_true rfl, Nat.le_of_ble_eq_true rfl⟩) hP hD hS hA [0] [1] rfl rfl (by decide) (by decide) (fun H locs hP hD hS => ?_)
  have hP : va_P (dC, dI) vwCl [(q_o, .inr (3, [.ref q_o_words, .int o_many])), (q_o_words, .inl (cI, n_o_words, .inl f_o_words))] H := hP.sub [1, 0] rfl
  have hD : va_D A [(q_o, .inr (3, [.ref q_o_words, .int o_many])), (q_o_words, .inl (cI, n_o_words, .inl f_o_words))] := hD.sub [1, 0] (by decide) rfl
  refine lv_if_eq (tgt := 21) hx hb d_Pr_third_5 (by decide) (fun c_3 => ?_) (fun c_3 => ?_)
  · rw [if_pos c_3] at h
    refine lv_iconst (v := 0) hx hb d_Pr_third_21 (by decide) ?_
    cases h
    exact ck_iret hx hb hr hlk hK hP hD hS d_Pr_third_22
  · rw [if_neg c_3] at h
    refine lv_aload_n hx hb d_Pr_third_8 rfl (lv_at hl 0 rfl) ?_
    refine va_get (D := (dC, dI)) (ci := 3) (v := .ref q_o_words) (C := R_Pr) (T := T_Pr) (N := 2) hx hb hts (iw_Pr _) hown hK hP 0 rfl rfl 0 (by decide) (hts (.fieldLink R_Pr 9 "ShaderMachine$Program" "words" "[I") (List.mem_cons_of_mem _ tw_161)) (fun _ h9 => h9) rfl d_Pr_third_9 ?_
    refine lv_iconst (v := 3) hx hb d_Pr_third_12 (by decide) ?_
    refine lv_iload_n hx hb d_Pr_third_13 rfl (lv_at hl 1 rfl) ?_
    refine lv_imul hx hb d_Pr_third_14 ?_
    refine lv_iconst (v := 2) hx hb d_Pr_third_15 (by decide) ?_
    refine lv_iadd hx hb d_Pr_third_16 ?_
    obtain ⟨c_4, h⟩ := ch_ite h
    refine va_iald hx hb hK hP 1 0 rfl rfl (ch_in c_4) d_Pr_third_17 ?_
    refine lv_goto (tgt := 22) hx hb d_Pr_third_18 (by decide) ?_
    cases h
    exact ck_iret hx hb hr hlk hK hP hD hS d_Pr_third_22
def pf_Pr_kind (p1 : Int32) (o_many : Int32) (n_o_words : Nat) (f_o_words : Nat → Int32) : Option (Int32) :=
  Option.bind (pf_Pr_first p1 o_many n_o_words f_o_words) (fun r_2 => 
  some (r_2 &&& (63 : Int32)))
set_option maxHeartbeats 4000000 in
set_option maxRecDepth 100000 in
theorem k_Pr_kind (l : Launch) (dC : Nat → ClassId) (dI : Nat → Nat → Nat) (cI cJ : ClassId) (p1 : Int32) (o_many : Int32) (n_o_words : Nat) (f_o_words : Nat → Int32) (q_o : Nat) (q_o_words : Nat) (r : Int32) (h : pf_Pr_kind p1 o_many n_o_words f_o_words = some r) : ck_i l y_Pr_kind wm_Pr_kind ({ frames := 2, cells := 0, slots := 0, locals := 42 } : Room) [.ref q_o, .int p1] (dC, dI) [(cI, .int), (cJ, .long)] [(q_o, .inr (3, [.ref q_o_words, .int o_many])), (q_o_words, .inl (cI, n_o_words, .inl f_o_words))] r [(q_o, .inr (3, [.ref q_o_words, .int o_many])), (q_o_words, .inl (cI, n_o_words, .inl f_o_words))] := by
  refine ck_ofi (cc := c_Pr_kind) (maxL := 2) (ret := (some .int)) (by decide +kernel) rfl ?_
  intro p e s m below meth c A C0 hK hP hD hS hE
  obtain ⟨hx, hb, hr, hml, hown, hts, hlk, hA, hin⟩ := C0
  unfold pf_Pr_kind at h
  have hl := lv_entry ([.ref q_o, .int p1]) (n := 2) (Nat.le_of_ble_eq_true rfl)
  rw [lg_entry_eq]
  generalize (lg_sl ([.ref q_o, .int p1]) ++ List.replicate (2 - (lg_sl ([.ref q_o, .int p1])).length) Slot.unset).toArray = ls at hl ⊢
  have hl : lv_has ls 2 [(0, .ref q_o), (1, .int p1)] := hl
  refine lv_aload_n hx hb d_Pr_kind_0 rfl (lv_at hl 0 rfl) ?_
  refine lv_iload_n hx hb d_Pr_kind_1 rfl (lv_at hl 1 rfl) ?_
  obtain ⟨r_2, h_1, h⟩ := ch_bind h
  try dsimp only at h
  refine ck_goi (wc := [(q_o, .inr (3, [.ref q_o_words, .int o_many])), (q_o_words, .inl (cI, n_o_words, .inl f_o_words))]) (wr := []) (w1 := [(q_o, .inr (3, [.ref q_o_words, .int o_many])), (q_o_words, .inl (cI, n_o_words, .inl f_o_words))]) (va_runV (As := [.int p1]) (rest := []) ⟨hx, hb, hml, hown, hts⟩ (k_Pr_first l dC dI cI cJ p1 o_many n_o_words f_o_words q_o q_o_words r_2 h_1 _) (cwV 1 hts (gw_V tw_335 tw_336 tw_337 tw_8 tw_338) rfl rfl rfl (by decide +kernel) ⟨Nat.le_of_ble_eq_true rfl, Nat.le_of_ble_eq_true rfl⟩) (ck_preV (wc := [(q_o, .inr (3, [.ref q_o_words, .int o_many])), (q_o_words, .inl (cI, n_o_words, .inl f_o_words))]) hK hP hD hS hA hE 0 rfl rfl rfl [0, 1] (by decide) rfl) rfl rfl hl.1 rfl (lv_room (Nat.le_of_ble_eq_true rfl)) d_Pr_kind_2 ⟨Nat.le_of_ble_eq_true rfl, Nat.le_of_ble_eq_true rfl⟩) hP hD hS hA [0, 1] [] rfl rfl (by decide) (by decide) (fun H locs hP hD hS => ?_)
  have hP : va_P (dC, dI) vwCl [(q_o, .inr (3, [.ref q_o_words, .int o_many])), (q_o_words, .inl (cI, n_o_words, .inl f_o_words))] H := hP.sub [0, 1] rfl
  have hD : va_D A [(q_o, .inr (3, [.ref q_o_words, .int o_many])), (q_o_words, .inl (cI, n_o_words, .inl f_o_words))] := hD.sub [0, 1] (by decide) rfl
  refine lv_bipush (v := 63) hx hb d_Pr_kind_5 (by decide) ?_
  refine lv_iand hx hb d_Pr_kind_7 ?_
  cases h
  exact ck_iret hx hb hr hlk hK hP hD hS d_Pr_kind_8
def pf_Pr_number (p1 : Int32) (o_many : Int32) (n_o_words : Nat) (f_o_words : Nat → Int32) : Option (Int32) :=
  Option.bind (pf_Pr_first p1 o_many n_o_words f_o_words) (fun r_2 => 
  some ((r_2.toUInt32 >>> ((17 : Int32).toUInt32 &&& Int32.toUInt32 31)).toInt32))
set_option maxHeartbeats 4000000 in
set_option maxRecDepth 100000 in
theorem k_Pr_number (l : Launch) (dC : Nat → ClassId) (dI : Nat → Nat → Nat) (cI cJ : ClassId) (p1 : Int32) (o_many : Int32) (n_o_words : Nat) (f_o_words : Nat → Int32) (q_o : Nat) (q_o_words : Nat) (r : Int32) (h : pf_Pr_number p1 o_many n_o_words f_o_words = some r) : ck_i l y_Pr_number wm_Pr_number ({ frames := 2, cells := 0, slots := 0, locals := 42 } : Room) [.ref q_o, .int p1] (dC, dI) [(cI, .int), (cJ, .long)] [(q_o, .inr (3, [.ref q_o_words, .int o_many])), (q_o_words, .inl (cI, n_o_words, .inl f_o_words))] r [(q_o, .inr (3, [.ref q_o_words, .int o_many])), (q_o_words, .inl (cI, n_o_words, .inl f_o_words))] := by
  refine ck_ofi (cc := c_Pr_number) (maxL := 2) (ret := (some .int)) (by decide +kernel) rfl ?_
  intro p e s m below meth c A C0 hK hP hD hS hE
  obtain ⟨hx, hb, hr, hml, hown, hts, hlk, hA, hin⟩ := C0
  unfold pf_Pr_number at h
  have hl := lv_entry ([.ref q_o, .int p1]) (n := 2) (Nat.le_of_ble_eq_true rfl)
  rw [lg_entry_eq]
  generalize (lg_sl ([.ref q_o, .int p1]) ++ List.replicate (2 - (lg_sl ([.ref q_o, .int p1])).length) Slot.unset).toArray = ls at hl ⊢
  have hl : lv_has ls 2 [(0, .ref q_o), (1, .int p1)] := hl
  refine lv_aload_n hx hb d_Pr_number_0 rfl (lv_at hl 0 rfl) ?_
  refine lv_iload_n hx hb d_Pr_number_1 rfl (lv_at hl 1 rfl) ?_
  obtain ⟨r_2, h_1, h⟩ := ch_bind h
  try dsimp only at h
  refine ck_goi (wc := [(q_o, .inr (3, [.ref q_o_words, .int o_many])), (q_o_words, .inl (cI, n_o_words, .inl f_o_words))]) (wr := []) (w1 := [(q_o, .inr (3, [.ref q_o_words, .int o_many])), (q_o_words, .inl (cI, n_o_words, .inl f_o_words))]) (va_runV (As := [.int p1]) (rest := []) ⟨hx, hb, hml, hown, hts⟩ (k_Pr_first l dC dI cI cJ p1 o_many n_o_words f_o_words q_o q_o_words r_2 h_1 _) (cwV 1 hts (gw_V tw_335 tw_336 tw_337 tw_8 tw_338) rfl rfl rfl (by decide +kernel) ⟨Nat.le_of_ble_eq_true rfl, Nat.le_of_ble_eq_true rfl⟩) (ck_preV (wc := [(q_o, .inr (3, [.ref q_o_words, .int o_many])), (q_o_words, .inl (cI, n_o_words, .inl f_o_words))]) hK hP hD hS hA hE 0 rfl rfl rfl [0, 1] (by decide) rfl) rfl rfl hl.1 rfl (lv_room (Nat.le_of_ble_eq_true rfl)) d_Pr_number_2 ⟨Nat.le_of_ble_eq_true rfl, Nat.le_of_ble_eq_true rfl⟩) hP hD hS hA [0, 1] [] rfl rfl (by decide) (by decide) (fun H locs hP hD hS => ?_)
  have hP : va_P (dC, dI) vwCl [(q_o, .inr (3, [.ref q_o_words, .int o_many])), (q_o_words, .inl (cI, n_o_words, .inl f_o_words))] H := hP.sub [0, 1] rfl
  have hD : va_D A [(q_o, .inr (3, [.ref q_o_words, .int o_many])), (q_o_words, .inl (cI, n_o_words, .inl f_o_words))] := hD.sub [0, 1] (by decide) rfl
  refine lv_bipush (v := 17) hx hb d_Pr_number_5 (by decide) ?_
  refine lv_iushr hx hb d_Pr_number_7 rfl ?_
  cases h
  exact ck_iret hx hb hr hlk hK hP hD hS d_Pr_number_8
def pf_Ch_found (o_fault : Int32) : Option (Int32) :=
  some o_fault
set_option maxHeartbeats 4000000 in
set_option maxRecDepth 100000 in
theorem k_Ch_found (l : Launch) (dC : Nat → ClassId) (dI : Nat → Nat → Nat) (cI cJ : ClassId) (o_fault : Int32) (o_place : Int32) (o_steps : Int64) (q_o : Nat) (q_o_loopOf : Nat) (q_o_loops : Nat) (r : Int32) (h : pf_Ch_found o_fault = some r) : ck_i l y_Ch_found wm_Ch_found ({ frames := 0, cells := 0, slots := 0, locals := 0 } : Room) [.ref q_o] (dC, dI) [(cI, .int), (cJ, .long)] [(q_o, .inr (4, [.ref q_o_loopOf, .ref q_o_loops, .int o_fault, .int o_place, .long o_steps]))] r [(q_o, .inr (4, [.ref q_o_loopOf, .ref q_o_loops, .int o_fault, .int o_place, .long o_steps]))] := by
  refine ck_ofi (cc := c_Ch_found) (maxL := 1) (ret := (some .int)) (by decide +kernel) rfl ?_
  intro p e s m below meth c A C0 hK hP hD hS hE
  obtain ⟨hx, hb, hr, hml, hown, hts, hlk, hA, hin⟩ := C0
  unfold pf_Ch_found at h
  have hl := lv_entry ([.ref q_o]) (n := 1) (Nat.le_of_ble_eq_true rfl)
  rw [lg_entry_eq]
  generalize (lg_sl ([.ref q_o]) ++ List.replicate (1 - (lg_sl ([.ref q_o])).length) Slot.unset).toArray = ls at hl ⊢
  have hl : lv_has ls 1 [(0, .ref q_o)] := hl
  refine lv_aload_n hx hb d_Ch_found_0 rfl (lv_at hl 0 rfl) ?_
  refine va_get (D := (dC, dI)) (ci := 4) (v := .int o_fault) (C := R_Ch) (T := T_Ch) (N := 5) hx hb hts (iw_Ch _) hown hK hP 0 rfl rfl 2 (by decide) (hts (.fieldLink R_Ch 24 "ShaderMachine$Check" "fault" "I") (List.mem_cons_of_mem _ tw_108)) (fun _ h9 => h9) rfl d_Ch_found_1 ?_
  cases h
  exact ck_iret hx hb hr hlk hK hP hD hS d_Ch_found_4
def pf_Ch_place (o_place : Int32) : Option (Int32) :=
  some o_place
set_option maxHeartbeats 4000000 in
set_option maxRecDepth 100000 in
theorem k_Ch_place (l : Launch) (dC : Nat → ClassId) (dI : Nat → Nat → Nat) (cI cJ : ClassId) (o_fault : Int32) (o_place : Int32) (o_steps : Int64) (q_o : Nat) (q_o_loopOf : Nat) (q_o_loops : Nat) (r : Int32) (h : pf_Ch_place o_place = some r) : ck_i l y_Ch_place wm_Ch_place ({ frames := 0, cells := 0, slots := 0, locals := 0 } : Room) [.ref q_o] (dC, dI) [(cI, .int), (cJ, .long)] [(q_o, .inr (4, [.ref q_o_loopOf, .ref q_o_loops, .int o_fault, .int o_place, .long o_steps]))] r [(q_o, .inr (4, [.ref q_o_loopOf, .ref q_o_loops, .int o_fault, .int o_place, .long o_steps]))] := by
  refine ck_ofi (cc := c_Ch_place) (maxL := 1) (ret := (some .int)) (by decide +kernel) rfl ?_
  intro p e s m below meth c A C0 hK hP hD hS hE
  obtain ⟨hx, hb, hr, hml, hown, hts, hlk, hA, hin⟩ := C0
  unfold pf_Ch_place at h
  have hl := lv_entry ([.ref q_o]) (n := 1) (Nat.le_of_ble_eq_true rfl)
  rw [lg_entry_eq]
  generalize (lg_sl ([.ref q_o]) ++ List.replicate (1 - (lg_sl ([.ref q_o])).length) Slot.unset).toArray = ls at hl ⊢
  have hl : lv_has ls 1 [(0, .ref q_o)] := hl
  refine lv_aload_n hx hb d_Ch_place_0 rfl (lv_at hl 0 rfl) ?_
  refine va_get (D := (dC, dI)) (ci := 4) (v := .int o_place) (C := R_Ch) (T := T_Ch) (N := 5) hx hb hts (iw_Ch _) hown hK hP 0 rfl rfl 3 (by decide) (hts (.fieldLink R_Ch 28 "ShaderMachine$Check" "place" "I") (List.mem_cons_of_mem _ tw_109)) (fun _ h9 => h9) rfl d_Ch_place_1 ?_
  cases h
  exact ck_iret hx hb hr hlk hK hP hD hS d_Ch_place_4
def pf_Ch_steps (o_steps : Int64) : Option (Int32) :=
  Option.bind (pf_Ma_min_JJJ (65536 : Int64) o_steps) (fun r_2 => 
  some r_2.toInt32)
set_option maxHeartbeats 4000000 in
set_option maxRecDepth 100000 in
theorem k_Ch_steps (l : Launch) (dC : Nat → ClassId) (dI : Nat → Nat → Nat) (cI cJ : ClassId) (o_fault : Int32) (o_place : Int32) (o_steps : Int64) (q_o : Nat) (q_o_loopOf : Nat) (q_o_loops : Nat) (r : Int32) (h : pf_Ch_steps o_steps = some r) : ck_i l y_Ch_steps wm_Ch_steps ({ frames := 1, cells := 0, slots := 0, locals := 23 } : Room) [.ref q_o] (dC, dI) [(cI, .int), (cJ, .long)] [(q_o, .inr (4, [.ref q_o_loopOf, .ref q_o_loops, .int o_fault, .int o_place, .long o_steps]))] r [(q_o, .inr (4, [.ref q_o_loopOf, .ref q_o_loops, .int o_fault, .int o_place, .long o_steps]))] := by
  refine ck_ofi (cc := c_Ch_steps) (maxL := 1) (ret := (some .int)) (by decide +kernel) rfl ?_
  intro p e s m below meth c A C0 hK hP hD hS hE
  obtain ⟨hx, hb, hr, hml, hown, hts, hlk, hA, hin⟩ := C0
  unfold pf_Ch_steps at h
  have hl := lv_entry ([.ref q_o]) (n := 1) (Nat.le_of_ble_eq_true rfl)
  rw [lg_entry_eq]
  generalize (lg_sl ([.ref q_o]) ++ List.replicate (1 - (lg_sl ([.ref q_o])).length) Slot.unset).toArray = ls at hl ⊢
  have hl : lv_has ls 1 [(0, .ref q_o)] := hl
  refine lv_ldc2 (v := 65536) hx hb hown (hts (.constantLong R_Ch 31 (65536)) (by decide +kernel)) d_Ch_steps_0 ?_
  refine lv_aload_n hx hb d_Ch_steps_3 rfl (lv_at hl 0 rfl) ?_
  refine va_get (D := (dC, dI)) (ci := 4) (v := .long o_steps) (C := R_Ch) (T := T_Ch) (N := 5) hx hb hts (iw_Ch _) hown hK hP 0 rfl rfl 4 (by decide) (hts (.fieldLink R_Ch 33 "ShaderMachine$Check" "steps" "J") (List.mem_cons_of_mem _ tw_110)) (fun _ h9 => h9) rfl d_Ch_steps_4 ?_
  obtain ⟨r_2, h_1, h⟩ := ch_bind h
  try dsimp only at h
  refine ck_gol (wc := []) (wr := [(q_o, .inr (4, [.ref q_o_loopOf, .ref q_o_loops, .int o_fault, .int o_place, .long o_steps]))]) (w1 := []) (va_runS (As := [.long (65536 : Int64), .long o_steps]) (rest := []) ⟨hx, hb, hml, hown, hts⟩ (k_Ma_min_JJJ l dC dI cI cJ (65536 : Int64) o_steps r_2 h_1 _) (va_cwS 2 hts (gw_S tw_460 tw_461 tw_4 tw_462) rfl rfl rfl (by decide +kernel) ⟨Nat.le_of_ble_eq_true rfl, Nat.le_of_ble_eq_true rfl⟩) (ck_preS (wc := []) hK hP hD hS hA hE [] (by decide) rfl) rfl rfl hl.1 rfl (lv_room (Nat.le_of_ble_eq_true rfl)) d_Ch_steps_7 ⟨Nat.le_of_ble_eq_true rfl, Nat.le_of_ble_eq_true rfl⟩) hP hD hS hA [] [0] rfl rfl (by decide) (by decide) (fun H locs hP hD hS => ?_)
  have hP : va_P (dC, dI) vwCl [(q_o, .inr (4, [.ref q_o_loopOf, .ref q_o_loops, .int o_fault, .int o_place, .long o_steps]))] H := hP.sub [0] rfl
  have hD : va_D A [(q_o, .inr (4, [.ref q_o_loopOf, .ref q_o_loops, .int o_fault, .int o_place, .long o_steps]))] := hD.sub [0] (by decide) rfl
  refine lv_l2i hx hb d_Ch_steps_10 rfl ?_
  cases h
  exact ck_iret hx hb hr hlk hK hP hD hS d_Ch_steps_11
def pf_Ch_tell (p1 : Int32) (p2 : Int32) : Option (Int32 × Int32) :=
  some (p1, p2)
set_option maxHeartbeats 4000000 in
set_option maxRecDepth 100000 in
theorem k_Ch_tell (l : Launch) (dC : Nat → ClassId) (dI : Nat → Nat → Nat) (cI cJ : ClassId) (p1 : Int32) (p2 : Int32) (o_fault : Int32) (o_place : Int32) (o_steps : Int64) (q_o : Nat) (q_o_loopOf : Nat) (q_o_loops : Nat) (o_o_fault : Int32) (o_o_place : Int32) (h : pf_Ch_tell p1 p2 = some (o_o_fault, o_o_place)) : ck_v l y_Ch_tell wm_Ch_tell ({ frames := 0, cells := 0, slots := 0, locals := 0 } : Room) [.ref q_o, .int p1, .int p2] (dC, dI) [(cI, .int), (cJ, .long)] [(q_o, .inr (4, [.ref q_o_loopOf, .ref q_o_loops, .int o_fault, .int o_place, .long o_steps]))] [(q_o, .inr (4, [.ref q_o_loopOf, .ref q_o_loops, .int o_o_fault, .int o_o_place, .long o_steps]))] := by
  refine ck_ofv (cc := c_Ch_tell) (maxL := 3) (ret := none) (by decide +kernel) rfl ?_
  intro p e s m below meth c A C0 hK hP hD hS hE
  obtain ⟨hx, hb, hr, hml, hown, hts, hlk, hA, hin⟩ := C0
  unfold pf_Ch_tell at h
  have hl := lv_entry ([.ref q_o, .int p1, .int p2]) (n := 3) (Nat.le_of_ble_eq_true rfl)
  rw [lg_entry_eq]
  generalize (lg_sl ([.ref q_o, .int p1, .int p2]) ++ List.replicate (3 - (lg_sl ([.ref q_o, .int p1, .int p2])).length) Slot.unset).toArray = ls at hl ⊢
  have hl : lv_has ls 3 [(0, .ref q_o), (1, .int p1), (2, .int p2)] := hl
  refine lv_aload_n hx hb d_Ch_tell_0 rfl (lv_at hl 0 rfl) ?_
  refine lv_iload_n hx hb d_Ch_tell_1 rfl (lv_at hl 1 rfl) ?_
  refine va_put (D := (dC, dI)) (ci := 4) (v := .int p1) (ty := .int) (C := R_Ch) (T := T_Ch) (N := 5) hx hb hts (iw_Ch _) ty_Ch tk_Ch nd_Ch hown hK hP hD hS 0 rfl rfl 2 (by decide) (hts (.fieldLink R_Ch 24 "ShaderMachine$Check" "fault" "I") (List.mem_cons_of_mem _ tw_108)) (fun _ h9 => h9) rfl (by decide +kernel) rfl rfl (Nat.le_of_ble_eq_true rfl) d_Ch_tell_2 (fun H locs hP hD hS => ?_)
  have hP : va_P (dC, dI) vwCl [(q_o, .inr (4, [.ref q_o_loopOf, .ref q_o_loops, .int p1, .int o_place, .long o_steps]))] H := hP
  have hD : va_D A [(q_o, .inr (4, [.ref q_o_loopOf, .ref q_o_loops, .int p1, .int o_place, .long o_steps]))] := hD
  refine lv_aload_n hx hb d_Ch_tell_5 rfl (lv_at hl 0 rfl) ?_
  refine lv_iload_n hx hb d_Ch_tell_6 rfl (lv_at hl 2 rfl) ?_
  refine va_put (D := (dC, dI)) (ci := 4) (v := .int p2) (ty := .int) (C := R_Ch) (T := T_Ch) (N := 5) hx hb hts (iw_Ch _) ty_Ch tk_Ch nd_Ch hown hK hP hD hS 0 rfl rfl 3 (by decide) (hts (.fieldLink R_Ch 28 "ShaderMachine$Check" "place" "I") (List.mem_cons_of_mem _ tw_109)) (fun _ h9 => h9) rfl (by decide +kernel) rfl rfl (Nat.le_of_ble_eq_true rfl) d_Ch_tell_7 (fun H locs hP hD hS => ?_)
  have hP : va_P (dC, dI) vwCl [(q_o, .inr (4, [.ref q_o_loopOf, .ref q_o_loops, .int p1, .int p2, .long o_steps]))] H := hP
  have hD : va_D A [(q_o, .inr (4, [.ref q_o_loopOf, .ref q_o_loops, .int p1, .int p2, .long o_steps]))] := hD
  cases h
  exact ck_vret hx hb hr hlk hK hP hD hS d_Ch_tell_10
def pf_Ch_loopAt (p1 : Int32) (n_o_loopOf : Nat) (f_o_loopOf : Nat → Int32) : Option (Int32) :=
  if p1 < 0 then
    some (-1 : Int32)
  else
    if (Int32.ofNat n_o_loopOf) ≤ p1 then
      some (-1 : Int32)
    else
      if (0 : Int32) ≤ p1 ∧ p1.toNatClampNeg < n_o_loopOf then (
      some (f_o_loopOf p1.toNatClampNeg)) else none
set_option maxHeartbeats 4000000 in
set_option maxRecDepth 100000 in
theorem k_Ch_loopAt (l : Launch) (dC : Nat → ClassId) (dI : Nat → Nat → Nat) (cI cJ : ClassId) (p1 : Int32) (o_fault : Int32) (o_place : Int32) (o_steps : Int64) (n_o_loopOf : Nat) (f_o_loopOf : Nat → Int32) (q_o : Nat) (q_o_loopOf : Nat) (q_o_loops : Nat) (r : Int32) (h : pf_Ch_loopAt p1 n_o_loopOf f_o_loopOf = some r) : ck_i l y_Ch_loopAt wm_Ch_loopAt ({ frames := 0, cells := 0, slots := 0, locals := 0 } : Room) [.ref q_o, .int p1] (dC, dI) [(cI, .int), (cJ, .long)] [(q_o, .inr (4, [.ref q_o_loopOf, .ref q_o_loops, .int o_fault, .int o_place, .long o_steps])), (q_o_loopOf, .inl (cI, n_o_loopOf, .inl f_o_loopOf))] r [(q_o, .inr (4, [.ref q_o_loopOf, .ref q_o_loops, .int o_fault, .int o_place, .long o_steps])), (q_o_loopOf, .inl (cI, n_o_loopOf, .inl f_o_loopOf))] := by
  refine ck_ofi (cc := c_Ch_loopAt) (maxL := 2) (ret := (some .int)) (by decide +kernel) rfl ?_
  intro p e s m below meth c A C0 hK hP hD hS hE
  obtain ⟨hx, hb, hr, hml, hown, hts, hlk, hA, hin⟩ := C0
  unfold pf_Ch_loopAt at h
  have hl := lv_entry ([.ref q_o, .int p1]) (n := 2) (Nat.le_of_ble_eq_true rfl)
  rw [lg_entry_eq]
  generalize (lg_sl ([.ref q_o, .int p1]) ++ List.replicate (2 - (lg_sl ([.ref q_o, .int p1])).length) Slot.unset).toArray = ls at hl ⊢
  have hl : lv_has ls 2 [(0, .ref q_o), (1, .int p1)] := hl
  refine lv_iload_n hx hb d_Ch_loopAt_0 rfl (lv_at hl 1 rfl) ?_
  refine lv_if_lt (tgt := 22) hx hb d_Ch_loopAt_1 (by decide) (fun c_1 => ?_) (fun c_1 => ?_)
  · rw [if_pos c_1] at h
    refine lv_iconst (v := -1) hx hb d_Ch_loopAt_22 (by decide) ?_
    cases h
    exact ck_iret hx hb hr hlk hK hP hD hS d_Ch_loopAt_23
  · rw [if_neg c_1] at h
    refine lv_iload_n hx hb d_Ch_loopAt_4 rfl (lv_at hl 1 rfl) ?_
    refine lv_aload_n hx hb d_Ch_loopAt_5 rfl (lv_at hl 0 rfl) ?_
    refine va_get (D := (dC, dI)) (ci := 4) (v := .ref q_o_loopOf) (C := R_Ch) (T := T_Ch) (N := 5) hx hb hts (iw_Ch _) hown hK hP 0 rfl rfl 0 (by decide) (hts (.fieldLink R_Ch 11 "ShaderMachine$Check" "loopOf" "[I") (List.mem_cons_of_mem _ tw_106)) (fun _ h9 => h9) rfl d_Ch_loopAt_6 ?_
    refine va_alen (v := Int32.ofNat n_o_loopOf) hx hb hK hP 1 0 rfl rfl rfl d_Ch_loopAt_9 ?_
    refine lv_icmp_ge (tgt := 22) hx hb d_Ch_loopAt_10 (by decide) (fun c_2 => ?_) (fun c_2 => ?_)
    · rw [if_pos c_2] at h
      refine lv_iconst (v := -1) hx hb d_Ch_loopAt_22 (by decide) ?_
      cases h
      exact ck_iret hx hb hr hlk hK hP hD hS d_Ch_loopAt_23
    · rw [if_neg c_2] at h
      refine lv_aload_n hx hb d_Ch_loopAt_13 rfl (lv_at hl 0 rfl) ?_
      refine va_get (D := (dC, dI)) (ci := 4) (v := .ref q_o_loopOf) (C := R_Ch) (T := T_Ch) (N := 5) hx hb hts (iw_Ch _) hown hK hP 0 rfl rfl 0 (by decide) (hts (.fieldLink R_Ch 11 "ShaderMachine$Check" "loopOf" "[I") (List.mem_cons_of_mem _ tw_106)) (fun _ h9 => h9) rfl d_Ch_loopAt_14 ?_
      refine lv_iload_n hx hb d_Ch_loopAt_17 rfl (lv_at hl 1 rfl) ?_
      obtain ⟨c_3, h⟩ := ch_ite h
      refine va_iald hx hb hK hP 1 0 rfl rfl (ch_in c_3) d_Ch_loopAt_18 ?_
      refine lv_goto (tgt := 23) hx hb d_Ch_loopAt_19 (by decide) ?_
      cases h
      exact ck_iret hx hb hr hlk hK hP hD hS d_Ch_loopAt_23
def pf_Ch_firstStray_2 (fu : Nat) (p1_many : Int32) (n_p1_words : Nat) (f_p1_words : Nat → Int32) (n_o_loopOf : Nat) (f_o_loopOf : Nat → Int32) : Nat → Int32 → Option (Int32)
  | 0, _ => none
  | n + 1, x2 =>
    Option.bind (pf_Pr_many p1_many) (fun r_2 => 
    if r_2 ≤ x2 then
      some (-1 : Int32)
    else
      Option.bind (pf_Pr_kind x2 p1_many n_p1_words f_p1_words) (fun r_5 => 
      Option.bind (pf_Ki_goes r_5) (fun r_7 => 
      if r_7 = 0 then
        pf_Ch_firstStray_2 fu p1_many n_p1_words f_p1_words n_o_loopOf f_o_loopOf n (x2 + 1)
      else
        Option.bind (pf_Ch_loopAt x2 n_o_loopOf f_o_loopOf) (fun r_10 => 
        Option.bind (pf_Pr_number x2 p1_many n_p1_words f_p1_words) (fun r_12 => 
        Option.bind (pf_Ch_loopAt r_12 n_o_loopOf f_o_loopOf) (fun r_14 => 
        if r_10 = r_14 then
          pf_Ch_firstStray_2 fu p1_many n_p1_words f_p1_words n_o_loopOf f_o_loopOf n (x2 + 1)
        else
          some x2))))))
def pf_Ch_firstStray (fu : Nat) (p1_many : Int32) (n_p1_words : Nat) (f_p1_words : Nat → Int32) (n_o_loopOf : Nat) (f_o_loopOf : Nat → Int32) : Option (Int32) :=
  pf_Ch_firstStray_2 fu p1_many n_p1_words f_p1_words n_o_loopOf f_o_loopOf fu (0 : Int32)
set_option maxHeartbeats 4000000 in
set_option maxRecDepth 100000 in
theorem k_Ch_firstStray (l : Launch) (dC : Nat → ClassId) (dI : Nat → Nat → Nat) (cI cJ : ClassId) (fu : Nat) (p1_many : Int32) (n_p1_words : Nat) (f_p1_words : Nat → Int32) (o_fault : Int32) (o_place : Int32) (o_steps : Int64) (n_o_loopOf : Nat) (f_o_loopOf : Nat → Int32) (q_o : Nat) (q_p1 : Nat) (q_p1_words : Nat) (q_o_loopOf : Nat) (q_o_loops : Nat) (r : Int32) (h : pf_Ch_firstStray fu p1_many n_p1_words f_p1_words n_o_loopOf f_o_loopOf = some r) : ck_i l y_Ch_firstStray wm_Ch_firstStray ({ frames := 3, cells := 0, slots := 0, locals := 63 } : Room) [.ref q_o, .ref q_p1] (dC, dI) [(cI, .int), (cJ, .long)] [(q_p1, .inr (3, [.ref q_p1_words, .int p1_many])), (q_p1_words, .inl (cI, n_p1_words, .inl f_p1_words)), (q_o, .inr (4, [.ref q_o_loopOf, .ref q_o_loops, .int o_fault, .int o_place, .long o_steps])), (q_o_loopOf, .inl (cI, n_o_loopOf, .inl f_o_loopOf))] r [(q_p1, .inr (3, [.ref q_p1_words, .int p1_many])), (q_p1_words, .inl (cI, n_p1_words, .inl f_p1_words)), (q_o, .inr (4, [.ref q_o_loopOf, .ref q_o_loops, .int o_fault, .int o_place, .long o_steps])), (q_o_loopOf, .inl (cI, n_o_loopOf, .inl f_o_loopOf))] := by
  refine ck_ofi (cc := c_Ch_firstStray) (maxL := 3) (ret := (some .int)) (by decide +kernel) rfl ?_
  intro p e s m below meth c A C0 hK hP hD hS hE
  obtain ⟨hx, hb, hr, hml, hown, hts, hlk, hA, hin⟩ := C0
  have w_2 : ∀ (n_2 : Nat) (x2 : Int32), pf_Ch_firstStray_2 fu p1_many n_p1_words f_p1_words n_o_loopOf f_o_loopOf n_2 x2 = some r → ∀ (H : Heap) (locs : List Loc), va_P (dC, dI) vwCl [(q_p1, .inr (3, [.ref q_p1_words, .int p1_many])), (q_p1_words, .inl (cI, n_p1_words, .inl f_p1_words)), (q_o, .inr (4, [.ref q_o_loopOf, .ref q_o_loops, .int o_fault, .int o_place, .long o_steps])), (q_o_loopOf, .inl (cI, n_o_loopOf, .inl f_o_loopOf))] H → va_D A [(q_p1, .inr (3, [.ref q_p1_words, .int p1_many])), (q_p1_words, .inl (cI, n_p1_words, .inl f_p1_words)), (q_o, .inr (4, [.ref q_o_loopOf, .ref q_o_loops, .int o_fault, .int o_place, .long o_steps])), (q_o_loopOf, .inl (cI, n_o_loopOf, .inl f_o_loopOf))] → va_S A s.heap H locs → ∀ ls : Array Slot, lv_has ls 3 [(0, .ref q_o), (1, .ref q_p1), (2, .int x2)] → W p l e ({ frames := 3, cells := 0, slots := 0, locals := 63 } : Room) s m ([.ref q_o, .ref q_p1] : List Value).toArray below meth c H locs 0 0 (ck_Qi below (dC, dI) [(cI, .int), (cJ, .long)] A ([.ref q_o, .ref q_p1] : List Value).toArray s r [(q_p1, .inr (3, [.ref q_p1_words, .int p1_many])), (q_p1_words, .inl (cI, n_p1_words, .inl f_p1_words)), (q_o, .inr (4, [.ref q_o_loopOf, .ref q_o_loops, .int o_fault, .int o_place, .long o_steps])), (q_o_loopOf, .inl (cI, n_o_loopOf, .inl f_o_loopOf))]) (F0 m 2 ls []) := by
    intro n_2
    induction n_2 with
    | zero =>
      intro x2 h
      cases h
    | succ n_2 ih_2 =>
      intro x2 h H locs hP hD hS ls hl
      rw [pf_Ch_firstStray_2] at h
      refine lv_iload_n hx hb d_Ch_firstStray_2 rfl (lv_at hl 2 rfl) ?_
      refine lv_aload_n hx hb d_Ch_firstStray_3 rfl (lv_at hl 1 rfl) ?_
      obtain ⟨r_2, h_1, h⟩ := ch_bind h
      try dsimp only at h
      refine ck_goi (wc := [(q_p1, .inr (3, [.ref q_p1_words, .int p1_many]))]) (wr := [(q_p1_words, .inl (cI, n_p1_words, .inl f_p1_words)), (q_o, .inr (4, [.ref q_o_loopOf, .ref q_o_loops, .int o_fault, .int o_place, .long o_steps])), (q_o_loopOf, .inl (cI, n_o_loopOf, .inl f_o_loopOf))]) (w1 := [(q_p1, .inr (3, [.ref q_p1_words, .int p1_many]))]) (va_runV (As := []) (rest := [.int x2]) ⟨hx, hb, hml, hown, hts⟩ (k_Pr_many l dC dI cI cJ p1_many q_p1 q_p1_words r_2 h_1 _) (cwV 0 hts (gw_V tw_323 tw_324 tw_325 tw_8 tw_326) rfl rfl rfl (by decide +kernel) ⟨Nat.le_of_ble_eq_true rfl, Nat.le_of_ble_eq_true rfl⟩) (ck_preV (wc := [(q_p1, .inr (3, [.ref q_p1_words, .int p1_many]))]) hK hP hD hS hA hE 0 rfl rfl rfl [0] (by decide) rfl) rfl rfl hl.1 rfl (lv_room (Nat.le_of_ble_eq_true rfl)) d_Ch_firstStray_4 ⟨Nat.le_of_ble_eq_true rfl, Nat.le_of_ble_eq_true rfl⟩) hP hD hS hA [0] [1, 2, 3] rfl rfl (by decide) (by decide) (fun H locs hP hD hS => ?_)
      have hP : va_P (dC, dI) vwCl [(q_p1, .inr (3, [.ref q_p1_words, .int p1_many])), (q_p1_words, .inl (cI, n_p1_words, .inl f_p1_words)), (q_o, .inr (4, [.ref q_o_loopOf, .ref q_o_loops, .int o_fault, .int o_place, .long o_steps])), (q_o_loopOf, .inl (cI, n_o_loopOf, .inl f_o_loopOf))] H := hP.sub [3, 0, 1, 2] rfl
      have hD : va_D A [(q_p1, .inr (3, [.ref q_p1_words, .int p1_many])), (q_p1_words, .inl (cI, n_p1_words, .inl f_p1_words)), (q_o, .inr (4, [.ref q_o_loopOf, .ref q_o_loops, .int o_fault, .int o_place, .long o_steps])), (q_o_loopOf, .inl (cI, n_o_loopOf, .inl f_o_loopOf))] := hD.sub [3, 0, 1, 2] (by decide) rfl
      refine lv_icmp_ge (tgt := 46) hx hb d_Ch_firstStray_7 (by decide) (fun c_3 => ?_) (fun c_3 => ?_)
      · rw [if_pos c_3] at h
        refine lv_iconst (v := -1) hx hb d_Ch_firstStray_46 (by decide) ?_
        cases h
        exact ck_iret hx hb hr hlk hK hP hD hS d_Ch_firstStray_47
      · rw [if_neg c_3] at h
        refine lv_aload_n hx hb d_Ch_firstStray_10 rfl (lv_at hl 1 rfl) ?_
        refine lv_iload_n hx hb d_Ch_firstStray_11 rfl (lv_at hl 2 rfl) ?_
        obtain ⟨r_5, h_4, h⟩ := ch_bind h
        try dsimp only at h
        refine ck_goi (wc := [(q_p1, .inr (3, [.ref q_p1_words, .int p1_many])), (q_p1_words, .inl (cI, n_p1_words, .inl f_p1_words))]) (wr := [(q_o, .inr (4, [.ref q_o_loopOf, .ref q_o_loops, .int o_fault, .int o_place, .long o_steps])), (q_o_loopOf, .inl (cI, n_o_loopOf, .inl f_o_loopOf))]) (w1 := [(q_p1, .inr (3, [.ref q_p1_words, .int p1_many])), (q_p1_words, .inl (cI, n_p1_words, .inl f_p1_words))]) (va_runV (As := [.int x2]) (rest := []) ⟨hx, hb, hml, hown, hts⟩ (k_Pr_kind l dC dI cI cJ x2 p1_many n_p1_words f_p1_words q_p1 q_p1_words r_5 h_4 _) (cwV 1 hts (gw_V tw_331 tw_332 tw_333 tw_8 tw_334) rfl rfl rfl (by decide +kernel) ⟨Nat.le_of_ble_eq_true rfl, Nat.le_of_ble_eq_true rfl⟩) (ck_preV (wc := [(q_p1, .inr (3, [.ref q_p1_words, .int p1_many])), (q_p1_words, .inl (cI, n_p1_words, .inl f_p1_words))]) hK hP hD hS hA hE 0 rfl rfl rfl [0, 1] (by decide) rfl) rfl rfl hl.1 rfl (lv_room (Nat.le_of_ble_eq_true rfl)) d_Ch_firstStray_12 ⟨Nat.le_of_ble_eq_true rfl, Nat.le_of_ble_eq_true rfl⟩) hP hD hS hA [0, 1] [2, 3] rfl rfl (by decide) (by decide) (fun H locs hP hD hS => ?_)
        have hP : va_P (dC, dI) vwCl [(q_p1, .inr (3, [.ref q_p1_words, .int p1_many])), (q_p1_words, .inl (cI, n_p1_words, .inl f_p1_words)), (q_o, .inr (4, [.ref q_o_loopOf, .ref q_o_loops, .int o_fault, .int o_place, .long o_steps])), (q_o_loopOf, .inl (cI, n_o_loopOf, .inl f_o_loopOf))] H := hP.sub [2, 3, 0, 1] rfl
        have hD : va_D A [(q_p1, .inr (3, [.ref q_p1_words, .int p1_many])), (q_p1_words, .inl (cI, n_p1_words, .inl f_p1_words)), (q_o, .inr (4, [.ref q_o_loopOf, .ref q_o_loops, .int o_fault, .int o_place, .long o_steps])), (q_o_loopOf, .inl (cI, n_o_loopOf, .inl f_o_loopOf))] := hD.sub [2, 3, 0, 1] (by decide) rfl
        obtain ⟨r_7, h_6, h⟩ := ch_bind h
        try dsimp only at h
        refine ck_goi (wc := []) (wr := [(q_p1, .inr (3, [.ref q_p1_words, .int p1_many])), (q_p1_words, .inl (cI, n_p1_words, .inl f_p1_words)), (q_o, .inr (4, [.ref q_o_loopOf, .ref q_o_loops, .int o_fault, .int o_place, .long o_steps])), (q_o_loopOf, .inl (cI, n_o_loopOf, .inl f_o_loopOf))]) (w1 := []) (va_runS (As := [.int r_5]) (rest := []) ⟨hx, hb, hml, hown, hts⟩ (k_Ki_goes l dC dI cI cJ r_5 r_7 h_6 _) (va_cwS 1 hts (gw_S tw_393 tw_394 tw_14 tw_395) rfl rfl rfl (by decide +kernel) ⟨Nat.le_of_ble_eq_true rfl, Nat.le_of_ble_eq_true rfl⟩) (ck_preS (wc := []) hK hP hD hS hA hE [] (by decide) rfl) rfl rfl hl.1 rfl (lv_room (Nat.le_of_ble_eq_true rfl)) d_Ch_firstStray_15 ⟨Nat.le_of_ble_eq_true rfl, Nat.le_of_ble_eq_true rfl⟩) hP hD hS hA [] [0, 1, 2, 3] rfl rfl (by decide) (by decide) (fun H locs hP hD hS => ?_)
        have hP : va_P (dC, dI) vwCl [(q_p1, .inr (3, [.ref q_p1_words, .int p1_many])), (q_p1_words, .inl (cI, n_p1_words, .inl f_p1_words)), (q_o, .inr (4, [.ref q_o_loopOf, .ref q_o_loops, .int o_fault, .int o_place, .long o_steps])), (q_o_loopOf, .inl (cI, n_o_loopOf, .inl f_o_loopOf))] H := hP.sub [0, 1, 2, 3] rfl
        have hD : va_D A [(q_p1, .inr (3, [.ref q_p1_words, .int p1_many])), (q_p1_words, .inl (cI, n_p1_words, .inl f_p1_words)), (q_o, .inr (4, [.ref q_o_loopOf, .ref q_o_loops, .int o_fault, .int o_place, .long o_steps])), (q_o_loopOf, .inl (cI, n_o_loopOf, .inl f_o_loopOf))] := hD.sub [0, 1, 2, 3] (by decide) rfl
        refine lv_if_eq (tgt := 40) hx hb d_Ch_firstStray_18 (by decide) (fun c_8 => ?_) (fun c_8 => ?_)
        · rw [if_pos c_8] at h
          refine lv_iinc (v := (x2 + 1)) (lv' := [(2, .int (x2 + 1)), (0, .ref q_o), (1, .ref q_p1)]) hx hb d_Ch_firstStray_40 hl (k := 2) rfl (by rfl) (by decide) rfl (fun ls hl => ?_)
          refine lv_goto (tgt := 2) hx hb d_Ch_firstStray_43 (by decide) ?_
          exact ih_2 (x2 + 1) h _ _ hP hD hS _ (lv_sub hl [1, 2, 0] rfl)
        · rw [if_neg c_8] at h
          refine lv_aload_n hx hb d_Ch_firstStray_21 rfl (lv_at hl 0 rfl) ?_
          refine lv_iload_n hx hb d_Ch_firstStray_22 rfl (lv_at hl 2 rfl) ?_
          obtain ⟨r_10, h_9, h⟩ := ch_bind h
          try dsimp only at h
          refine ck_goi (wc := [(q_o, .inr (4, [.ref q_o_loopOf, .ref q_o_loops, .int o_fault, .int o_place, .long o_steps])), (q_o_loopOf, .inl (cI, n_o_loopOf, .inl f_o_loopOf))]) (wr := [(q_p1, .inr (3, [.ref q_p1_words, .int p1_many])), (q_p1_words, .inl (cI, n_p1_words, .inl f_p1_words))]) (w1 := [(q_o, .inr (4, [.ref q_o_loopOf, .ref q_o_loops, .int o_fault, .int o_place, .long o_steps])), (q_o_loopOf, .inl (cI, n_o_loopOf, .inl f_o_loopOf))]) (va_runV (As := [.int x2]) (rest := []) ⟨hx, hb, hml, hown, hts⟩ (k_Ch_loopAt l dC dI cI cJ x2 o_fault o_place o_steps n_o_loopOf f_o_loopOf q_o q_o_loopOf q_o_loops r_10 h_9 _) (cwV 1 hts (gw_V tw_435 tw_437 sw_106 tw_5 tw_438) rfl rfl rfl (by decide +kernel) ⟨Nat.le_of_ble_eq_true rfl, Nat.le_of_ble_eq_true rfl⟩) (ck_preV (wc := [(q_o, .inr (4, [.ref q_o_loopOf, .ref q_o_loops, .int o_fault, .int o_place, .long o_steps])), (q_o_loopOf, .inl (cI, n_o_loopOf, .inl f_o_loopOf))]) hK hP hD hS hA hE 2 rfl rfl rfl [2, 3] (by decide) rfl) rfl rfl hl.1 rfl (lv_room (Nat.le_of_ble_eq_true rfl)) d_Ch_firstStray_23 ⟨Nat.le_of_ble_eq_true rfl, Nat.le_of_ble_eq_true rfl⟩) hP hD hS hA [2, 3] [0, 1] rfl rfl (by decide) (by decide) (fun H locs hP hD hS => ?_)
          have hP : va_P (dC, dI) vwCl [(q_p1, .inr (3, [.ref q_p1_words, .int p1_many])), (q_p1_words, .inl (cI, n_p1_words, .inl f_p1_words)), (q_o, .inr (4, [.ref q_o_loopOf, .ref q_o_loops, .int o_fault, .int o_place, .long o_steps])), (q_o_loopOf, .inl (cI, n_o_loopOf, .inl f_o_loopOf))] H := hP.sub [0, 1, 2, 3] rfl
          have hD : va_D A [(q_p1, .inr (3, [.ref q_p1_words, .int p1_many])), (q_p1_words, .inl (cI, n_p1_words, .inl f_p1_words)), (q_o, .inr (4, [.ref q_o_loopOf, .ref q_o_loops, .int o_fault, .int o_place, .long o_steps])), (q_o_loopOf, .inl (cI, n_o_loopOf, .inl f_o_loopOf))] := hD.sub [0, 1, 2, 3] (by decide) rfl
          refine lv_aload_n hx hb d_Ch_firstStray_26 rfl (lv_at hl 0 rfl) ?_
          refine lv_aload_n hx hb d_Ch_firstStray_27 rfl (lv_at hl 1 rfl) ?_
          refine lv_iload_n hx hb d_Ch_firstStray_28 rfl (lv_at hl 2 rfl) ?_
          obtain ⟨r_12, h_11, h⟩ := ch_bind h
          try dsimp only at h
          refine ck_goi (wc := [(q_p1, .inr (3, [.ref q_p1_words, .int p1_many])), (q_p1_words, .inl (cI, n_p1_words, .inl f_p1_words))]) (wr := [(q_o, .inr (4, [.ref q_o_loopOf, .ref q_o_loops, .int o_fault, .int o_place, .long o_steps])), (q_o_loopOf, .inl (cI, n_o_loopOf, .inl f_o_loopOf))]) (w1 := [(q_p1, .inr (3, [.ref q_p1_words, .int p1_many])), (q_p1_words, .inl (cI, n_p1_words, .inl f_p1_words))]) (va_runV (As := [.int x2]) (rest := [.ref q_o, .int r_10]) ⟨hx, hb, hml, hown, hts⟩ (k_Pr_number l dC dI cI cJ x2 p1_many n_p1_words f_p1_words q_p1 q_p1_words r_12 h_11 _) (cwV 1 hts (gw_V tw_386 tw_387 tw_388 tw_8 tw_389) rfl rfl rfl (by decide +kernel) ⟨Nat.le_of_ble_eq_true rfl, Nat.le_of_ble_eq_true rfl⟩) (ck_preV (wc := [(q_p1, .inr (3, [.ref q_p1_words, .int p1_many])), (q_p1_words, .inl (cI, n_p1_words, .inl f_p1_words))]) hK hP hD hS hA hE 0 rfl rfl rfl [0, 1] (by decide) rfl) rfl rfl hl.1 rfl (lv_room (Nat.le_of_ble_eq_true rfl)) d_Ch_firstStray_29 ⟨Nat.le_of_ble_eq_true rfl, Nat.le_of_ble_eq_true rfl⟩) hP hD hS hA [0, 1] [2, 3] rfl rfl (by decide) (by decide) (fun H locs hP hD hS => ?_)
          have hP : va_P (dC, dI) vwCl [(q_p1, .inr (3, [.ref q_p1_words, .int p1_many])), (q_p1_words, .inl (cI, n_p1_words, .inl f_p1_words)), (q_o, .inr (4, [.ref q_o_loopOf, .ref q_o_loops, .int o_fault, .int o_place, .long o_steps])), (q_o_loopOf, .inl (cI, n_o_loopOf, .inl f_o_loopOf))] H := hP.sub [2, 3, 0, 1] rfl
          have hD : va_D A [(q_p1, .inr (3, [.ref q_p1_words, .int p1_many])), (q_p1_words, .inl (cI, n_p1_words, .inl f_p1_words)), (q_o, .inr (4, [.ref q_o_loopOf, .ref q_o_loops, .int o_fault, .int o_place, .long o_steps])), (q_o_loopOf, .inl (cI, n_o_loopOf, .inl f_o_loopOf))] := hD.sub [2, 3, 0, 1] (by decide) rfl
          obtain ⟨r_14, h_13, h⟩ := ch_bind h
          try dsimp only at h
          refine ck_goi (wc := [(q_o, .inr (4, [.ref q_o_loopOf, .ref q_o_loops, .int o_fault, .int o_place, .long o_steps])), (q_o_loopOf, .inl (cI, n_o_loopOf, .inl f_o_loopOf))]) (wr := [(q_p1, .inr (3, [.ref q_p1_words, .int p1_many])), (q_p1_words, .inl (cI, n_p1_words, .inl f_p1_words))]) (w1 := [(q_o, .inr (4, [.ref q_o_loopOf, .ref q_o_loops, .int o_fault, .int o_place, .long o_steps])), (q_o_loopOf, .inl (cI, n_o_loopOf, .inl f_o_loopOf))]) (va_runV (As := [.int r_12]) (rest := [.int r_10]) ⟨hx, hb, hml, hown, hts⟩ (k_Ch_loopAt l dC dI cI cJ r_12 o_fault o_place o_steps n_o_loopOf f_o_loopOf q_o q_o_loopOf q_o_loops r_14 h_13 _) (cwV 1 hts (gw_V tw_435 tw_437 sw_106 tw_5 tw_438) rfl rfl rfl (by decide +kernel) ⟨Nat.le_of_ble_eq_true rfl, Nat.le_of_ble_eq_true rfl⟩) (ck_preV (wc := [(q_o, .inr (4, [.ref q_o_loopOf, .ref q_o_loops, .int o_fault, .int o_place, .long o_steps])), (q_o_loopOf, .inl (cI, n_o_loopOf, .inl f_o_loopOf))]) hK hP hD hS hA hE 2 rfl rfl rfl [2, 3] (by decide) rfl) rfl rfl hl.1 rfl (lv_room (Nat.le_of_ble_eq_true rfl)) d_Ch_firstStray_32 ⟨Nat.le_of_ble_eq_true rfl, Nat.le_of_ble_eq_true rfl⟩) hP hD hS hA [2, 3] [0, 1] rfl rfl (by decide) (by decide) (fun H locs hP hD hS => ?_)
          have hP : va_P (dC, dI) vwCl [(q_p1, .inr (3, [.ref q_p1_words, .int p1_many])), (q_p1_words, .inl (cI, n_p1_words, .inl f_p1_words)), (q_o, .inr (4, [.ref q_o_loopOf, .ref q_o_loops, .int o_fault, .int o_place, .long o_steps])), (q_o_loopOf, .inl (cI, n_o_loopOf, .inl f_o_loopOf))] H := hP.sub [0, 1, 2, 3] rfl
          have hD : va_D A [(q_p1, .inr (3, [.ref q_p1_words, .int p1_many])), (q_p1_words, .inl (cI, n_p1_words, .inl f_p1_words)), (q_o, .inr (4, [.ref q_o_loopOf, .ref q_o_loops, .int o_fault, .int o_place, .long o_steps])), (q_o_loopOf, .inl (cI, n_o_loopOf, .inl f_o_loopOf))] := hD.sub [0, 1, 2, 3] (by decide) rfl
          refine lv_icmp_eq (tgt := 40) hx hb d_Ch_firstStray_35 (by decide) (fun c_15 => ?_) (fun c_15 => ?_)
          · rw [if_pos c_15] at h
            refine lv_iinc (v := (x2 + 1)) (lv' := [(2, .int (x2 + 1)), (0, .ref q_o), (1, .ref q_p1)]) hx hb d_Ch_firstStray_40 hl (k := 2) rfl (by rfl) (by decide) rfl (fun ls hl => ?_)
            refine lv_goto (tgt := 2) hx hb d_Ch_firstStray_43 (by decide) ?_
            exact ih_2 (x2 + 1) h _ _ hP hD hS _ (lv_sub hl [1, 2, 0] rfl)
          · rw [if_neg c_15] at h
            refine lv_iload_n hx hb d_Ch_firstStray_38 rfl (lv_at hl 2 rfl) ?_
            cases h
            exact ck_iret hx hb hr hlk hK hP hD hS d_Ch_firstStray_39
  unfold pf_Ch_firstStray at h
  have hl := lv_entry ([.ref q_o, .ref q_p1]) (n := 3) (Nat.le_of_ble_eq_true rfl)
  rw [lg_entry_eq]
  generalize (lg_sl ([.ref q_o, .ref q_p1]) ++ List.replicate (3 - (lg_sl ([.ref q_o, .ref q_p1])).length) Slot.unset).toArray = ls at hl ⊢
  have hl : lv_has ls 3 [(0, .ref q_o), (1, .ref q_p1)] := hl
  refine lv_iconst (v := 0) hx hb d_Ch_firstStray_0 (by decide) ?_
  refine lv_istore_n (lv' := [(2, .int (0 : Int32)), (0, .ref q_o), (1, .ref q_p1)]) hx hb d_Ch_firstStray_1 rfl hl (by decide) rfl (fun ls hl => ?_)
  exact w_2 fu (0 : Int32) h _ _ hP hD hS _ (lv_sub hl [1, 2, 0] rfl)
