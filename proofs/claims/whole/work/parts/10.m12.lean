def pf_Ru_perform_41 (fu : Nat) (o_store_temporaries_many : Int32) (n_o_store_temporaries_parts : Nat) (o_store_outs_many : Int32) (n_o_store_outs_parts : Nat) (p1_many : Int32) (n_p1_words : Nat) (f_p1_words : Nat → Int32) (o_store_nothing_many : Int32) (n_o_c : Nat) (n_o_store_nothing_parts : Nat) (f_o_store_nothing_parts : Nat → Int32) (o_store_ins_many : Int32) (n_o_store_ins_parts : Nat) (f_o_store_ins_parts : Nat → Int32) (o_store_uniforms_many : Int32) (n_o_store_uniforms_parts : Nat) (f_o_store_uniforms_parts : Nat → Int32) (n_o_b : Nat) (n_o_a : Nat) (n_o_loops_places : Nat) (n_o_loops_counts : Nat) (n_o_result : Nat) (n_o_store_memory : Nat) (f_o_store_memory : Nat → Int32) (o_store_textures_many : Int32) (n_o_store_textures_parts : Nat) (f_o_store_textures_parts : Nat → Int32) : Nat → Int32 → Int32 → Int32 → Int32 → (Nat → Int32) → (Nat → Int32) → Int32 → (Nat → Int32) → (Nat → Int32) → (Nat → Int32) → (Nat → Int32) → (Nat → Int64) → (Nat → Int32) → Option (Int32 × Int32 × Int32 × (Nat → Int32) × (Nat → Int32) × Int32 × (Nat → Int32) × (Nat → Int32) × (Nat → Int32) × (Nat → Int32) × (Nat → Int64) × (Nat → Int32))
  | 0, _, _, _, _, _, _, _, _, _, _, _, _, _ => none
  | n + 1, x2, x3, g_o_place, g_o_isKilled, g_f_o_store_temporaries_parts, g_f_o_store_outs_parts, g_o_loops_depth, g_f_o_c, g_f_o_b, g_f_o_a, g_f_o_loops_places, g_f_o_loops_counts, g_f_o_result =>
    if x3 = 0 then
      some (x2, g_o_place, g_o_isKilled, g_f_o_store_temporaries_parts, g_f_o_store_outs_parts, g_o_loops_depth, g_f_o_c, g_f_o_b, g_f_o_a, g_f_o_loops_places, g_f_o_loops_counts, g_f_o_result)
    else
      if (65536 : Int32) ≤ x2 then
        some (x2, g_o_place, g_o_isKilled, g_f_o_store_temporaries_parts, g_f_o_store_outs_parts, g_o_loops_depth, g_f_o_c, g_f_o_b, g_f_o_a, g_f_o_loops_places, g_f_o_loops_counts, g_f_o_result)
      else
        Option.bind (pf_Ru_step fu g_o_place g_o_isKilled p1_many n_p1_words f_p1_words o_store_nothing_many n_o_c g_f_o_c n_o_store_nothing_parts f_o_store_nothing_parts o_store_temporaries_many n_o_store_temporaries_parts g_f_o_store_temporaries_parts o_store_ins_many n_o_store_ins_parts f_o_store_ins_parts o_store_uniforms_many n_o_store_uniforms_parts f_o_store_uniforms_parts n_o_b g_f_o_b n_o_a g_f_o_a g_o_loops_depth n_o_loops_places g_f_o_loops_places n_o_loops_counts g_f_o_loops_counts n_o_result g_f_o_result n_o_store_memory f_o_store_memory o_store_textures_many n_o_store_textures_parts f_o_store_textures_parts o_store_outs_many n_o_store_outs_parts g_f_o_store_outs_parts) (fun (r_10, w_11, w_12, w_13, w_14, w_15, w_16, w_17, w_18, w_19, w_20, w_21) => 
        pf_Ru_perform_41 fu o_store_temporaries_many n_o_store_temporaries_parts o_store_outs_many n_o_store_outs_parts p1_many n_p1_words f_p1_words o_store_nothing_many n_o_c n_o_store_nothing_parts f_o_store_nothing_parts o_store_ins_many n_o_store_ins_parts f_o_store_ins_parts o_store_uniforms_many n_o_store_uniforms_parts f_o_store_uniforms_parts n_o_b n_o_a n_o_loops_places n_o_loops_counts n_o_result n_o_store_memory f_o_store_memory o_store_textures_many n_o_store_textures_parts f_o_store_textures_parts n (x2 + 1) r_10 w_11 w_12 w_14 w_21 w_17 w_13 w_15 w_16 w_18 w_19 w_20)
def pf_Ru_perform (fu : Nat) (o_store_temporaries_many : Int32) (n_o_store_temporaries_parts : Nat) (f_o_store_temporaries_parts : Nat → Int32) (o_store_outs_many : Int32) (n_o_store_outs_parts : Nat) (f_o_store_outs_parts : Nat → Int32) (p1_many : Int32) (n_p1_words : Nat) (f_p1_words : Nat → Int32) (o_store_nothing_many : Int32) (n_o_c : Nat) (f_o_c : Nat → Int32) (n_o_store_nothing_parts : Nat) (f_o_store_nothing_parts : Nat → Int32) (o_store_ins_many : Int32) (n_o_store_ins_parts : Nat) (f_o_store_ins_parts : Nat → Int32) (o_store_uniforms_many : Int32) (n_o_store_uniforms_parts : Nat) (f_o_store_uniforms_parts : Nat → Int32) (n_o_b : Nat) (f_o_b : Nat → Int32) (n_o_a : Nat) (f_o_a : Nat → Int32) (n_o_loops_places : Nat) (f_o_loops_places : Nat → Int32) (n_o_loops_counts : Nat) (f_o_loops_counts : Nat → Int64) (n_o_result : Nat) (f_o_result : Nat → Int32) (n_o_store_memory : Nat) (f_o_store_memory : Nat → Int32) (o_store_textures_many : Int32) (n_o_store_textures_parts : Nat) (f_o_store_textures_parts : Nat → Int32) : Option (Int32 × Int32 × Int32 × (Nat → Int32) × (Nat → Int32) × Int32 × (Nat → Int32) × (Nat → Int32) × (Nat → Int32) × (Nat → Int32) × (Nat → Int64) × (Nat → Int32)) :=
  Option.bind (pf_Ve_clear fu n_o_store_temporaries_parts f_o_store_temporaries_parts) (fun w_2 => 
  Option.bind (pf_Ve_clear fu n_o_store_outs_parts f_o_store_outs_parts) (fun w_4 => 
  Option.bind (pf_Lo_clear) (fun w_6 => 
  pf_Ru_perform_41 fu o_store_temporaries_many n_o_store_temporaries_parts o_store_outs_many n_o_store_outs_parts p1_many n_p1_words f_p1_words o_store_nothing_many n_o_c n_o_store_nothing_parts f_o_store_nothing_parts o_store_ins_many n_o_store_ins_parts f_o_store_ins_parts o_store_uniforms_many n_o_store_uniforms_parts f_o_store_uniforms_parts n_o_b n_o_a n_o_loops_places n_o_loops_counts n_o_result n_o_store_memory f_o_store_memory o_store_textures_many n_o_store_textures_parts f_o_store_textures_parts fu (0 : Int32) (1 : Int32) (0 : Int32) (0 : Int32) w_2 w_4 w_6 f_o_c f_o_b f_o_a f_o_loops_places f_o_loops_counts f_o_result)))
set_option maxHeartbeats 4000000 in
set_option maxRecDepth 100000 in
theorem k_Ru_perform (l : Launch) (dC : Nat → ClassId) (dI : Nat → Nat → Nat) (cI cJ : ClassId) (fu : Nat) (o_place : Int32) (o_isKilled : Int32) (o_store_temporaries_many : Int32) (n_o_store_temporaries_parts : Nat) (f_o_store_temporaries_parts : Nat → Int32) (o_store_outs_many : Int32) (n_o_store_outs_parts : Nat) (f_o_store_outs_parts : Nat → Int32) (o_loops_depth : Int32) (p1_many : Int32) (n_p1_words : Nat) (f_p1_words : Nat → Int32) (o_store_nothing_many : Int32) (n_o_c : Nat) (f_o_c : Nat → Int32) (n_o_store_nothing_parts : Nat) (f_o_store_nothing_parts : Nat → Int32) (o_store_ins_many : Int32) (n_o_store_ins_parts : Nat) (f_o_store_ins_parts : Nat → Int32) (o_store_uniforms_many : Int32) (n_o_store_uniforms_parts : Nat) (f_o_store_uniforms_parts : Nat → Int32) (n_o_b : Nat) (f_o_b : Nat → Int32) (n_o_a : Nat) (f_o_a : Nat → Int32) (n_o_loops_places : Nat) (f_o_loops_places : Nat → Int32) (n_o_loops_counts : Nat) (f_o_loops_counts : Nat → Int64) (n_o_result : Nat) (f_o_result : Nat → Int32) (n_o_store_memory : Nat) (f_o_store_memory : Nat → Int32) (o_store_textures_many : Int32) (n_o_store_textures_parts : Nat) (f_o_store_textures_parts : Nat → Int32) (q_o : Nat) (q_p1 : Nat) (q_o_store : Nat) (q_o_a : Nat) (q_o_b : Nat) (q_o_c : Nat) (q_o_result : Nat) (q_o_loops : Nat) (q_o_store_memory : Nat) (q_o_store_temporaries : Nat) (q_o_store_ins : Nat) (q_o_store_outs : Nat) (q_o_store_uniforms : Nat) (q_o_store_textures : Nat) (q_o_store_nothing : Nat) (q_o_store_temporaries_parts : Nat) (q_o_store_outs_parts : Nat) (q_o_loops_places : Nat) (q_o_loops_counts : Nat) (q_p1_words : Nat) (q_o_store_nothing_parts : Nat) (q_o_store_ins_parts : Nat) (q_o_store_uniforms_parts : Nat) (q_o_store_textures_parts : Nat) (r : Int32) (o_o_place : Int32) (o_o_isKilled : Int32) (o_f_o_store_temporaries_parts : Nat → Int32) (o_f_o_store_outs_parts : Nat → Int32) (o_o_loops_depth : Int32) (o_f_o_c : Nat → Int32) (o_f_o_b : Nat → Int32) (o_f_o_a : Nat → Int32) (o_f_o_loops_places : Nat → Int32) (o_f_o_loops_counts : Nat → Int64) (o_f_o_result : Nat → Int32) (h : pf_Ru_perform fu o_store_temporaries_many n_o_store_temporaries_parts f_o_store_temporaries_parts o_store_outs_many n_o_store_outs_parts f_o_store_outs_parts p1_many n_p1_words f_p1_words o_store_nothing_many n_o_c f_o_c n_o_store_nothing_parts f_o_store_nothing_parts o_store_ins_many n_o_store_ins_parts f_o_store_ins_parts o_store_uniforms_many n_o_store_uniforms_parts f_o_store_uniforms_parts n_o_b f_o_b n_o_a f_o_a n_o_loops_places f_o_loops_places n_o_loops_counts f_o_loops_counts n_o_result f_o_result n_o_store_memory f_o_store_memory o_store_textures_many n_o_store_textures_parts f_o_store_textures_parts = some (r, o_o_place, o_o_isKilled, o_f_o_store_temporaries_parts, o_f_o_store_outs_parts, o_o_loops_depth, o_f_o_c, o_f_o_b, o_f_o_a, o_f_o_loops_places, o_f_o_loops_counts, o_f_o_result)) : ck_i l y_Ru_perform wm_Ru_perform ({ frames := 5, cells := 0, slots := 0, locals := 116 } : Room) [.ref q_o, .ref q_p1] (dC, dI) [(cI, .int), (cJ, .long)] [(q_o, .inr (5, [.ref q_o_store, .ref q_o_a, .ref q_o_b, .ref q_o_c, .ref q_o_result, .ref q_o_loops, .int o_place, .int o_isKilled])), (q_o_store, .inr (1, [.ref q_o_store_memory, .ref q_o_store_temporaries, .ref q_o_store_ins, .ref q_o_store_outs, .ref q_o_store_uniforms, .ref q_o_store_textures, .ref q_o_store_nothing])), (q_o_store_temporaries, .inr (0, [.int o_store_temporaries_many, .ref q_o_store_temporaries_parts])), (q_o_store_temporaries_parts, .inl (cI, n_o_store_temporaries_parts, .inl f_o_store_temporaries_parts)), (q_o_store_outs, .inr (0, [.int o_store_outs_many, .ref q_o_store_outs_parts])), (q_o_store_outs_parts, .inl (cI, n_o_store_outs_parts, .inl f_o_store_outs_parts)), (q_o_loops, .inr (2, [.ref q_o_loops_places, .ref q_o_loops_counts, .int o_loops_depth])), (q_p1, .inr (3, [.ref q_p1_words, .int p1_many])), (q_p1_words, .inl (cI, n_p1_words, .inl f_p1_words)), (q_o_store_nothing, .inr (0, [.int o_store_nothing_many, .ref q_o_store_nothing_parts])), (q_o_c, .inl (cI, n_o_c, .inl f_o_c)), (q_o_store_nothing_parts, .inl (cI, n_o_store_nothing_parts, .inl f_o_store_nothing_parts)), (q_o_store_ins, .inr (0, [.int o_store_ins_many, .ref q_o_store_ins_parts])), (q_o_store_ins_parts, .inl (cI, n_o_store_ins_parts, .inl f_o_store_ins_parts)), (q_o_store_uniforms, .inr (0, [.int o_store_uniforms_many, .ref q_o_store_uniforms_parts])), (q_o_store_uniforms_parts, .inl (cI, n_o_store_uniforms_parts, .inl f_o_store_uniforms_parts)), (q_o_b, .inl (cI, n_o_b, .inl f_o_b)), (q_o_a, .inl (cI, n_o_a, .inl f_o_a)), (q_o_loops_places, .inl (cI, n_o_loops_places, .inl f_o_loops_places)), (q_o_loops_counts, .inl (cJ, n_o_loops_counts, .inr (.inl f_o_loops_counts))), (q_o_result, .inl (cI, n_o_result, .inl f_o_result)), (q_o_store_memory, .inl (cI, n_o_store_memory, .inl f_o_store_memory)), (q_o_store_textures, .inr (0, [.int o_store_textures_many, .ref q_o_store_textures_parts])), (q_o_store_textures_parts, .inl (cI, n_o_store_textures_parts, .inl f_o_store_textures_parts))] r [(q_o, .inr (5, [.ref q_o_store, .ref q_o_a, .ref q_o_b, .ref q_o_c, .ref q_o_result, .ref q_o_loops, .int o_o_place, .int o_o_isKilled])), (q_o_store, .inr (1, [.ref q_o_store_memory, .ref q_o_store_temporaries, .ref q_o_store_ins, .ref q_o_store_outs, .ref q_o_store_uniforms, .ref q_o_store_textures, .ref q_o_store_nothing])), (q_o_store_temporaries, .inr (0, [.int o_store_temporaries_many, .ref q_o_store_temporaries_parts])), (q_o_store_temporaries_parts, .inl (cI, n_o_store_temporaries_parts, .inl o_f_o_store_temporaries_parts)), (q_o_store_outs, .inr (0, [.int o_store_outs_many, .ref q_o_store_outs_parts])), (q_o_store_outs_parts, .inl (cI, n_o_store_outs_parts, .inl o_f_o_store_outs_parts)), (q_o_loops, .inr (2, [.ref q_o_loops_places, .ref q_o_loops_counts, .int o_o_loops_depth])), (q_p1, .inr (3, [.ref q_p1_words, .int p1_many])), (q_p1_words, .inl (cI, n_p1_words, .inl f_p1_words)), (q_o_store_nothing, .inr (0, [.int o_store_nothing_many, .ref q_o_store_nothing_parts])), (q_o_c, .inl (cI, n_o_c, .inl o_f_o_c)), (q_o_store_nothing_parts, .inl (cI, n_o_store_nothing_parts, .inl f_o_store_nothing_parts)), (q_o_store_ins, .inr (0, [.int o_store_ins_many, .ref q_o_store_ins_parts])), (q_o_store_ins_parts, .inl (cI, n_o_store_ins_parts, .inl f_o_store_ins_parts)), (q_o_store_uniforms, .inr (0, [.int o_store_uniforms_many, .ref q_o_store_uniforms_parts])), (q_o_store_uniforms_parts, .inl (cI, n_o_store_uniforms_parts, .inl f_o_store_uniforms_parts)), (q_o_b, .inl (cI, n_o_b, .inl o_f_o_b)), (q_o_a, .inl (cI, n_o_a, .inl o_f_o_a)), (q_o_loops_places, .inl (cI, n_o_loops_places, .inl o_f_o_loops_places)), (q_o_loops_counts, .inl (cJ, n_o_loops_counts, .inr (.inl o_f_o_loops_counts))), (q_o_result, .inl (cI, n_o_result, .inl o_f_o_result)), (q_o_store_memory, .inl (cI, n_o_store_memory, .inl f_o_store_memory)), (q_o_store_textures, .inr (0, [.int o_store_textures_many, .ref q_o_store_textures_parts])), (q_o_store_textures_parts, .inl (cI, n_o_store_textures_parts, .inl f_o_store_textures_parts))] := by
  refine ck_ofi (cc := c_Ru_perform) (maxL := 4) (ret := (some .int)) (by decide +kernel) rfl ?_
  intro p e s m below meth c A C0 hK hP hD hS hE
  obtain ⟨hx, hb, hr, hml, hown, hts, hlk, hA, hin⟩ := C0
  have w_41 : ∀ (n_41 : Nat) (x2 : Int32) (x3 : Int32) (g_o_place : Int32) (g_o_isKilled : Int32) (g_f_o_store_temporaries_parts : Nat → Int32) (g_f_o_store_outs_parts : Nat → Int32) (g_o_loops_depth : Int32) (g_f_o_c : Nat → Int32) (g_f_o_b : Nat → Int32) (g_f_o_a : Nat → Int32) (g_f_o_loops_places : Nat → Int32) (g_f_o_loops_counts : Nat → Int64) (g_f_o_result : Nat → Int32), pf_Ru_perform_41 fu o_store_temporaries_many n_o_store_temporaries_parts o_store_outs_many n_o_store_outs_parts p1_many n_p1_words f_p1_words o_store_nothing_many n_o_c n_o_store_nothing_parts f_o_store_nothing_parts o_store_ins_many n_o_store_ins_parts f_o_store_ins_parts o_store_uniforms_many n_o_store_uniforms_parts f_o_store_uniforms_parts n_o_b n_o_a n_o_loops_places n_o_loops_counts n_o_result n_o_store_memory f_o_store_memory o_store_textures_many n_o_store_textures_parts f_o_store_textures_parts n_41 x2 x3 g_o_place g_o_isKilled g_f_o_store_temporaries_parts g_f_o_store_outs_parts g_o_loops_depth g_f_o_c g_f_o_b g_f_o_a g_f_o_loops_places g_f_o_loops_counts g_f_o_result = some (r, o_o_place, o_o_isKilled, o_f_o_store_temporaries_parts, o_f_o_store_outs_parts, o_o_loops_depth, o_f_o_c, o_f_o_b, o_f_o_a, o_f_o_loops_places, o_f_o_loops_counts, o_f_o_result) → ∀ (H : Heap) (locs : List Loc), va_P (dC, dI) vwCl [(q_o, .inr (5, [.ref q_o_store, .ref q_o_a, .ref q_o_b, .ref q_o_c, .ref q_o_result, .ref q_o_loops, .int g_o_place, .int g_o_isKilled])), (q_o_store, .inr (1, [.ref q_o_store_memory, .ref q_o_store_temporaries, .ref q_o_store_ins, .ref q_o_store_outs, .ref q_o_store_uniforms, .ref q_o_store_textures, .ref q_o_store_nothing])), (q_o_store_temporaries, .inr (0, [.int o_store_temporaries_many, .ref q_o_store_temporaries_parts])), (q_o_store_temporaries_parts, .inl (cI, n_o_store_temporaries_parts, .inl g_f_o_store_temporaries_parts)), (q_o_store_outs, .inr (0, [.int o_store_outs_many, .ref q_o_store_outs_parts])), (q_o_store_outs_parts, .inl (cI, n_o_store_outs_parts, .inl g_f_o_store_outs_parts)), (q_o_loops, .inr (2, [.ref q_o_loops_places, .ref q_o_loops_counts, .int g_o_loops_depth])), (q_p1, .inr (3, [.ref q_p1_words, .int p1_many])), (q_p1_words, .inl (cI, n_p1_words, .inl f_p1_words)), (q_o_store_nothing, .inr (0, [.int o_store_nothing_many, .ref q_o_store_nothing_parts])), (q_o_c, .inl (cI, n_o_c, .inl g_f_o_c)), (q_o_store_nothing_parts, .inl (cI, n_o_store_nothing_parts, .inl f_o_store_nothing_parts)), (q_o_store_ins, .inr (0, [.int o_store_ins_many, .ref q_o_store_ins_parts])), (q_o_store_ins_parts, .inl (cI, n_o_store_ins_parts, .inl f_o_store_ins_parts)), (q_o_store_uniforms, .inr (0, [.int o_store_uniforms_many, .ref q_o_store_uniforms_parts])), (q_o_store_uniforms_parts, .inl (cI, n_o_store_uniforms_parts, .inl f_o_store_uniforms_parts)), (q_o_b, .inl (cI, n_o_b, .inl g_f_o_b)), (q_o_a, .inl (cI, n_o_a, .inl g_f_o_a)), (q_o_loops_places, .inl (cI, n_o_loops_places, .inl g_f_o_loops_places)), (q_o_loops_counts, .inl (cJ, n_o_loops_counts, .inr (.inl g_f_o_loops_counts))), (q_o_result, .inl (cI, n_o_result, .inl g_f_o_result)), (q_o_store_memory, .inl (cI, n_o_store_memory, .inl f_o_store_memory)), (q_o_store_textures, .inr (0, [.int o_store_textures_many, .ref q_o_store_textures_parts])), (q_o_store_textures_parts, .inl (cI, n_o_store_textures_parts, .inl f_o_store_textures_parts))] H → va_D A [(q_o, .inr (5, [.ref q_o_store, .ref q_o_a, .ref q_o_b, .ref q_o_c, .ref q_o_result, .ref q_o_loops, .int g_o_place, .int g_o_isKilled])), (q_o_store, .inr (1, [.ref q_o_store_memory, .ref q_o_store_temporaries, .ref q_o_store_ins, .ref q_o_store_outs, .ref q_o_store_uniforms, .ref q_o_store_textures, .ref q_o_store_nothing])), (q_o_store_temporaries, .inr (0, [.int o_store_temporaries_many, .ref q_o_store_temporaries_parts])), (q_o_store_temporaries_parts, .inl (cI, n_o_store_temporaries_parts, .inl g_f_o_store_temporaries_parts)), (q_o_store_outs, .inr (0, [.int o_store_outs_many, .ref q_o_store_outs_parts])), (q_o_store_outs_parts, .inl (cI, n_o_store_outs_parts, .inl g_f_o_store_outs_parts)), (q_o_loops, .inr (2, [.ref q_o_loops_places, .ref q_o_loops_counts, .int g_o_loops_depth])), (q_p1, .inr (3, [.ref q_p1_words, .int p1_many])), (q_p1_words, .inl (cI, n_p1_words, .inl f_p1_words)), (q_o_store_nothing, .inr (0, [.int o_store_nothing_many, .ref q_o_store_nothing_parts])), (q_o_c, .inl (cI, n_o_c, .inl g_f_o_c)), (q_o_store_nothing_parts, .inl (cI, n_o_store_nothing_parts, .inl f_o_store_nothing_parts)), (q_o_store_ins, .inr (0, [.int o_store_ins_many, .ref q_o_store_ins_parts])), (q_o_store_ins_parts, .inl (cI, n_o_store_ins_parts, .inl f_o_store_ins_parts)), (q_o_store_uniforms, .inr (0, [.int o_store_uniforms_many, .ref q_o_store_uniforms_parts])), (q_o_store_uniforms_parts, .inl (cI, n_o_store_uniforms_parts, .inl f_o_store_uniforms_parts)), (q_o_b, .inl (cI, n_o_b, .inl g_f_o_b)), (q_o_a, .inl (cI, n_o_a, .inl g_f_o_a)), (q_o_loops_places, .inl (cI, n_o_loops_places, .inl g_f_o_loops_places)), (q_o_loops_counts, .inl (cJ, n_o_loops_counts, .inr (.inl g_f_o_loops_counts))), (q_o_result, .inl (cI, n_o_result, .inl g_f_o_result)), (q_o_store_memory, .inl (cI, n_o_store_memory, .inl f_o_store_memory)), (q_o_store_textures, .inr (0, [.int o_store_textures_many, .ref q_o_store_textures_parts])), (q_o_store_textures_parts, .inl (cI, n_o_store_textures_parts, .inl f_o_store_textures_parts))] → va_S A s.heap H locs → ∀ ls : Array Slot, lv_has ls 4 [(0, .ref q_o), (1, .ref q_p1), (2, .int x2), (3, .int x3)] → W p l e ({ frames := 5, cells := 0, slots := 0, locals := 116 } : Room) s m ([.ref q_o, .ref q_p1] : List Value).toArray below meth c H locs 0 0 (ck_Qi below (dC, dI) [(cI, .int), (cJ, .long)] A ([.ref q_o, .ref q_p1] : List Value).toArray s r [(q_o, .inr (5, [.ref q_o_store, .ref q_o_a, .ref q_o_b, .ref q_o_c, .ref q_o_result, .ref q_o_loops, .int o_o_place, .int o_o_isKilled])), (q_o_store, .inr (1, [.ref q_o_store_memory, .ref q_o_store_temporaries, .ref q_o_store_ins, .ref q_o_store_outs, .ref q_o_store_uniforms, .ref q_o_store_textures, .ref q_o_store_nothing])), (q_o_store_temporaries, .inr (0, [.int o_store_temporaries_many, .ref q_o_store_temporaries_parts])), (q_o_store_temporaries_parts, .inl (cI, n_o_store_temporaries_parts, .inl o_f_o_store_temporaries_parts)), (q_o_store_outs, .inr (0, [.int o_store_outs_many, .ref q_o_store_outs_parts])), (q_o_store_outs_parts, .inl (cI, n_o_store_outs_parts, .inl o_f_o_store_outs_parts)), (q_o_loops, .inr (2, [.ref q_o_loops_places, .ref q_o_loops_counts, .int o_o_loops_depth])), (q_p1, .inr (3, [.ref q_p1_words, .int p1_many])), (q_p1_words, .inl (cI, n_p1_words, .inl f_p1_words)), (q_o_store_nothing, .inr (0, [.int o_store_nothing_many, .ref q_o_store_nothing_parts])), (q_o_c, .inl (cI, n_o_c, .inl o_f_o_c)), (q_o_store_nothing_parts, .inl (cI, n_o_store_nothing_parts, .inl f_o_store_nothing_parts)), (q_o_store_ins, .inr (0, [.int o_store_ins_many, .ref q_o_store_ins_parts])), (q_o_store_ins_parts, .inl (cI, n_o_store_ins_parts, .inl f_o_store_ins_parts)), (q_o_store_uniforms, .inr (0, [.int o_store_uniforms_many, .ref q_o_store_uniforms_parts])), (q_o_store_uniforms_parts, .inl (cI, n_o_store_uniforms_parts, .inl f_o_store_uniforms_parts)), (q_o_b, .inl (cI, n_o_b, .inl o_f_o_b)), (q_o_a, .inl (cI, n_o_a, .inl o_f_o_a)), (q_o_loops_places, .inl (cI, n_o_loops_places, .inl o_f_o_loops_places)), (q_o_loops_counts, .inl (cJ, n_o_loops_counts, .inr (.inl o_f_o_loops_counts))), (q_o_result, .inl (cI, n_o_result, .inl o_f_o_result)), (q_o_store_memory, .inl (cI, n_o_store_memory, .inl f_o_store_memory)), (q_o_store_textures, .inr (0, [.int o_store_textures_many, .ref q_o_store_textures_parts])), (q_o_store_textures_parts, .inl (cI, n_o_store_textures_parts, .inl f_o_store_textures_parts))]) (F0 m 41 ls []) := by
    intro n_41
    induction n_41 with
    | zero =>
      intro x2 x3 g_o_place g_o_isKilled g_f_o_store_temporaries_parts g_f_o_store_outs_parts g_o_loops_depth g_f_o_c g_f_o_b g_f_o_a g_f_o_loops_places g_f_o_loops_counts g_f_o_result h
      cases h
    | succ n_41 ih_41 =>
      intro x2 x3 g_o_place g_o_isKilled g_f_o_store_temporaries_parts g_f_o_store_outs_parts g_o_loops_depth g_f_o_c g_f_o_b g_f_o_a g_f_o_loops_places g_f_o_loops_counts g_f_o_result h H locs hP hD hS ls hl
      rw [pf_Ru_perform_41] at h
      refine lv_iload_n hx hb d_Ru_perform_41 rfl (lv_at hl 3 rfl) ?_
      refine lv_if_eq (tgt := 63) hx hb d_Ru_perform_42 (by decide) (fun c_7 => ?_) (fun c_7 => ?_)
      · rw [if_pos c_7] at h
        refine lv_iload_n hx hb d_Ru_perform_63 rfl (lv_at hl 2 rfl) ?_
        cases h
        exact ck_iret hx hb hr hlk hK hP hD hS d_Ru_perform_64
      · rw [if_neg c_7] at h
        refine lv_iload_n hx hb d_Ru_perform_45 rfl (lv_at hl 2 rfl) ?_
        refine lv_ldc (v := 65536) hx hb hown (hts (.constant R_Ru 58 (65536)) (by decide +kernel)) d_Ru_perform_46 ?_
        refine lv_icmp_ge (tgt := 63) hx hb d_Ru_perform_48 (by decide) (fun c_8 => ?_) (fun c_8 => ?_)
        · rw [if_pos c_8] at h
          refine lv_iload_n hx hb d_Ru_perform_63 rfl (lv_at hl 2 rfl) ?_
          cases h
          exact ck_iret hx hb hr hlk hK hP hD hS d_Ru_perform_64
        · rw [if_neg c_8] at h
          refine lv_iinc (v := (x2 + 1)) (lv' := [(2, .int (x2 + 1)), (0, .ref q_o), (1, .ref q_p1), (3, .int x3)]) hx hb d_Ru_perform_51 hl (k := 2) rfl (by rfl) (by decide) rfl (fun ls hl => ?_)
          refine lv_aload_n hx hb d_Ru_perform_54 rfl (lv_at hl 1 rfl) ?_
          refine lv_aload_n hx hb d_Ru_perform_55 rfl (lv_at hl 2 rfl) ?_
          obtain ⟨⟨r_10, w_11, w_12, w_13, w_14, w_15, w_16, w_17, w_18, w_19, w_20, w_21⟩, h_9, h⟩ := ch_bind h
          try dsimp only at h
          refine ck_goi (wc := [(q_o, .inr (5, [.ref q_o_store, .ref q_o_a, .ref q_o_b, .ref q_o_c, .ref q_o_result, .ref q_o_loops, .int g_o_place, .int g_o_isKilled])), (q_p1, .inr (3, [.ref q_p1_words, .int p1_many])), (q_p1_words, .inl (cI, n_p1_words, .inl f_p1_words)), (q_o_store, .inr (1, [.ref q_o_store_memory, .ref q_o_store_temporaries, .ref q_o_store_ins, .ref q_o_store_outs, .ref q_o_store_uniforms, .ref q_o_store_textures, .ref q_o_store_nothing])), (q_o_store_nothing, .inr (0, [.int o_store_nothing_many, .ref q_o_store_nothing_parts])), (q_o_c, .inl (cI, n_o_c, .inl g_f_o_c)), (q_o_store_nothing_parts, .inl (cI, n_o_store_nothing_parts, .inl f_o_store_nothing_parts)), (q_o_store_temporaries, .inr (0, [.int o_store_temporaries_many, .ref q_o_store_temporaries_parts])), (q_o_store_temporaries_parts, .inl (cI, n_o_store_temporaries_parts, .inl g_f_o_store_temporaries_parts)), (q_o_store_ins, .inr (0, [.int o_store_ins_many, .ref q_o_store_ins_parts])), (q_o_store_ins_parts, .inl (cI, n_o_store_ins_parts, .inl f_o_store_ins_parts)), (q_o_store_uniforms, .inr (0, [.int o_store_uniforms_many, .ref q_o_store_uniforms_parts])), (q_o_store_uniforms_parts, .inl (cI, n_o_store_uniforms_parts, .inl f_o_store_uniforms_parts)), (q_o_b, .inl (cI, n_o_b, .inl g_f_o_b)), (q_o_a, .inl (cI, n_o_a, .inl g_f_o_a)), (q_o_loops, .inr (2, [.ref q_o_loops_places, .ref q_o_loops_counts, .int g_o_loops_depth])), (q_o_loops_places, .inl (cI, n_o_loops_places, .inl g_f_o_loops_places)), (q_o_loops_counts, .inl (cJ, n_o_loops_counts, .inr (.inl g_f_o_loops_counts))), (q_o_result, .inl (cI, n_o_result, .inl g_f_o_result)), (q_o_store_memory, .inl (cI, n_o_store_memory, .inl f_o_store_memory)), (q_o_store_textures, .inr (0, [.int o_store_textures_many, .ref q_o_store_textures_parts])), (q_o_store_textures_parts, .inl (cI, n_o_store_textures_parts, .inl f_o_store_textures_parts)), (q_o_store_outs, .inr (0, [.int o_store_outs_many, .ref q_o_store_outs_parts])), (q_o_store_outs_parts, .inl (cI, n_o_store_outs_parts, .inl g_f_o_store_outs_parts))]) (wr := []) (w1 := [(q_o, .inr (5, [.ref q_o_store, .ref q_o_a, .ref q_o_b, .ref q_o_c, .ref q_o_result, .ref q_o_loops, .int w_11, .int w_12])), (q_p1, .inr (3, [.ref q_p1_words, .int p1_many])), (q_p1_words, .inl (cI, n_p1_words, .inl f_p1_words)), (q_o_store, .inr (1, [.ref q_o_store_memory, .ref q_o_store_temporaries, .ref q_o_store_ins, .ref q_o_store_outs, .ref q_o_store_uniforms, .ref q_o_store_textures, .ref q_o_store_nothing])), (q_o_store_nothing, .inr (0, [.int o_store_nothing_many, .ref q_o_store_nothing_parts])), (q_o_c, .inl (cI, n_o_c, .inl w_13)), (q_o_store_nothing_parts, .inl (cI, n_o_store_nothing_parts, .inl f_o_store_nothing_parts)), (q_o_store_temporaries, .inr (0, [.int o_store_temporaries_many, .ref q_o_store_temporaries_parts])), (q_o_store_temporaries_parts, .inl (cI, n_o_store_temporaries_parts, .inl w_14)), (q_o_store_ins, .inr (0, [.int o_store_ins_many, .ref q_o_store_ins_parts])), (q_o_store_ins_parts, .inl (cI, n_o_store_ins_parts, .inl f_o_store_ins_parts)), (q_o_store_uniforms, .inr (0, [.int o_store_uniforms_many, .ref q_o_store_uniforms_parts])), (q_o_store_uniforms_parts, .inl (cI, n_o_store_uniforms_parts, .inl f_o_store_uniforms_parts)), (q_o_b, .inl (cI, n_o_b, .inl w_15)), (q_o_a, .inl (cI, n_o_a, .inl w_16)), (q_o_loops, .inr (2, [.ref q_o_loops_places, .ref q_o_loops_counts, .int w_17])), (q_o_loops_places, .inl (cI, n_o_loops_places, .inl w_18)), (q_o_loops_counts, .inl (cJ, n_o_loops_counts, .inr (.inl w_19))), (q_o_result, .inl (cI, n_o_result, .inl w_20)), (q_o_store_memory, .inl (cI, n_o_store_memory, .inl f_o_store_memory)), (q_o_store_textures, .inr (0, [.int o_store_textures_many, .ref q_o_store_textures_parts])), (q_o_store_textures_parts, .inl (cI, n_o_store_textures_parts, .inl f_o_store_textures_parts)), (q_o_store_outs, .inr (0, [.int o_store_outs_many, .ref q_o_store_outs_parts])), (q_o_store_outs_parts, .inl (cI, n_o_store_outs_parts, .inl w_21))]) (va_runV (As := [.ref q_p1]) (rest := []) ⟨hx, hb, hml, hown, hts⟩ (k_Ru_step l dC dI cI cJ fu g_o_place g_o_isKilled p1_many n_p1_words f_p1_words o_store_nothing_many n_o_c g_f_o_c n_o_store_nothing_parts f_o_store_nothing_parts o_store_temporaries_many n_o_store_temporaries_parts g_f_o_store_temporaries_parts o_store_ins_many n_o_store_ins_parts f_o_store_ins_parts o_store_uniforms_many n_o_store_uniforms_parts f_o_store_uniforms_parts n_o_b g_f_o_b n_o_a g_f_o_a g_o_loops_depth n_o_loops_places g_f_o_loops_places n_o_loops_counts g_f_o_loops_counts n_o_result g_f_o_result n_o_store_memory f_o_store_memory o_store_textures_many n_o_store_textures_parts f_o_store_textures_parts o_store_outs_many n_o_store_outs_parts g_f_o_store_outs_parts q_o q_p1 q_o_store q_o_a q_o_b q_o_c q_o_result q_o_loops q_p1_words q_o_store_memory q_o_store_temporaries q_o_store_ins q_o_store_outs q_o_store_uniforms q_o_store_textures q_o_store_nothing q_o_store_nothing_parts q_o_store_temporaries_parts q_o_store_ins_parts q_o_store_uniforms_parts q_o_loops_places q_o_loops_counts q_o_store_textures_parts q_o_store_outs_parts r_10 w_11 w_12 w_13 w_14 w_15 w_16 w_17 w_18 w_19 w_20 w_21 h_9 _) (cwV 1 hts (gw_V tw_545 tw_547 sw_340 tw_7 tw_548) rfl rfl rfl (by decide +kernel) ⟨Nat.le_of_ble_eq_true rfl, Nat.le_of_ble_eq_true rfl⟩) (ck_preV (wc := [(q_o, .inr (5, [.ref q_o_store, .ref q_o_a, .ref q_o_b, .ref q_o_c, .ref q_o_result, .ref q_o_loops, .int g_o_place, .int g_o_isKilled])), (q_p1, .inr (3, [.ref q_p1_words, .int p1_many])), (q_p1_words, .inl (cI, n_p1_words, .inl f_p1_words)), (q_o_store, .inr (1, [.ref q_o_store_memory, .ref q_o_store_temporaries, .ref q_o_store_ins, .ref q_o_store_outs, .ref q_o_store_uniforms, .ref q_o_store_textures, .ref q_o_store_nothing])), (q_o_store_nothing, .inr (0, [.int o_store_nothing_many, .ref q_o_store_nothing_parts])), (q_o_c, .inl (cI, n_o_c, .inl g_f_o_c)), (q_o_store_nothing_parts, .inl (cI, n_o_store_nothing_parts, .inl f_o_store_nothing_parts)), (q_o_store_temporaries, .inr (0, [.int o_store_temporaries_many, .ref q_o_store_temporaries_parts])), (q_o_store_temporaries_parts, .inl (cI, n_o_store_temporaries_parts, .inl g_f_o_store_temporaries_parts)), (q_o_store_ins, .inr (0, [.int o_store_ins_many, .ref q_o_store_ins_parts])), (q_o_store_ins_parts, .inl (cI, n_o_store_ins_parts, .inl f_o_store_ins_parts)), (q_o_store_uniforms, .inr (0, [.int o_store_uniforms_many, .ref q_o_store_uniforms_parts])), (q_o_store_uniforms_parts, .inl (cI, n_o_store_uniforms_parts, .inl f_o_store_uniforms_parts)), (q_o_b, .inl (cI, n_o_b, .inl g_f_o_b)), (q_o_a, .inl (cI, n_o_a, .inl g_f_o_a)), (q_o_loops, .inr (2, [.ref q_o_loops_places, .ref q_o_loops_counts, .int g_o_loops_depth])), (q_o_loops_places, .inl (cI, n_o_loops_places, .inl g_f_o_loops_places)), (q_o_loops_counts, .inl (cJ, n_o_loops_counts, .inr (.inl g_f_o_loops_counts))), (q_o_result, .inl (cI, n_o_result, .inl g_f_o_result)), (q_o_store_memory, .inl (cI, n_o_store_memory, .inl f_o_store_memory)), (q_o_store_textures, .inr (0, [.int o_store_textures_many, .ref q_o_store_textures_parts])), (q_o_store_textures_parts, .inl (cI, n_o_store_textures_parts, .inl f_o_store_textures_parts)), (q_o_store_outs, .inr (0, [.int o_store_outs_many, .ref q_o_store_outs_parts])), (q_o_store_outs_parts, .inl (cI, n_o_store_outs_parts, .inl g_f_o_store_outs_parts))]) hK hP hD hS hA hE 0 rfl rfl rfl [0, 7, 8, 1, 9, 10, 11, 2, 3, 12, 13, 14, 15, 16, 17, 6, 18, 19, 20, 21, 22, 23, 4, 5] (by decide) rfl) rfl rfl hl.1 rfl (lv_room (Nat.le_of_ble_eq_true rfl)) d_Ru_perform_56 ⟨Nat.le_of_ble_eq_true rfl, Nat.le_of_ble_eq_true rfl⟩) hP hD hS hA [0, 7, 8, 1, 9, 10, 11, 2, 3, 12, 13, 14, 15, 16, 17, 6, 18, 19, 20, 21, 22, 23, 4, 5] [] rfl rfl (by decide) (by decide) (fun H locs hP hD hS => ?_)
          have hP : va_P (dC, dI) vwCl [(q_o, .inr (5, [.ref q_o_store, .ref q_o_a, .ref q_o_b, .ref q_o_c, .ref q_o_result, .ref q_o_loops, .int w_11, .int w_12])), (q_o_store, .inr (1, [.ref q_o_store_memory, .ref q_o_store_temporaries, .ref q_o_store_ins, .ref q_o_store_outs, .ref q_o_store_uniforms, .ref q_o_store_textures, .ref q_o_store_nothing])), (q_o_store_temporaries, .inr (0, [.int o_store_temporaries_many, .ref q_o_store_temporaries_parts])), (q_o_store_temporaries_parts, .inl (cI, n_o_store_temporaries_parts, .inl w_14)), (q_o_store_outs, .inr (0, [.int o_store_outs_many, .ref q_o_store_outs_parts])), (q_o_store_outs_parts, .inl (cI, n_o_store_outs_parts, .inl w_21)), (q_o_loops, .inr (2, [.ref q_o_loops_places, .ref q_o_loops_counts, .int w_17])), (q_p1, .inr (3, [.ref q_p1_words, .int p1_many])), (q_p1_words, .inl (cI, n_p1_words, .inl f_p1_words)), (q_o_store_nothing, .inr (0, [.int o_store_nothing_many, .ref q_o_store_nothing_parts])), (q_o_c, .inl (cI, n_o_c, .inl w_13)), (q_o_store_nothing_parts, .inl (cI, n_o_store_nothing_parts, .inl f_o_store_nothing_parts)), (q_o_store_ins, .inr (0, [.int o_store_ins_many, .ref q_o_store_ins_parts])), (q_o_store_ins_parts, .inl (cI, n_o_store_ins_parts, .inl f_o_store_ins_parts)), (q_o_store_uniforms, .inr (0, [.int o_store_uniforms_many, .ref q_o_store_uniforms_parts])), (q_o_store_uniforms_parts, .inl (cI, n_o_store_uniforms_parts, .inl f_o_store_uniforms_parts)), (q_o_b, .inl (cI, n_o_b, .inl w_15)), (q_o_a, .inl (cI, n_o_a, .inl w_16)), (q_o_loops_places, .inl (cI, n_o_loops_places, .inl w_18)), (q_o_loops_counts, .inl (cJ, n_o_loops_counts, .inr (.inl w_19))), (q_o_result, .inl (cI, n_o_result, .inl w_20)), (q_o_store_memory, .inl (cI, n_o_store_memory, .inl f_o_store_memory)), (q_o_store_textures, .inr (0, [.int o_store_textures_many, .ref q_o_store_textures_parts])), (q_o_store_textures_parts, .inl (cI, n_o_store_textures_parts, .inl f_o_store_textures_parts))] H := hP.sub [0, 3, 7, 8, 22, 23, 15, 1, 2, 4, 5, 6, 9, 10, 11, 12, 13, 14, 16, 17, 18, 19, 20, 21] rfl
          have hD : va_D A [(q_o, .inr (5, [.ref q_o_store, .ref q_o_a, .ref q_o_b, .ref q_o_c, .ref q_o_result, .ref q_o_loops, .int w_11, .int w_12])), (q_o_store, .inr (1, [.ref q_o_store_memory, .ref q_o_store_temporaries, .ref q_o_store_ins, .ref q_o_store_outs, .ref q_o_store_uniforms, .ref q_o_store_textures, .ref q_o_store_nothing])), (q_o_store_temporaries, .inr (0, [.int o_store_temporaries_many, .ref q_o_store_temporaries_parts])), (q_o_store_temporaries_parts, .inl (cI, n_o_store_temporaries_parts, .inl w_14)), (q_o_store_outs, .inr (0, [.int o_store_outs_many, .ref q_o_store_outs_parts])), (q_o_store_outs_parts, .inl (cI, n_o_store_outs_parts, .inl w_21)), (q_o_loops, .inr (2, [.ref q_o_loops_places, .ref q_o_loops_counts, .int w_17])), (q_p1, .inr (3, [.ref q_p1_words, .int p1_many])), (q_p1_words, .inl (cI, n_p1_words, .inl f_p1_words)), (q_o_store_nothing, .inr (0, [.int o_store_nothing_many, .ref q_o_store_nothing_parts])), (q_o_c, .inl (cI, n_o_c, .inl w_13)), (q_o_store_nothing_parts, .inl (cI, n_o_store_nothing_parts, .inl f_o_store_nothing_parts)), (q_o_store_ins, .inr (0, [.int o_store_ins_many, .ref q_o_store_ins_parts])), (q_o_store_ins_parts, .inl (cI, n_o_store_ins_parts, .inl f_o_store_ins_parts)), (q_o_store_uniforms, .inr (0, [.int o_store_uniforms_many, .ref q_o_store_uniforms_parts])), (q_o_store_uniforms_parts, .inl (cI, n_o_store_uniforms_parts, .inl f_o_store_uniforms_parts)), (q_o_b, .inl (cI, n_o_b, .inl w_15)), (q_o_a, .inl (cI, n_o_a, .inl w_16)), (q_o_loops_places, .inl (cI, n_o_loops_places, .inl w_18)), (q_o_loops_counts, .inl (cJ, n_o_loops_counts, .inr (.inl w_19))), (q_o_result, .inl (cI, n_o_result, .inl w_20)), (q_o_store_memory, .inl (cI, n_o_store_memory, .inl f_o_store_memory)), (q_o_store_textures, .inr (0, [.int o_store_textures_many, .ref q_o_store_textures_parts])), (q_o_store_textures_parts, .inl (cI, n_o_store_textures_parts, .inl f_o_store_textures_parts))] := hD.sub [0, 3, 7, 8, 22, 23, 15, 1, 2, 4, 5, 6, 9, 10, 11, 12, 13, 14, 16, 17, 18, 19, 20, 21] (by decide) rfl
          refine lv_istore_n (lv' := [(3, .int r_10), (2, .int (x2 + 1)), (0, .ref q_o), (1, .ref q_p1)]) hx hb d_Ru_perform_59 rfl hl (by decide) rfl (fun ls hl => ?_)
          refine lv_goto (tgt := 41) hx hb d_Ru_perform_60 (by decide) ?_
          exact ih_41 (x2 + 1) r_10 w_11 w_12 w_14 w_21 w_17 w_13 w_15 w_16 w_18 w_19 w_20 h _ _ hP hD hS _ (lv_sub hl [2, 3, 1, 0] rfl)
  unfold pf_Ru_perform at h
  have hl := lv_entry ([.ref q_o, .ref q_p1]) (n := 4) (Nat.le_of_ble_eq_true rfl)
  rw [lg_entry_eq]
  generalize (lg_sl ([.ref q_o, .ref q_p1]) ++ List.replicate (4 - (lg_sl ([.ref q_o, .ref q_p1])).length) Slot.unset).toArray = ls at hl ⊢
  have hl : lv_has ls 4 [(0, .ref q_o), (1, .ref q_p1)] := hl
  refine lv_aload_n hx hb d_Ru_perform_0 rfl (lv_at hl 0 rfl) ?_
  refine va_get (D := (dC, dI)) (ci := 5) (v := .ref q_o_store) (C := R_Ru) (T := T_Ru) (N := 8) hx hb hts (iw_Ru _) hown hK hP 0 rfl rfl 0 (by decide) (hts (.fieldLink R_Ru 31 "ShaderMachine$Runner" "store" "LShaderMachine$Store;") (List.mem_cons_of_mem _ tw_130)) (fun _ h9 => h9) rfl d_Ru_perform_1 ?_
  refine va_getN (D := (dC, dI)) (ci := 1) (v := .ref q_o_store_temporaries) (C := R_St) (T := T_St) (N := 7) hx hb hts (iw_St _) hown hK hP 1 rfl rfl 1 (by decide) (va_Nw.use rfl (hE.1 (R_Ru, 39, "ShaderMachine$Store", "temporaries", "LShaderMachine$Vectors;", "ShaderMachine") (List.mem_of_getElem? (i := 0) rfl))) (fun _ h9 => h9) rfl d_Ru_perform_4 ?_
  obtain ⟨w_2, h_1, h⟩ := ch_bind h
  try dsimp only at h
  refine ck_gov (wc := [(q_o_store_temporaries, .inr (0, [.int o_store_temporaries_many, .ref q_o_store_temporaries_parts])), (q_o_store_temporaries_parts, .inl (cI, n_o_store_temporaries_parts, .inl f_o_store_temporaries_parts))]) (wr := [(q_o, .inr (5, [.ref q_o_store, .ref q_o_a, .ref q_o_b, .ref q_o_c, .ref q_o_result, .ref q_o_loops, .int o_place, .int o_isKilled])), (q_o_store, .inr (1, [.ref q_o_store_memory, .ref q_o_store_temporaries, .ref q_o_store_ins, .ref q_o_store_outs, .ref q_o_store_uniforms, .ref q_o_store_textures, .ref q_o_store_nothing])), (q_o_store_outs, .inr (0, [.int o_store_outs_many, .ref q_o_store_outs_parts])), (q_o_store_outs_parts, .inl (cI, n_o_store_outs_parts, .inl f_o_store_outs_parts)), (q_o_loops, .inr (2, [.ref q_o_loops_places, .ref q_o_loops_counts, .int o_loops_depth])), (q_p1, .inr (3, [.ref q_p1_words, .int p1_many])), (q_p1_words, .inl (cI, n_p1_words, .inl f_p1_words)), (q_o_store_nothing, .inr (0, [.int o_store_nothing_many, .ref q_o_store_nothing_parts])), (q_o_c, .inl (cI, n_o_c, .inl f_o_c)), (q_o_store_nothing_parts, .inl (cI, n_o_store_nothing_parts, .inl f_o_store_nothing_parts)), (q_o_store_ins, .inr (0, [.int o_store_ins_many, .ref q_o_store_ins_parts])), (q_o_store_ins_parts, .inl (cI, n_o_store_ins_parts, .inl f_o_store_ins_parts)), (q_o_store_uniforms, .inr (0, [.int o_store_uniforms_many, .ref q_o_store_uniforms_parts])), (q_o_store_uniforms_parts, .inl (cI, n_o_store_uniforms_parts, .inl f_o_store_uniforms_parts)), (q_o_b, .inl (cI, n_o_b, .inl f_o_b)), (q_o_a, .inl (cI, n_o_a, .inl f_o_a)), (q_o_loops_places, .inl (cI, n_o_loops_places, .inl f_o_loops_places)), (q_o_loops_counts, .inl (cJ, n_o_loops_counts, .inr (.inl f_o_loops_counts))), (q_o_result, .inl (cI, n_o_result, .inl f_o_result)), (q_o_store_memory, .inl (cI, n_o_store_memory, .inl f_o_store_memory)), (q_o_store_textures, .inr (0, [.int o_store_textures_many, .ref q_o_store_textures_parts])), (q_o_store_textures_parts, .inl (cI, n_o_store_textures_parts, .inl f_o_store_textures_parts))]) (w1 := [(q_o_store_temporaries, .inr (0, [.int o_store_temporaries_many, .ref q_o_store_temporaries_parts])), (q_o_store_temporaries_parts, .inl (cI, n_o_store_temporaries_parts, .inl w_2))]) (va_runV (As := []) (rest := []) ⟨hx, hb, hml, hown, hts⟩ (k_Ve_clear l dC dI cI cJ fu o_store_temporaries_many n_o_store_temporaries_parts f_o_store_temporaries_parts q_o_store_temporaries q_o_store_temporaries_parts w_2 h_1 _) (cwV 0 hts (gw_V tw_536 tw_537 tw_538 tw_3 tw_539) rfl rfl rfl (by decide +kernel) ⟨Nat.le_of_ble_eq_true rfl, Nat.le_of_ble_eq_true rfl⟩) (ck_preV (wc := [(q_o_store_temporaries, .inr (0, [.int o_store_temporaries_many, .ref q_o_store_temporaries_parts])), (q_o_store_temporaries_parts, .inl (cI, n_o_store_temporaries_parts, .inl f_o_store_temporaries_parts))]) hK hP hD hS hA hE 2 rfl rfl rfl [2, 3] (by decide) rfl) rfl rfl hl.1 rfl (lv_room (Nat.le_of_ble_eq_true rfl)) d_Ru_perform_7 ⟨Nat.le_of_ble_eq_true rfl, Nat.le_of_ble_eq_true rfl⟩) hP hD hS hA [2, 3] [0, 1, 4, 5, 6, 7, 8, 9, 10, 11, 12, 13, 14, 15, 16, 17, 18, 19, 20, 21, 22, 23] rfl rfl (by decide) (by decide) (fun H locs hP hD hS => ?_)
  have hP : va_P (dC, dI) vwCl [(q_o, .inr (5, [.ref q_o_store, .ref q_o_a, .ref q_o_b, .ref q_o_c, .ref q_o_result, .ref q_o_loops, .int o_place, .int o_isKilled])), (q_o_store, .inr (1, [.ref q_o_store_memory, .ref q_o_store_temporaries, .ref q_o_store_ins, .ref q_o_store_outs, .ref q_o_store_uniforms, .ref q_o_store_textures, .ref q_o_store_nothing])), (q_o_store_temporaries, .inr (0, [.int o_store_temporaries_many, .ref q_o_store_temporaries_parts])), (q_o_store_temporaries_parts, .inl (cI, n_o_store_temporaries_parts, .inl w_2)), (q_o_store_outs, .inr (0, [.int o_store_outs_many, .ref q_o_store_outs_parts])), (q_o_store_outs_parts, .inl (cI, n_o_store_outs_parts, .inl f_o_store_outs_parts)), (q_o_loops, .inr (2, [.ref q_o_loops_places, .ref q_o_loops_counts, .int o_loops_depth])), (q_p1, .inr (3, [.ref q_p1_words, .int p1_many])), (q_p1_words, .inl (cI, n_p1_words, .inl f_p1_words)), (q_o_store_nothing, .inr (0, [.int o_store_nothing_many, .ref q_o_store_nothing_parts])), (q_o_c, .inl (cI, n_o_c, .inl f_o_c)), (q_o_store_nothing_parts, .inl (cI, n_o_store_nothing_parts, .inl f_o_store_nothing_parts)), (q_o_store_ins, .inr (0, [.int o_store_ins_many, .ref q_o_store_ins_parts])), (q_o_store_ins_parts, .inl (cI, n_o_store_ins_parts, .inl f_o_store_ins_parts)), (q_o_store_uniforms, .inr (0, [.int o_store_uniforms_many, .ref q_o_store_uniforms_parts])), (q_o_store_uniforms_parts, .inl (cI, n_o_store_uniforms_parts, .inl f_o_store_uniforms_parts)), (q_o_b, .inl (cI, n_o_b, .inl f_o_b)), (q_o_a, .inl (cI, n_o_a, .inl f_o_a)), (q_o_loops_places, .inl (cI, n_o_loops_places, .inl f_o_loops_places)), (q_o_loops_counts, .inl (cJ, n_o_loops_counts, .inr (.inl f_o_loops_counts))), (q_o_result, .inl (cI, n_o_result, .inl f_o_result)), (q_o_store_memory, .inl (cI, n_o_store_memory, .inl f_o_store_memory)), (q_o_store_textures, .inr (0, [.int o_store_textures_many, .ref q_o_store_textures_parts])), (q_o_store_textures_parts, .inl (cI, n_o_store_textures_parts, .inl f_o_store_textures_parts))] H := hP.sub [0, 1, 22, 23, 2, 3, 4, 5, 6, 7, 8, 9, 10, 11, 12, 13, 14, 15, 16, 17, 18, 19, 20, 21] rfl
  have hD : va_D A [(q_o, .inr (5, [.ref q_o_store, .ref q_o_a, .ref q_o_b, .ref q_o_c, .ref q_o_result, .ref q_o_loops, .int o_place, .int o_isKilled])), (q_o_store, .inr (1, [.ref q_o_store_memory, .ref q_o_store_temporaries, .ref q_o_store_ins, .ref q_o_store_outs, .ref q_o_store_uniforms, .ref q_o_store_textures, .ref q_o_store_nothing])), (q_o_store_temporaries, .inr (0, [.int o_store_temporaries_many, .ref q_o_store_temporaries_parts])), (q_o_store_temporaries_parts, .inl (cI, n_o_store_temporaries_parts, .inl w_2)), (q_o_store_outs, .inr (0, [.int o_store_outs_many, .ref q_o_store_outs_parts])), (q_o_store_outs_parts, .inl (cI, n_o_store_outs_parts, .inl f_o_store_outs_parts)), (q_o_loops, .inr (2, [.ref q_o_loops_places, .ref q_o_loops_counts, .int o_loops_depth])), (q_p1, .inr (3, [.ref q_p1_words, .int p1_many])), (q_p1_words, .inl (cI, n_p1_words, .inl f_p1_words)), (q_o_store_nothing, .inr (0, [.int o_store_nothing_many, .ref q_o_store_nothing_parts])), (q_o_c, .inl (cI, n_o_c, .inl f_o_c)), (q_o_store_nothing_parts, .inl (cI, n_o_store_nothing_parts, .inl f_o_store_nothing_parts)), (q_o_store_ins, .inr (0, [.int o_store_ins_many, .ref q_o_store_ins_parts])), (q_o_store_ins_parts, .inl (cI, n_o_store_ins_parts, .inl f_o_store_ins_parts)), (q_o_store_uniforms, .inr (0, [.int o_store_uniforms_many, .ref q_o_store_uniforms_parts])), (q_o_store_uniforms_parts, .inl (cI, n_o_store_uniforms_parts, .inl f_o_store_uniforms_parts)), (q_o_b, .inl (cI, n_o_b, .inl f_o_b)), (q_o_a, .inl (cI, n_o_a, .inl f_o_a)), (q_o_loops_places, .inl (cI, n_o_loops_places, .inl f_o_loops_places)), (q_o_loops_counts, .inl (cJ, n_o_loops_counts, .inr (.inl f_o_loops_counts))), (q_o_result, .inl (cI, n_o_result, .inl f_o_result)), (q_o_store_memory, .inl (cI, n_o_store_memory, .inl f_o_store_memory)), (q_o_store_textures, .inr (0, [.int o_store_textures_many, .ref q_o_store_textures_parts])), (q_o_store_textures_parts, .inl (cI, n_o_store_textures_parts, .inl f_o_store_textures_parts))] := hD.sub [0, 1, 22, 23, 2, 3, 4, 5, 6, 7, 8, 9, 10, 11, 12, 13, 14, 15, 16, 17, 18, 19, 20, 21] (by decide) rfl
  refine lv_aload_n hx hb d_Ru_perform_10 rfl (lv_at hl 0 rfl) ?_
  refine va_get (D := (dC, dI)) (ci := 5) (v := .ref q_o_store) (C := R_Ru) (T := T_Ru) (N := 8) hx hb hts (iw_Ru _) hown hK hP 0 rfl rfl 0 (by decide) (hts (.fieldLink R_Ru 31 "ShaderMachine$Runner" "store" "LShaderMachine$Store;") (List.mem_cons_of_mem _ tw_130)) (fun _ h9 => h9) rfl d_Ru_perform_11 ?_
  refine va_getN (D := (dC, dI)) (ci := 1) (v := .ref q_o_store_outs) (C := R_St) (T := T_St) (N := 7) hx hb hts (iw_St _) hown hK hP 1 rfl rfl 3 (by decide) (va_Nw.use rfl (hE.1 (R_Ru, 48, "ShaderMachine$Store", "outs", "LShaderMachine$Vectors;", "ShaderMachine") (List.mem_of_getElem? (i := 3) rfl))) (fun _ h9 => h9) rfl d_Ru_perform_14 ?_
  obtain ⟨w_4, h_3, h⟩ := ch_bind h
  try dsimp only at h
  refine ck_gov (wc := [(q_o_store_outs, .inr (0, [.int o_store_outs_many, .ref q_o_store_outs_parts])), (q_o_store_outs_parts, .inl (cI, n_o_store_outs_parts, .inl f_o_store_outs_parts))]) (wr := [(q_o, .inr (5, [.ref q_o_store, .ref q_o_a, .ref q_o_b, .ref q_o_c, .ref q_o_result, .ref q_o_loops, .int o_place, .int o_isKilled])), (q_o_store, .inr (1, [.ref q_o_store_memory, .ref q_o_store_temporaries, .ref q_o_store_ins, .ref q_o_store_outs, .ref q_o_store_uniforms, .ref q_o_store_textures, .ref q_o_store_nothing])), (q_o_store_temporaries, .inr (0, [.int o_store_temporaries_many, .ref q_o_store_temporaries_parts])), (q_o_store_temporaries_parts, .inl (cI, n_o_store_temporaries_parts, .inl w_2)), (q_o_loops, .inr (2, [.ref q_o_loops_places, .ref q_o_loops_counts, .int o_loops_depth])), (q_p1, .inr (3, [.ref q_p1_words, .int p1_many])), (q_p1_words, .inl (cI, n_p1_words, .inl f_p1_words)), (q_o_store_nothing, .inr (0, [.int o_store_nothing_many, .ref q_o_store_nothing_parts])), (q_o_c, .inl (cI, n_o_c, .inl f_o_c)), (q_o_store_nothing_parts, .inl (cI, n_o_store_nothing_parts, .inl f_o_store_nothing_parts)), (q_o_store_ins, .inr (0, [.int o_store_ins_many, .ref q_o_store_ins_parts])), (q_o_store_ins_parts, .inl (cI, n_o_store_ins_parts, .inl f_o_store_ins_parts)), (q_o_store_uniforms, .inr (0, [.int o_store_uniforms_many, .ref q_o_store_uniforms_parts])), (q_o_store_uniforms_parts, .inl (cI, n_o_store_uniforms_parts, .inl f_o_store_uniforms_parts)), (q_o_b, .inl (cI, n_o_b, .inl f_o_b)), (q_o_a, .inl (cI, n_o_a, .inl f_o_a)), (q_o_loops_places, .inl (cI, n_o_loops_places, .inl f_o_loops_places)), (q_o_loops_counts, .inl (cJ, n_o_loops_counts, .inr (.inl f_o_loops_counts))), (q_o_result, .inl (cI, n_o_result, .inl f_o_result)), (q_o_store_memory, .inl (cI, n_o_store_memory, .inl f_o_store_memory)), (q_o_store_textures, .inr (0, [.int o_store_textures_many, .ref q_o_store_textures_parts])), (q_o_store_textures_parts, .inl (cI, n_o_store_textures_parts, .inl f_o_store_textures_parts))]) (w1 := [(q_o_store_outs, .inr (0, [.int o_store_outs_many, .ref q_o_store_outs_parts])), (q_o_store_outs_parts, .inl (cI, n_o_store_outs_parts, .inl w_4))]) (va_runV (As := []) (rest := []) ⟨hx, hb, hml, hown, hts⟩ (k_Ve_clear l dC dI cI cJ fu o_store_outs_many n_o_store_outs_parts f_o_store_outs_parts q_o_store_outs q_o_store_outs_parts w_4 h_3 _) (cwV 0 hts (gw_V tw_536 tw_537 tw_538 tw_3 tw_539) rfl rfl rfl (by decide +kernel) ⟨Nat.le_of_ble_eq_true rfl, Nat.le_of_ble_eq_true rfl⟩) (ck_preV (wc := [(q_o_store_outs, .inr (0, [.int o_store_outs_many, .ref q_o_store_outs_parts])), (q_o_store_outs_parts, .inl (cI, n_o_store_outs_parts, .inl f_o_store_outs_parts))]) hK hP hD hS hA hE 4 rfl rfl rfl [4, 5] (by decide) rfl) rfl rfl hl.1 rfl (lv_room (Nat.le_of_ble_eq_true rfl)) d_Ru_perform_17 ⟨Nat.le_of_ble_eq_true rfl, Nat.le_of_ble_eq_true rfl⟩) hP hD hS hA [4, 5] [0, 1, 2, 3, 6, 7, 8, 9, 10, 11, 12, 13, 14, 15, 16, 17, 18, 19, 20, 21, 22, 23] rfl rfl (by decide) (by decide) (fun H locs hP hD hS => ?_)
  have hP : va_P (dC, dI) vwCl [(q_o, .inr (5, [.ref q_o_store, .ref q_o_a, .ref q_o_b, .ref q_o_c, .ref q_o_result, .ref q_o_loops, .int o_place, .int o_isKilled])), (q_o_store, .inr (1, [.ref q_o_store_memory, .ref q_o_store_temporaries, .ref q_o_store_ins, .ref q_o_store_outs, .ref q_o_store_uniforms, .ref q_o_store_textures, .ref q_o_store_nothing])), (q_o_store_temporaries, .inr (0, [.int o_store_temporaries_many, .ref q_o_store_temporaries_parts])), (q_o_store_temporaries_parts, .inl (cI, n_o_store_temporaries_parts, .inl w_2)), (q_o_store_outs, .inr (0, [.int o_store_outs_many, .ref q_o_store_outs_parts])), (q_o_store_outs_parts, .inl (cI, n_o_store_outs_parts, .inl w_4)), (q_o_loops, .inr (2, [.ref q_o_loops_places, .ref q_o_loops_counts, .int o_loops_depth])), (q_p1, .inr (3, [.ref q_p1_words, .int p1_many])), (q_p1_words, .inl (cI, n_p1_words, .inl f_p1_words)), (q_o_store_nothing, .inr (0, [.int o_store_nothing_many, .ref q_o_store_nothing_parts])), (q_o_c, .inl (cI, n_o_c, .inl f_o_c)), (q_o_store_nothing_parts, .inl (cI, n_o_store_nothing_parts, .inl f_o_store_nothing_parts)), (q_o_store_ins, .inr (0, [.int o_store_ins_many, .ref q_o_store_ins_parts])), (q_o_store_ins_parts, .inl (cI, n_o_store_ins_parts, .inl f_o_store_ins_parts)), (q_o_store_uniforms, .inr (0, [.int o_store_uniforms_many, .ref q_o_store_uniforms_parts])), (q_o_store_uniforms_parts, .inl (cI, n_o_store_uniforms_parts, .inl f_o_store_uniforms_parts)), (q_o_b, .inl (cI, n_o_b, .inl f_o_b)), (q_o_a, .inl (cI, n_o_a, .inl f_o_a)), (q_o_loops_places, .inl (cI, n_o_loops_places, .inl f_o_loops_places)), (q_o_loops_counts, .inl (cJ, n_o_loops_counts, .inr (.inl f_o_loops_counts))), (q_o_result, .inl (cI, n_o_result, .inl f_o_result)), (q_o_store_memory, .inl (cI, n_o_store_memory, .inl f_o_store_memory)), (q_o_store_textures, .inr (0, [.int o_store_textures_many, .ref q_o_store_textures_parts])), (q_o_store_textures_parts, .inl (cI, n_o_store_textures_parts, .inl f_o_store_textures_parts))] H := hP.sub [0, 1, 2, 3, 22, 23, 4, 5, 6, 7, 8, 9, 10, 11, 12, 13, 14, 15, 16, 17, 18, 19, 20, 21] rfl
  have hD : va_D A [(q_o, .inr (5, [.ref q_o_store, .ref q_o_a, .ref q_o_b, .ref q_o_c, .ref q_o_result, .ref q_o_loops, .int o_place, .int o_isKilled])), (q_o_store, .inr (1, [.ref q_o_store_memory, .ref q_o_store_temporaries, .ref q_o_store_ins, .ref q_o_store_outs, .ref q_o_store_uniforms, .ref q_o_store_textures, .ref q_o_store_nothing])), (q_o_store_temporaries, .inr (0, [.int o_store_temporaries_many, .ref q_o_store_temporaries_parts])), (q_o_store_temporaries_parts, .inl (cI, n_o_store_temporaries_parts, .inl w_2)), (q_o_store_outs, .inr (0, [.int o_store_outs_many, .ref q_o_store_outs_parts])), (q_o_store_outs_parts, .inl (cI, n_o_store_outs_parts, .inl w_4)), (q_o_loops, .inr (2, [.ref q_o_loops_places, .ref q_o_loops_counts, .int o_loops_depth])), (q_p1, .inr (3, [.ref q_p1_words, .int p1_many])), (q_p1_words, .inl (cI, n_p1_words, .inl f_p1_words)), (q_o_store_nothing, .inr (0, [.int o_store_nothing_many, .ref q_o_store_nothing_parts])), (q_o_c, .inl (cI, n_o_c, .inl f_o_c)), (q_o_store_nothing_parts, .inl (cI, n_o_store_nothing_parts, .inl f_o_store_nothing_parts)), (q_o_store_ins, .inr (0, [.int o_store_ins_many, .ref q_o_store_ins_parts])), (q_o_store_ins_parts, .inl (cI, n_o_store_ins_parts, .inl f_o_store_ins_parts)), (q_o_store_uniforms, .inr (0, [.int o_store_uniforms_many, .ref q_o_store_uniforms_parts])), (q_o_store_uniforms_parts, .inl (cI, n_o_store_uniforms_parts, .inl f_o_store_uniforms_parts)), (q_o_b, .inl (cI, n_o_b, .inl f_o_b)), (q_o_a, .inl (cI, n_o_a, .inl f_o_a)), (q_o_loops_places, .inl (cI, n_o_loops_places, .inl f_o_loops_places)), (q_o_loops_counts, .inl (cJ, n_o_loops_counts, .inr (.inl f_o_loops_counts))), (q_o_result, .inl (cI, n_o_result, .inl f_o_result)), (q_o_store_memory, .inl (cI, n_o_store_memory, .inl f_o_store_memory)), (q_o_store_textures, .inr (0, [.int o_store_textures_many, .ref q_o_store_textures_parts])), (q_o_store_textures_parts, .inl (cI, n_o_store_textures_parts, .inl f_o_store_textures_parts))] := hD.sub [0, 1, 2, 3, 22, 23, 4, 5, 6, 7, 8, 9, 10, 11, 12, 13, 14, 15, 16, 17, 18, 19, 20, 21] (by decide) rfl
  refine lv_aload_n hx hb d_Ru_perform_20 rfl (lv_at hl 0 rfl) ?_
  refine va_get (D := (dC, dI)) (ci := 5) (v := .ref q_o_loops) (C := R_Ru) (T := T_Ru) (N := 8) hx hb hts (iw_Ru _) hown hK hP 0 rfl rfl 5 (by decide) (hts (.fieldLink R_Ru 27 "ShaderMachine$Runner" "loops" "LShaderMachine$Loops;") (List.mem_cons_of_mem _ tw_135)) (fun _ h9 => h9) rfl d_Ru_perform_21 ?_
  obtain ⟨w_6, h_5, h⟩ := ch_bind h
  try dsimp only at h
  refine ck_gov (wc := [(q_o_loops, .inr (2, [.ref q_o_loops_places, .ref q_o_loops_counts, .int o_loops_depth]))]) (wr := [(q_o, .inr (5, [.ref q_o_store, .ref q_o_a, .ref q_o_b, .ref q_o_c, .ref q_o_result, .ref q_o_loops, .int o_place, .int o_isKilled])), (q_o_store, .inr (1, [.ref q_o_store_memory, .ref q_o_store_temporaries, .ref q_o_store_ins, .ref q_o_store_outs, .ref q_o_store_uniforms, .ref q_o_store_textures, .ref q_o_store_nothing])), (q_o_store_temporaries, .inr (0, [.int o_store_temporaries_many, .ref q_o_store_temporaries_parts])), (q_o_store_temporaries_parts, .inl (cI, n_o_store_temporaries_parts, .inl w_2)), (q_o_store_outs, .inr (0, [.int o_store_outs_many, .ref q_o_store_outs_parts])), (q_o_store_outs_parts, .inl (cI, n_o_store_outs_parts, .inl w_4)), (q_p1, .inr (3, [.ref q_p1_words, .int p1_many])), (q_p1_words, .inl (cI, n_p1_words, .inl f_p1_words)), (q_o_store_nothing, .inr (0, [.int o_store_nothing_many, .ref q_o_store_nothing_parts])), (q_o_c, .inl (cI, n_o_c, .inl f_o_c)), (q_o_store_nothing_parts, .inl (cI, n_o_store_nothing_parts, .inl f_o_store_nothing_parts)), (q_o_store_ins, .inr (0, [.int o_store_ins_many, .ref q_o_store_ins_parts])), (q_o_store_ins_parts, .inl (cI, n_o_store_ins_parts, .inl f_o_store_ins_parts)), (q_o_store_uniforms, .inr (0, [.int o_store_uniforms_many, .ref q_o_store_uniforms_parts])), (q_o_store_uniforms_parts, .inl (cI, n_o_store_uniforms_parts, .inl f_o_store_uniforms_parts)), (q_o_b, .inl (cI, n_o_b, .inl f_o_b)), (q_o_a, .inl (cI, n_o_a, .inl f_o_a)), (q_o_loops_places, .inl (cI, n_o_loops_places, .inl f_o_loops_places)), (q_o_loops_counts, .inl (cJ, n_o_loops_counts, .inr (.inl f_o_loops_counts))), (q_o_result, .inl (cI, n_o_result, .inl f_o_result)), (q_o_store_memory, .inl (cI, n_o_store_memory, .inl f_o_store_memory)), (q_o_store_textures, .inr (0, [.int o_store_textures_many, .ref q_o_store_textures_parts])), (q_o_store_textures_parts, .inl (cI, n_o_store_textures_parts, .inl f_o_store_textures_parts))]) (w1 := [(q_o_loops, .inr (2, [.ref q_o_loops_places, .ref q_o_loops_counts, .int w_6]))]) (va_runV (As := []) (rest := []) ⟨hx, hb, hml, hown, hts⟩ (k_Lo_clear l dC dI cI cJ o_loops_depth q_o_loops q_o_loops_places q_o_loops_counts w_6 h_5 _) (cwV 0 hts (gw_V tw_543 tw_320 tw_321 tw_6 tw_322) rfl rfl rfl (by decide +kernel) ⟨Nat.le_of_ble_eq_true rfl, Nat.le_of_ble_eq_true rfl⟩) (ck_preV (wc := [(q_o_loops, .inr (2, [.ref q_o_loops_places, .ref q_o_loops_counts, .int o_loops_depth]))]) hK hP hD hS hA hE 6 rfl rfl rfl [6] (by decide) rfl) rfl rfl hl.1 rfl (lv_room (Nat.le_of_ble_eq_true rfl)) d_Ru_perform_24 ⟨Nat.le_of_ble_eq_true rfl, Nat.le_of_ble_eq_true rfl⟩) hP hD hS hA [6] [0, 1, 2, 3, 4, 5, 7, 8, 9, 10, 11, 12, 13, 14, 15, 16, 17, 18, 19, 20, 21, 22, 23] rfl rfl (by decide) (by decide) (fun H locs hP hD hS => ?_)
  have hP : va_P (dC, dI) vwCl [(q_o, .inr (5, [.ref q_o_store, .ref q_o_a, .ref q_o_b, .ref q_o_c, .ref q_o_result, .ref q_o_loops, .int o_place, .int o_isKilled])), (q_o_store, .inr (1, [.ref q_o_store_memory, .ref q_o_store_temporaries, .ref q_o_store_ins, .ref q_o_store_outs, .ref q_o_store_uniforms, .ref q_o_store_textures, .ref q_o_store_nothing])), (q_o_store_temporaries, .inr (0, [.int o_store_temporaries_many, .ref q_o_store_temporaries_parts])), (q_o_store_temporaries_parts, .inl (cI, n_o_store_temporaries_parts, .inl w_2)), (q_o_store_outs, .inr (0, [.int o_store_outs_many, .ref q_o_store_outs_parts])), (q_o_store_outs_parts, .inl (cI, n_o_store_outs_parts, .inl w_4)), (q_o_loops, .inr (2, [.ref q_o_loops_places, .ref q_o_loops_counts, .int w_6])), (q_p1, .inr (3, [.ref q_p1_words, .int p1_many])), (q_p1_words, .inl (cI, n_p1_words, .inl f_p1_words)), (q_o_store_nothing, .inr (0, [.int o_store_nothing_many, .ref q_o_store_nothing_parts])), (q_o_c, .inl (cI, n_o_c, .inl f_o_c)), (q_o_store_nothing_parts, .inl (cI, n_o_store_nothing_parts, .inl f_o_store_nothing_parts)), (q_o_store_ins, .inr (0, [.int o_store_ins_many, .ref q_o_store_ins_parts])), (q_o_store_ins_parts, .inl (cI, n_o_store_ins_parts, .inl f_o_store_ins_parts)), (q_o_store_uniforms, .inr (0, [.int o_store_uniforms_many, .ref q_o_store_uniforms_parts])), (q_o_store_uniforms_parts, .inl (cI, n_o_store_uniforms_parts, .inl f_o_store_uniforms_parts)), (q_o_b, .inl (cI, n_o_b, .inl f_o_b)), (q_o_a, .inl (cI, n_o_a, .inl f_o_a)), (q_o_loops_places, .inl (cI, n_o_loops_places, .inl f_o_loops_places)), (q_o_loops_counts, .inl (cJ, n_o_loops_counts, .inr (.inl f_o_loops_counts))), (q_o_result, .inl (cI, n_o_result, .inl f_o_result)), (q_o_store_memory, .inl (cI, n_o_store_memory, .inl f_o_store_memory)), (q_o_store_textures, .inr (0, [.int o_store_textures_many, .ref q_o_store_textures_parts])), (q_o_store_textures_parts, .inl (cI, n_o_store_textures_parts, .inl f_o_store_textures_parts))] H := hP.sub [0, 1, 2, 3, 4, 5, 23, 6, 7, 8, 9, 10, 11, 12, 13, 14, 15, 16, 17, 18, 19, 20, 21, 22] rfl
  have hD : va_D A [(q_o, .inr (5, [.ref q_o_store, .ref q_o_a, .ref q_o_b, .ref q_o_c, .ref q_o_result, .ref q_o_loops, .int o_place, .int o_isKilled])), (q_o_store, .inr (1, [.ref q_o_store_memory, .ref q_o_store_temporaries, .ref q_o_store_ins, .ref q_o_store_outs, .ref q_o_store_uniforms, .ref q_o_store_textures, .ref q_o_store_nothing])), (q_o_store_temporaries, .inr (0, [.int o_store_temporaries_many, .ref q_o_store_temporaries_parts])), (q_o_store_temporaries_parts, .inl (cI, n_o_store_temporaries_parts, .inl w_2)), (q_o_store_outs, .inr (0, [.int o_store_outs_many, .ref q_o_store_outs_parts])), (q_o_store_outs_parts, .inl (cI, n_o_store_outs_parts, .inl w_4)), (q_o_loops, .inr (2, [.ref q_o_loops_places, .ref q_o_loops_counts, .int w_6])), (q_p1, .inr (3, [.ref q_p1_words, .int p1_many])), (q_p1_words, .inl (cI, n_p1_words, .inl f_p1_words)), (q_o_store_nothing, .inr (0, [.int o_store_nothing_many, .ref q_o_store_nothing_parts])), (q_o_c, .inl (cI, n_o_c, .inl f_o_c)), (q_o_store_nothing_parts, .inl (cI, n_o_store_nothing_parts, .inl f_o_store_nothing_parts)), (q_o_store_ins, .inr (0, [.int o_store_ins_many, .ref q_o_store_ins_parts])), (q_o_store_ins_parts, .inl (cI, n_o_store_ins_parts, .inl f_o_store_ins_parts)), (q_o_store_uniforms, .inr (0, [.int o_store_uniforms_many, .ref q_o_store_uniforms_parts])), (q_o_store_uniforms_parts, .inl (cI, n_o_store_uniforms_parts, .inl f_o_store_uniforms_parts)), (q_o_b, .inl (cI, n_o_b, .inl f_o_b)), (q_o_a, .inl (cI, n_o_a, .inl f_o_a)), (q_o_loops_places, .inl (cI, n_o_loops_places, .inl f_o_loops_places)), (q_o_loops_counts, .inl (cJ, n_o_loops_counts, .inr (.inl f_o_loops_counts))), (q_o_result, .inl (cI, n_o_result, .inl f_o_result)), (q_o_store_memory, .inl (cI, n_o_store_memory, .inl f_o_store_memory)), (q_o_store_textures, .inr (0, [.int o_store_textures_many, .ref q_o_store_textures_parts])), (q_o_store_textures_parts, .inl (cI, n_o_store_textures_parts, .inl f_o_store_textures_parts))] := hD.sub [0, 1, 2, 3, 4, 5, 23, 6, 7, 8, 9, 10, 11, 12, 13, 14, 15, 16, 17, 18, 19, 20, 21, 22] (by decide) rfl
  refine lv_aload_n hx hb d_Ru_perform_27 rfl (lv_at hl 0 rfl) ?_
  refine lv_iconst (v := 0) hx hb d_Ru_perform_28 (by decide) ?_
  refine va_put (D := (dC, dI)) (ci := 5) (v := .int (0 : Int32)) (ty := .int) (C := R_Ru) (T := T_Ru) (N := 8) hx hb hts (iw_Ru _) ty_Ru tk_Ru nd_Ru hown hK hP hD hS 0 rfl rfl 6 (by decide) (hts (.fieldLink R_Ru 52 "ShaderMachine$Runner" "place" "I") (List.mem_cons_of_mem _ tw_136)) (fun _ h9 => h9) rfl (by decide +kernel) rfl rfl (Nat.le_of_ble_eq_true rfl) d_Ru_perform_29 (fun H locs hP hD hS => ?_)
  have hP : va_P (dC, dI) vwCl [(q_o, .inr (5, [.ref q_o_store, .ref q_o_a, .ref q_o_b, .ref q_o_c, .ref q_o_result, .ref q_o_loops, .int (0 : Int32), .int o_isKilled])), (q_o_store, .inr (1, [.ref q_o_store_memory, .ref q_o_store_temporaries, .ref q_o_store_ins, .ref q_o_store_outs, .ref q_o_store_uniforms, .ref q_o_store_textures, .ref q_o_store_nothing])), (q_o_store_temporaries, .inr (0, [.int o_store_temporaries_many, .ref q_o_store_temporaries_parts])), (q_o_store_temporaries_parts, .inl (cI, n_o_store_temporaries_parts, .inl w_2)), (q_o_store_outs, .inr (0, [.int o_store_outs_many, .ref q_o_store_outs_parts])), (q_o_store_outs_parts, .inl (cI, n_o_store_outs_parts, .inl w_4)), (q_o_loops, .inr (2, [.ref q_o_loops_places, .ref q_o_loops_counts, .int w_6])), (q_p1, .inr (3, [.ref q_p1_words, .int p1_many])), (q_p1_words, .inl (cI, n_p1_words, .inl f_p1_words)), (q_o_store_nothing, .inr (0, [.int o_store_nothing_many, .ref q_o_store_nothing_parts])), (q_o_c, .inl (cI, n_o_c, .inl f_o_c)), (q_o_store_nothing_parts, .inl (cI, n_o_store_nothing_parts, .inl f_o_store_nothing_parts)), (q_o_store_ins, .inr (0, [.int o_store_ins_many, .ref q_o_store_ins_parts])), (q_o_store_ins_parts, .inl (cI, n_o_store_ins_parts, .inl f_o_store_ins_parts)), (q_o_store_uniforms, .inr (0, [.int o_store_uniforms_many, .ref q_o_store_uniforms_parts])), (q_o_store_uniforms_parts, .inl (cI, n_o_store_uniforms_parts, .inl f_o_store_uniforms_parts)), (q_o_b, .inl (cI, n_o_b, .inl f_o_b)), (q_o_a, .inl (cI, n_o_a, .inl f_o_a)), (q_o_loops_places, .inl (cI, n_o_loops_places, .inl f_o_loops_places)), (q_o_loops_counts, .inl (cJ, n_o_loops_counts, .inr (.inl f_o_loops_counts))), (q_o_result, .inl (cI, n_o_result, .inl f_o_result)), (q_o_store_memory, .inl (cI, n_o_store_memory, .inl f_o_store_memory)), (q_o_store_textures, .inr (0, [.int o_store_textures_many, .ref q_o_store_textures_parts])), (q_o_store_textures_parts, .inl (cI, n_o_store_textures_parts, .inl f_o_store_textures_parts))] H := hP
  have hD : va_D A [(q_o, .inr (5, [.ref q_o_store, .ref q_o_a, .ref q_o_b, .ref q_o_c, .ref q_o_result, .ref q_o_loops, .int (0 : Int32), .int o_isKilled])), (q_o_store, .inr (1, [.ref q_o_store_memory, .ref q_o_store_temporaries, .ref q_o_store_ins, .ref q_o_store_outs, .ref q_o_store_uniforms, .ref q_o_store_textures, .ref q_o_store_nothing])), (q_o_store_temporaries, .inr (0, [.int o_store_temporaries_many, .ref q_o_store_temporaries_parts])), (q_o_store_temporaries_parts, .inl (cI, n_o_store_temporaries_parts, .inl w_2)), (q_o_store_outs, .inr (0, [.int o_store_outs_many, .ref q_o_store_outs_parts])), (q_o_store_outs_parts, .inl (cI, n_o_store_outs_parts, .inl w_4)), (q_o_loops, .inr (2, [.ref q_o_loops_places, .ref q_o_loops_counts, .int w_6])), (q_p1, .inr (3, [.ref q_p1_words, .int p1_many])), (q_p1_words, .inl (cI, n_p1_words, .inl f_p1_words)), (q_o_store_nothing, .inr (0, [.int o_store_nothing_many, .ref q_o_store_nothing_parts])), (q_o_c, .inl (cI, n_o_c, .inl f_o_c)), (q_o_store_nothing_parts, .inl (cI, n_o_store_nothing_parts, .inl f_o_store_nothing_parts)), (q_o_store_ins, .inr (0, [.int o_store_ins_many, .ref q_o_store_ins_parts])), (q_o_store_ins_parts, .inl (cI, n_o_store_ins_parts, .inl f_o_store_ins_parts)), (q_o_store_uniforms, .inr (0, [.int o_store_uniforms_many, .ref q_o_store_uniforms_parts])), (q_o_store_uniforms_parts, .inl (cI, n_o_store_uniforms_parts, .inl f_o_store_uniforms_parts)), (q_o_b, .inl (cI, n_o_b, .inl f_o_b)), (q_o_a, .inl (cI, n_o_a, .inl f_o_a)), (q_o_loops_places, .inl (cI, n_o_loops_places, .inl f_o_loops_places)), (q_o_loops_counts, .inl (cJ, n_o_loops_counts, .inr (.inl f_o_loops_counts))), (q_o_result, .inl (cI, n_o_result, .inl f_o_result)), (q_o_store_memory, .inl (cI, n_o_store_memory, .inl f_o_store_memory)), (q_o_store_textures, .inr (0, [.int o_store_textures_many, .ref q_o_store_textures_parts])), (q_o_store_textures_parts, .inl (cI, n_o_store_textures_parts, .inl f_o_store_textures_parts))] := hD
  refine lv_aload_n hx hb d_Ru_perform_32 rfl (lv_at hl 0 rfl) ?_
  refine lv_iconst (v := 0) hx hb d_Ru_perform_33 (by decide) ?_
  refine va_put (D := (dC, dI)) (ci := 5) (v := .int (0 : Int32)) (ty := .boolean) (C := R_Ru) (T := T_Ru) (N := 8) hx hb hts (iw_Ru _) ty_Ru tk_Ru nd_Ru hown hK hP hD hS 0 rfl rfl 7 (by decide) (hts (.fieldLink R_Ru 35 "ShaderMachine$Runner" "isKilled" "Z") (List.mem_cons_of_mem _ tw_137)) (fun _ h9 => h9) rfl (by decide +kernel) rfl rfl (Nat.le_of_ble_eq_true rfl) d_Ru_perform_34 (fun H locs hP hD hS => ?_)
  have hP : va_P (dC, dI) vwCl [(q_o, .inr (5, [.ref q_o_store, .ref q_o_a, .ref q_o_b, .ref q_o_c, .ref q_o_result, .ref q_o_loops, .int (0 : Int32), .int (0 : Int32)])), (q_o_store, .inr (1, [.ref q_o_store_memory, .ref q_o_store_temporaries, .ref q_o_store_ins, .ref q_o_store_outs, .ref q_o_store_uniforms, .ref q_o_store_textures, .ref q_o_store_nothing])), (q_o_store_temporaries, .inr (0, [.int o_store_temporaries_many, .ref q_o_store_temporaries_parts])), (q_o_store_temporaries_parts, .inl (cI, n_o_store_temporaries_parts, .inl w_2)), (q_o_store_outs, .inr (0, [.int o_store_outs_many, .ref q_o_store_outs_parts])), (q_o_store_outs_parts, .inl (cI, n_o_store_outs_parts, .inl w_4)), (q_o_loops, .inr (2, [.ref q_o_loops_places, .ref q_o_loops_counts, .int w_6])), (q_p1, .inr (3, [.ref q_p1_words, .int p1_many])), (q_p1_words, .inl (cI, n_p1_words, .inl f_p1_words)), (q_o_store_nothing, .inr (0, [.int o_store_nothing_many, .ref q_o_store_nothing_parts])), (q_o_c, .inl (cI, n_o_c, .inl f_o_c)), (q_o_store_nothing_parts, .inl (cI, n_o_store_nothing_parts, .inl f_o_store_nothing_parts)), (q_o_store_ins, .inr (0, [.int o_store_ins_many, .ref q_o_store_ins_parts])), (q_o_store_ins_parts, .inl (cI, n_o_store_ins_parts, .inl f_o_store_ins_parts)), (q_o_store_uniforms, .inr (0, [.int o_store_uniforms_many, .ref q_o_store_uniforms_parts])), (q_o_store_uniforms_parts, .inl (cI, n_o_store_uniforms_parts, .inl f_o_store_uniforms_parts)), (q_o_b, .inl (cI, n_o_b, .inl f_o_b)), (q_o_a, .inl (cI, n_o_a, .inl f_o_a)), (q_o_loops_places, .inl (cI, n_o_loops_places, .inl f_o_loops_places)), (q_o_loops_counts, .inl (cJ, n_o_loops_counts, .inr (.inl f_o_loops_counts))), (q_o_result, .inl (cI, n_o_result, .inl f_o_result)), (q_o_store_memory, .inl (cI, n_o_store_memory, .inl f_o_store_memory)), (q_o_store_textures, .inr (0, [.int o_store_textures_many, .ref q_o_store_textures_parts])), (q_o_store_textures_parts, .inl (cI, n_o_store_textures_parts, .inl f_o_store_textures_parts))] H := hP
  have hD : va_D A [(q_o, .inr (5, [.ref q_o_store, .ref q_o_a, .ref q_o_b, .ref q_o_c, .ref q_o_result, .ref q_o_loops, .int (0 : Int32), .int (0 : Int32)])), (q_o_store, .inr (1, [.ref q_o_store_memory, .ref q_o_store_temporaries, .ref q_o_store_ins, .ref q_o_store_outs, .ref q_o_store_uniforms, .ref q_o_store_textures, .ref q_o_store_nothing])), (q_o_store_temporaries, .inr (0, [.int o_store_temporaries_many, .ref q_o_store_temporaries_parts])), (q_o_store_temporaries_parts, .inl (cI, n_o_store_temporaries_parts, .inl w_2)), (q_o_store_outs, .inr (0, [.int o_store_outs_many, .ref q_o_store_outs_parts])), (q_o_store_outs_parts, .inl (cI, n_o_store_outs_parts, .inl w_4)), (q_o_loops, .inr (2, [.ref q_o_loops_places, .ref q_o_loops_counts, .int w_6])), (q_p1, .inr (3, [.ref q_p1_words, .int p1_many])), (q_p1_words, .inl (cI, n_p1_words, .inl f_p1_words)), (q_o_store_nothing, .inr (0, [.int o_store_nothing_many, .ref q_o_store_nothing_parts])), (q_o_c, .inl (cI, n_o_c, .inl f_o_c)), (q_o_store_nothing_parts, .inl (cI, n_o_store_nothing_parts, .inl f_o_store_nothing_parts)), (q_o_store_ins, .inr (0, [.int o_store_ins_many, .ref q_o_store_ins_parts])), (q_o_store_ins_parts, .inl (cI, n_o_store_ins_parts, .inl f_o_store_ins_parts)), (q_o_store_uniforms, .inr (0, [.int o_store_uniforms_many, .ref q_o_store_uniforms_parts])), (q_o_store_uniforms_parts, .inl (cI, n_o_store_uniforms_parts, .inl f_o_store_uniforms_parts)), (q_o_b, .inl (cI, n_o_b, .inl f_o_b)), (q_o_a, .inl (cI, n_o_a, .inl f_o_a)), (q_o_loops_places, .inl (cI, n_o_loops_places, .inl f_o_loops_places)), (q_o_loops_counts, .inl (cJ, n_o_loops_counts, .inr (.inl f_o_loops_counts))), (q_o_result, .inl (cI, n_o_result, .inl f_o_result)), (q_o_store_memory, .inl (cI, n_o_store_memory, .inl f_o_store_memory)), (q_o_store_textures, .inr (0, [.int o_store_textures_many, .ref q_o_store_textures_parts])), (q_o_store_textures_parts, .inl (cI, n_o_store_textures_parts, .inl f_o_store_textures_parts))] := hD
  refine lv_iconst (v := 0) hx hb d_Ru_perform_37 (by decide) ?_
  refine lv_istore_n (lv' := [(2, .int (0 : Int32)), (0, .ref q_o), (1, .ref q_p1)]) hx hb d_Ru_perform_38 rfl hl (by decide) rfl (fun ls hl => ?_)
  refine lv_iconst (v := 1) hx hb d_Ru_perform_39 (by decide) ?_
  refine lv_istore_n (lv' := [(3, .int (1 : Int32)), (2, .int (0 : Int32)), (0, .ref q_o), (1, .ref q_p1)]) hx hb d_Ru_perform_40 rfl hl (by decide) rfl (fun ls hl => ?_)
  exact w_41 fu (0 : Int32) (1 : Int32) (0 : Int32) (0 : Int32) w_2 w_4 w_6 f_o_c f_o_b f_o_a f_o_loops_places f_o_loops_counts f_o_result h _ _ hP hD hS _ (lv_sub hl [2, 3, 1, 0] rfl)
def pf_Mo_thrown (o_thrown : Int32) : Option (Int32) :=
  some o_thrown
set_option maxHeartbeats 4000000 in
set_option maxRecDepth 100000 in
theorem k_Mo_thrown (l : Launch) (dC : Nat → ClassId) (dI : Nat → Nat → Nat) (cI cJ : ClassId) (o_thrown : Int32) (o_hasProgram : Int32) (o_fault : Int32) (o_place : Int32) (o_told : Int32) (o_killed : Int32) (q_o : Nat) (q_o_memory : Nat) (q_o_program : Nat) (q_o_fresh : Nat) (q_o_temporaries : Nat) (q_o_ins : Nat) (q_o_outs : Nat) (q_o_uniforms : Nat) (q_o_textures : Nat) (q_o_read : Nat) (q_o_result : Nat) (q_o_left : Nat) (q_o_opening : Nat) (r : Int32) (h : pf_Mo_thrown o_thrown = some r) : ck_i l y_Mo_thrown wm_Mo_thrown ({ frames := 0, cells := 0, slots := 0, locals := 0 } : Room) [.ref q_o] (dC, dI) [(cI, .int), (cJ, .long)] [(q_o, .inr (7, [.int o_thrown, .ref q_o_memory, .ref q_o_program, .ref q_o_fresh, .int o_hasProgram, .int o_fault, .int o_place, .int o_told, .ref q_o_temporaries, .ref q_o_ins, .ref q_o_outs, .ref q_o_uniforms, .ref q_o_textures, .ref q_o_read, .ref q_o_result, .int o_killed, .ref q_o_left, .ref q_o_opening]))] r [(q_o, .inr (7, [.int o_thrown, .ref q_o_memory, .ref q_o_program, .ref q_o_fresh, .int o_hasProgram, .int o_fault, .int o_place, .int o_told, .ref q_o_temporaries, .ref q_o_ins, .ref q_o_outs, .ref q_o_uniforms, .ref q_o_textures, .ref q_o_read, .ref q_o_result, .int o_killed, .ref q_o_left, .ref q_o_opening]))] := by
  refine ck_ofi (cc := c_Mo_thrown) (maxL := 1) (ret := (some .int)) (by decide +kernel) rfl ?_
  intro p e s m below meth c A C0 hK hP hD hS hE
  obtain ⟨hx, hb, hr, hml, hown, hts, hlk, hA, hin⟩ := C0
  unfold pf_Mo_thrown at h
  have hl := lv_entry ([.ref q_o]) (n := 1) (Nat.le_of_ble_eq_true rfl)
  rw [lg_entry_eq]
  generalize (lg_sl ([.ref q_o]) ++ List.replicate (1 - (lg_sl ([.ref q_o])).length) Slot.unset).toArray = ls at hl ⊢
  have hl : lv_has ls 1 [(0, .ref q_o)] := hl
  refine lv_aload_n hx hb d_Mo_thrown_0 rfl (lv_at hl 0 rfl) ?_
  refine va_get (D := (dC, dI)) (ci := 7) (v := .int o_thrown) (C := R_Mo) (T := T_Mo) (N := 18) hx hb hts (iw_Mo _) hown hK hP 0 rfl rfl 0 (by decide) (hts (.fieldLink R_Mo 50 "ShaderMachineModel" "thrown" "I") (List.mem_cons_of_mem _ tw_728)) (fun _ h9 => h9) rfl d_Mo_thrown_1 ?_
  cases h
  exact ck_iret hx hb hr hlk hK hP hD hS d_Mo_thrown_4
def pf_Mo_kindOf (p2 : Int32) (n_p1 : Nat) (f_p1 : Nat → Int32) : Option (Int32) :=
  if (0 : Int32) ≤ ((3 : Int32) * p2) ∧ ((3 : Int32) * p2).toNatClampNeg < n_p1 then (
  some ((f_p1 ((3 : Int32) * p2).toNatClampNeg) &&& (63 : Int32))) else none
set_option maxHeartbeats 4000000 in
set_option maxRecDepth 100000 in
theorem k_Mo_kindOf (l : Launch) (dC : Nat → ClassId) (dI : Nat → Nat → Nat) (cI cJ : ClassId) (p2 : Int32) (n_p1 : Nat) (f_p1 : Nat → Int32) (q_p1 : Nat) (r : Int32) (h : pf_Mo_kindOf p2 n_p1 f_p1 = some r) : ck_i l y_Mo_kindOf wm_Mo_kindOf ({ frames := 0, cells := 0, slots := 0, locals := 0 } : Room) [.ref q_p1, .int p2] (dC, dI) [(cI, .int), (cJ, .long)] [(q_p1, .inl (cI, n_p1, .inl f_p1))] r [(q_p1, .inl (cI, n_p1, .inl f_p1))] := by
  refine ck_ofi (cc := c_Mo_kindOf) (maxL := 2) (ret := (some .int)) (by decide +kernel) rfl ?_
  intro p e s m below meth c A C0 hK hP hD hS hE
  obtain ⟨hx, hb, hr, hml, hown, hts, hlk, hA, hin⟩ := C0
  unfold pf_Mo_kindOf at h
  have hl := lv_entry ([.ref q_p1, .int p2]) (n := 2) (Nat.le_of_ble_eq_true rfl)
  rw [lg_entry_eq]
  generalize (lg_sl ([.ref q_p1, .int p2]) ++ List.replicate (2 - (lg_sl ([.ref q_p1, .int p2])).length) Slot.unset).toArray = ls at hl ⊢
  have hl : lv_has ls 2 [(0, .ref q_p1), (1, .int p2)] := hl
  refine lv_aload_n hx hb d_Mo_kindOf_0 rfl (lv_at hl 0 rfl) ?_
  refine lv_iconst (v := 3) hx hb d_Mo_kindOf_1 (by decide) ?_
  refine lv_iload_n hx hb d_Mo_kindOf_2 rfl (lv_at hl 1 rfl) ?_
  refine lv_imul hx hb d_Mo_kindOf_3 ?_
  obtain ⟨c_1, h⟩ := ch_ite h
  refine va_iald hx hb hK hP 0 0 rfl rfl (ch_in c_1) d_Mo_kindOf_4 ?_
  refine lv_bipush (v := 63) hx hb d_Mo_kindOf_5 (by decide) ?_
  refine lv_iand hx hb d_Mo_kindOf_7 ?_
  cases h
  exact ck_iret hx hb hr hlk hK hP hD hS d_Mo_kindOf_8
def pf_Mo_numberOf (p2 : Int32) (n_p1 : Nat) (f_p1 : Nat → Int32) : Option (Int32) :=
  if (0 : Int32) ≤ ((3 : Int32) * p2) ∧ ((3 : Int32) * p2).toNatClampNeg < n_p1 then (
  some (((f_p1 ((3 : Int32) * p2).toNatClampNeg).toUInt32 >>> ((17 : Int32).toUInt32 &&& Int32.toUInt32 31)).toInt32)) else none
set_option maxHeartbeats 4000000 in
set_option maxRecDepth 100000 in
theorem k_Mo_numberOf (l : Launch) (dC : Nat → ClassId) (dI : Nat → Nat → Nat) (cI cJ : ClassId) (p2 : Int32) (n_p1 : Nat) (f_p1 : Nat → Int32) (q_p1 : Nat) (r : Int32) (h : pf_Mo_numberOf p2 n_p1 f_p1 = some r) : ck_i l y_Mo_numberOf wm_Mo_numberOf ({ frames := 0, cells := 0, slots := 0, locals := 0 } : Room) [.ref q_p1, .int p2] (dC, dI) [(cI, .int), (cJ, .long)] [(q_p1, .inl (cI, n_p1, .inl f_p1))] r [(q_p1, .inl (cI, n_p1, .inl f_p1))] := by
  refine ck_ofi (cc := c_Mo_numberOf) (maxL := 2) (ret := (some .int)) (by decide +kernel) rfl ?_
  intro p e s m below meth c A C0 hK hP hD hS hE
  obtain ⟨hx, hb, hr, hml, hown, hts, hlk, hA, hin⟩ := C0
  unfold pf_Mo_numberOf at h
  have hl := lv_entry ([.ref q_p1, .int p2]) (n := 2) (Nat.le_of_ble_eq_true rfl)
  rw [lg_entry_eq]
  generalize (lg_sl ([.ref q_p1, .int p2]) ++ List.replicate (2 - (lg_sl ([.ref q_p1, .int p2])).length) Slot.unset).toArray = ls at hl ⊢
  have hl : lv_has ls 2 [(0, .ref q_p1), (1, .int p2)] := hl
  refine lv_aload_n hx hb d_Mo_numberOf_0 rfl (lv_at hl 0 rfl) ?_
  refine lv_iconst (v := 3) hx hb d_Mo_numberOf_1 (by decide) ?_
  refine lv_iload_n hx hb d_Mo_numberOf_2 rfl (lv_at hl 1 rfl) ?_
  refine lv_imul hx hb d_Mo_numberOf_3 ?_
  obtain ⟨c_1, h⟩ := ch_ite h
  refine va_iald hx hb hK hP 0 0 rfl rfl (ch_in c_1) d_Mo_numberOf_4 ?_
  refine lv_bipush (v := 17) hx hb d_Mo_numberOf_5 (by decide) ?_
  refine lv_iushr hx hb d_Mo_numberOf_7 rfl ?_
  cases h
  exact ck_iret hx hb hr hlk hK hP hD hS d_Mo_numberOf_8
def pf_Mo_sourceOf (p2 : Int32) (p3 : Int32) (n_p1 : Nat) (f_p1 : Nat → Int32) : Option (Int32) :=
  if p3 = 0 then
    if (0 : Int32) ≤ (((3 : Int32) * p2) + (1 : Int32)) ∧ (((3 : Int32) * p2) + (1 : Int32)).toNatClampNeg < n_p1 then (
    some ((f_p1 (((3 : Int32) * p2) + (1 : Int32)).toNatClampNeg) &&& (65535 : Int32))) else none
  else
    if p3 = (1 : Int32) then
      if (0 : Int32) ≤ (((3 : Int32) * p2) + (1 : Int32)) ∧ (((3 : Int32) * p2) + (1 : Int32)).toNatClampNeg < n_p1 then (
      some (((f_p1 (((3 : Int32) * p2) + (1 : Int32)).toNatClampNeg).toUInt32 >>> ((16 : Int32).toUInt32 &&& Int32.toUInt32 31)).toInt32)) else none
    else
      if (0 : Int32) ≤ (((3 : Int32) * p2) + (2 : Int32)) ∧ (((3 : Int32) * p2) + (2 : Int32)).toNatClampNeg < n_p1 then (
      some ((f_p1 (((3 : Int32) * p2) + (2 : Int32)).toNatClampNeg) &&& (65535 : Int32))) else none
set_option maxHeartbeats 4000000 in
set_option maxRecDepth 100000 in
theorem k_Mo_sourceOf (l : Launch) (dC : Nat → ClassId) (dI : Nat → Nat → Nat) (cI cJ : ClassId) (p2 : Int32) (p3 : Int32) (n_p1 : Nat) (f_p1 : Nat → Int32) (q_p1 : Nat) (r : Int32) (h : pf_Mo_sourceOf p2 p3 n_p1 f_p1 = some r) : ck_i l y_Mo_sourceOf wm_Mo_sourceOf ({ frames := 0, cells := 0, slots := 0, locals := 0 } : Room) [.ref q_p1, .int p2, .int p3] (dC, dI) [(cI, .int), (cJ, .long)] [(q_p1, .inl (cI, n_p1, .inl f_p1))] r [(q_p1, .inl (cI, n_p1, .inl f_p1))] := by
  refine ck_ofi (cc := c_Mo_sourceOf) (maxL := 3) (ret := (some .int)) (by decide +kernel) rfl ?_
  intro p e s m below meth c A C0 hK hP hD hS hE
  obtain ⟨hx, hb, hr, hml, hown, hts, hlk, hA, hin⟩ := C0
  unfold pf_Mo_sourceOf at h
  have hl := lv_entry ([.ref q_p1, .int p2, .int p3]) (n := 3) (Nat.le_of_ble_eq_true rfl)
  rw [lg_entry_eq]
  generalize (lg_sl ([.ref q_p1, .int p2, .int p3]) ++ List.replicate (3 - (lg_sl ([.ref q_p1, .int p2, .int p3])).length) Slot.unset).toArray = ls at hl ⊢
  have hl : lv_has ls 3 [(0, .ref q_p1), (1, .int p2), (2, .int p3)] := hl
  refine lv_iload_n hx hb d_Mo_sourceOf_0 rfl (lv_at hl 2 rfl) ?_
  refine lv_if_ne (tgt := 17) hx hb d_Mo_sourceOf_1 (by decide) (fun c_1 => ?_) (fun c_1 => ?_)
  · rw [if_neg c_1] at h
    refine lv_iload_n hx hb d_Mo_sourceOf_17 rfl (lv_at hl 2 rfl) ?_
    refine lv_iconst (v := 1) hx hb d_Mo_sourceOf_18 (by decide) ?_
    refine lv_icmp_ne (tgt := 35) hx hb d_Mo_sourceOf_19 (by decide) (fun c_2 => ?_) (fun c_2 => ?_)
    · rw [if_neg c_2] at h
      refine lv_aload_n hx hb d_Mo_sourceOf_35 rfl (lv_at hl 0 rfl) ?_
      refine lv_iconst (v := 3) hx hb d_Mo_sourceOf_36 (by decide) ?_
      refine lv_iload_n hx hb d_Mo_sourceOf_37 rfl (lv_at hl 1 rfl) ?_
      refine lv_imul hx hb d_Mo_sourceOf_38 ?_
      refine lv_iconst (v := 2) hx hb d_Mo_sourceOf_39 (by decide) ?_
      refine lv_iadd hx hb d_Mo_sourceOf_40 ?_
      obtain ⟨c_3, h⟩ := ch_ite h
      refine va_iald hx hb hK hP 0 0 rfl rfl (ch_in c_3) d_Mo_sourceOf_41 ?_
      refine lv_ldc (v := 65535) hx hb hown (hts (.constant R_Mo 53 (65535)) (by decide +kernel)) d_Mo_sourceOf_42 ?_
      refine lv_iand hx hb d_Mo_sourceOf_44 ?_
      cases h
      exact ck_iret hx hb hr hlk hK hP hD hS d_Mo_sourceOf_45
    · rw [if_pos c_2] at h
      refine lv_aload_n hx hb d_Mo_sourceOf_22 rfl (lv_at hl 0 rfl) ?_
      refine lv_iconst (v := 3) hx hb d_Mo_sourceOf_23 (by decide) ?_
      refine lv_iload_n hx hb d_Mo_sourceOf_24 rfl (lv_at hl 1 rfl) ?_
      refine lv_imul hx hb d_Mo_sourceOf_25 ?_
      refine lv_iconst (v := 1) hx hb d_Mo_sourceOf_26 (by decide) ?_
      refine lv_iadd hx hb d_Mo_sourceOf_27 ?_
      obtain ⟨c_4, h⟩ := ch_ite h
      refine va_iald hx hb hK hP 0 0 rfl rfl (ch_in c_4) d_Mo_sourceOf_28 ?_
      refine lv_bipush (v := 16) hx hb d_Mo_sourceOf_29 (by decide) ?_
      refine lv_iushr hx hb d_Mo_sourceOf_31 rfl ?_
      refine lv_goto (tgt := 45) hx hb d_Mo_sourceOf_32 (by decide) ?_
      cases h
      exact ck_iret hx hb hr hlk hK hP hD hS d_Mo_sourceOf_45
  · rw [if_pos c_1] at h
    refine lv_aload_n hx hb d_Mo_sourceOf_4 rfl (lv_at hl 0 rfl) ?_
    refine lv_iconst (v := 3) hx hb d_Mo_sourceOf_5 (by decide) ?_
    refine lv_iload_n hx hb d_Mo_sourceOf_6 rfl (lv_at hl 1 rfl) ?_
    refine lv_imul hx hb d_Mo_sourceOf_7 ?_
    refine lv_iconst (v := 1) hx hb d_Mo_sourceOf_8 (by decide) ?_
    refine lv_iadd hx hb d_Mo_sourceOf_9 ?_
    obtain ⟨c_5, h⟩ := ch_ite h
    refine va_iald hx hb hK hP 0 0 rfl rfl (ch_in c_5) d_Mo_sourceOf_10 ?_
    refine lv_ldc (v := 65535) hx hb hown (hts (.constant R_Mo 53 (65535)) (by decide +kernel)) d_Mo_sourceOf_11 ?_
    refine lv_iand hx hb d_Mo_sourceOf_13 ?_
    refine lv_goto (tgt := 45) hx hb d_Mo_sourceOf_14 (by decide) ?_
    cases h
    exact ck_iret hx hb hr hlk hK hP hD hS d_Mo_sourceOf_45
def pf_Mo_hasTarget (p1 : Int32) : Option (Int32) :=
  if p1 ≤ 0 then
    if p1 ≤ (38 : Int32) then
      some (0 : Int32)
    else
      some (1 : Int32)
  else
    if p1 < (34 : Int32) then
      some (1 : Int32)
    else
      if p1 ≤ (38 : Int32) then
        some (0 : Int32)
      else
        some (1 : Int32)
set_option maxHeartbeats 4000000 in
set_option maxRecDepth 100000 in
theorem k_Mo_hasTarget (l : Launch) (dC : Nat → ClassId) (dI : Nat → Nat → Nat) (cI cJ : ClassId) (p1 : Int32) (r : Int32) (h : pf_Mo_hasTarget p1 = some r) : ck_i l y_Mo_hasTarget wm_Mo_hasTarget ({ frames := 0, cells := 0, slots := 0, locals := 0 } : Room) [.int p1] (dC, dI) [(cI, .int), (cJ, .long)] [] r [] := by
  refine ck_ofi (cc := c_Mo_hasTarget) (maxL := 1) (ret := (some .boolean)) (by decide +kernel) rfl ?_
  intro p e s m below meth c A C0 hK hP hD hS hE
  obtain ⟨hx, hb, hr, hml, hown, hts, hlk, hA, hin⟩ := C0
  unfold pf_Mo_hasTarget at h
  have hl := lv_entry ([.int p1]) (n := 1) (Nat.le_of_ble_eq_true rfl)
  rw [lg_entry_eq]
  generalize (lg_sl ([.int p1]) ++ List.replicate (1 - (lg_sl ([.int p1])).length) Slot.unset).toArray = ls at hl ⊢
  have hl : lv_has ls 1 [(0, .int p1)] := hl
  refine lv_iload_n hx hb d_Mo_hasTarget_0 rfl (lv_at hl 0 rfl) ?_
  refine lv_if_le (tgt := 10) hx hb d_Mo_hasTarget_1 (by decide) (fun c_1 => ?_) (fun c_1 => ?_)
  · rw [if_pos c_1] at h
    refine lv_iload_n hx hb d_Mo_hasTarget_10 rfl (lv_at hl 0 rfl) ?_
    refine lv_bipush (v := 38) hx hb d_Mo_hasTarget_11 (by decide) ?_
    refine lv_icmp_le (tgt := 20) hx hb d_Mo_hasTarget_13 (by decide) (fun c_2 => ?_) (fun c_2 => ?_)
    · rw [if_pos c_2] at h
      refine lv_iconst (v := 0) hx hb d_Mo_hasTarget_20 (by decide) ?_
      cases h
      exact ck_zret hx hb hr rfl hlk hK hP hD hS d_Mo_hasTarget_21
    · rw [if_neg c_2] at h
      refine lv_iconst (v := 1) hx hb d_Mo_hasTarget_16 (by decide) ?_
      refine lv_goto (tgt := 21) hx hb d_Mo_hasTarget_17 (by decide) ?_
      cases h
      exact ck_zret hx hb hr rfl hlk hK hP hD hS d_Mo_hasTarget_21
  · rw [if_neg c_1] at h
    refine lv_iload_n hx hb d_Mo_hasTarget_4 rfl (lv_at hl 0 rfl) ?_
    refine lv_bipush (v := 34) hx hb d_Mo_hasTarget_5 (by decide) ?_
    refine lv_icmp_lt (tgt := 16) hx hb d_Mo_hasTarget_7 (by decide) (fun c_3 => ?_) (fun c_3 => ?_)
    · rw [if_pos c_3] at h
      refine lv_iconst (v := 1) hx hb d_Mo_hasTarget_16 (by decide) ?_
      refine lv_goto (tgt := 21) hx hb d_Mo_hasTarget_17 (by decide) ?_
      cases h
      exact ck_zret hx hb hr rfl hlk hK hP hD hS d_Mo_hasTarget_21
    · rw [if_neg c_3] at h
      refine lv_iload_n hx hb d_Mo_hasTarget_10 rfl (lv_at hl 0 rfl) ?_
      refine lv_bipush (v := 38) hx hb d_Mo_hasTarget_11 (by decide) ?_
      refine lv_icmp_le (tgt := 20) hx hb d_Mo_hasTarget_13 (by decide) (fun c_4 => ?_) (fun c_4 => ?_)
      · rw [if_pos c_4] at h
        refine lv_iconst (v := 0) hx hb d_Mo_hasTarget_20 (by decide) ?_
        cases h
        exact ck_zret hx hb hr rfl hlk hK hP hD hS d_Mo_hasTarget_21
      · rw [if_neg c_4] at h
        refine lv_iconst (v := 1) hx hb d_Mo_hasTarget_16 (by decide) ?_
        refine lv_goto (tgt := 21) hx hb d_Mo_hasTarget_17 (by decide) ?_
        cases h
        exact ck_zret hx hb hr rfl hlk hK hP hD hS d_Mo_hasTarget_21
def pf_Mo_sources (p1 : Int32) : Option (Int32) :=
  if p1 < 0 ∨ 37 < p1 then
    some (1 : Int32)
  else
  if p1 = 0 then
    some (0 : Int32)
  else
  if p1 = 1 then
    some (1 : Int32)
  else
  if p1 = 2 then
    some (2 : Int32)
  else
  if p1 = 3 then
    some (2 : Int32)
  else
  if p1 = 4 then
    some (2 : Int32)
  else
  if p1 = 5 then
    some (3 : Int32)
  else
  if p1 = 6 then
    some (2 : Int32)
  else
  if p1 = 7 then
    some (2 : Int32)
  else
  if p1 = 8 then
    some (2 : Int32)
  else
  if p1 = 9 then
    some (2 : Int32)
  else
  if p1 = 10 then
    some (1 : Int32)
  else
  if p1 = 11 then
    some (1 : Int32)
  else
  if p1 = 12 then
    some (1 : Int32)
  else
  if p1 = 13 then
    some (1 : Int32)
  else
  if p1 = 14 then
    some (1 : Int32)
  else
  if p1 = 15 then
    some (1 : Int32)
  else
  if p1 = 16 then
    some (2 : Int32)
  else
  if p1 = 17 then
    some (2 : Int32)
  else
  if p1 = 18 then
    some (2 : Int32)
  else
  if p1 = 19 then
    some (2 : Int32)
  else
  if p1 = 20 then
    some (3 : Int32)
  else
  if p1 = 21 then
    some (3 : Int32)
  else
  if p1 = 22 then
    some (2 : Int32)
  else
  if p1 = 23 then
    some (2 : Int32)
  else
  if p1 = 24 then
    some (2 : Int32)
  else
  if p1 = 25 then
    some (2 : Int32)
  else
  if p1 = 26 then
    some (1 : Int32)
  else
  if p1 = 27 then
    some (2 : Int32)
  else
  if p1 = 28 then
    some (2 : Int32)
  else
  if p1 = 29 then
    some (2 : Int32)
  else
  if p1 = 30 then
    some (1 : Int32)
  else
  if p1 = 31 then
    some (1 : Int32)
  else
  if p1 = 32 then
    some (1 : Int32)
  else
  if p1 = 33 then
    some (1 : Int32)
  else
  if p1 = 34 then
    some (0 : Int32)
  else
  if p1 = 35 then
    some (0 : Int32)
  else
  if p1 = 36 then
    some (1 : Int32)
  else
  if p1 = 37 then
    some (0 : Int32)
  else
    none
set_option maxHeartbeats 4000000 in
set_option maxRecDepth 100000 in
theorem k_Mo_sources (l : Launch) (dC : Nat → ClassId) (dI : Nat → Nat → Nat) (cI cJ : ClassId) (p1 : Int32) (r : Int32) (h : pf_Mo_sources p1 = some r) : ck_i l y_Mo_sources wm_Mo_sources ({ frames := 0, cells := 0, slots := 0, locals := 0 } : Room) [.int p1] (dC, dI) [(cI, .int), (cJ, .long)] [] r [] := by
  refine ck_ofi (cc := c_Mo_sources) (maxL := 1) (ret := (some .int)) (by decide +kernel) rfl ?_
  intro p e s m below meth c A C0 hK hP hD hS hE
  obtain ⟨hx, hb, hr, hml, hown, hts, hlk, hA, hin⟩ := C0
  unfold pf_Mo_sources at h
  have hl := lv_entry ([.int p1]) (n := 1) (Nat.le_of_ble_eq_true rfl)
  rw [lg_entry_eq]
  generalize (lg_sl ([.int p1]) ++ List.replicate (1 - (lg_sl ([.int p1])).length) Slot.unset).toArray = ls at hl ⊢
  have hl : lv_has ls 1 [(0, .int p1)] := hl
  refine lv_iload_n hx hb d_Mo_sources_0 rfl (lv_at hl 0 rfl) ?_
  by_cases c_1 : p1 < 0 ∨ 37 < p1
  · rw [if_pos c_1] at h
    refine lv_tableOut (tgt := 174) hx hb d_Mo_sources_1 (ch_out c_1 (by decide) (by decide)) (by decide) ?_
    refine lv_iconst (v := 1) hx hb d_Mo_sources_174 (by decide) ?_
    cases h
    exact ck_iret hx hb hr hlk hK hP hD hS d_Mo_sources_175
  rw [if_neg c_1] at h
  by_cases c_2 : p1 = 0
  · rw [if_pos c_2] at h
    refine lv_tableIn (tgt := 168) hx hb d_Mo_sources_1 (by rw [c_2]; decide) (by rw [c_2]; decide) (by rw [c_2]; rfl) (by decide) ?_
    refine lv_iconst (v := 0) hx hb d_Mo_sources_168 (by decide) ?_
    cases h
    exact ck_iret hx hb hr hlk hK hP hD hS d_Mo_sources_169
  rw [if_neg c_2] at h
  by_cases c_3 : p1 = 1
  · rw [if_pos c_3] at h
    refine lv_tableIn (tgt := 174) hx hb d_Mo_sources_1 (by rw [c_3]; decide) (by rw [c_3]; decide) (by rw [c_3]; rfl) (by decide) ?_
    refine lv_iconst (v := 1) hx hb d_Mo_sources_174 (by decide) ?_
    cases h
    exact ck_iret hx hb hr hlk hK hP hD hS d_Mo_sources_175
  rw [if_neg c_3] at h
  by_cases c_4 : p1 = 2
  · rw [if_pos c_4] at h
    refine lv_tableIn (tgt := 172) hx hb d_Mo_sources_1 (by rw [c_4]; decide) (by rw [c_4]; decide) (by rw [c_4]; rfl) (by decide) ?_
    refine lv_iconst (v := 2) hx hb d_Mo_sources_172 (by decide) ?_
    cases h
    exact ck_iret hx hb hr hlk hK hP hD hS d_Mo_sources_173
  rw [if_neg c_4] at h
  by_cases c_5 : p1 = 3
  · rw [if_pos c_5] at h
    refine lv_tableIn (tgt := 172) hx hb d_Mo_sources_1 (by rw [c_5]; decide) (by rw [c_5]; decide) (by rw [c_5]; rfl) (by decide) ?_
    refine lv_iconst (v := 2) hx hb d_Mo_sources_172 (by decide) ?_
    cases h
    exact ck_iret hx hb hr hlk hK hP hD hS d_Mo_sources_173
  rw [if_neg c_5] at h
  by_cases c_6 : p1 = 4
  · rw [if_pos c_6] at h
    refine lv_tableIn (tgt := 172) hx hb d_Mo_sources_1 (by rw [c_6]; decide) (by rw [c_6]; decide) (by rw [c_6]; rfl) (by decide) ?_
    refine lv_iconst (v := 2) hx hb d_Mo_sources_172 (by decide) ?_
    cases h
    exact ck_iret hx hb hr hlk hK hP hD hS d_Mo_sources_173
  rw [if_neg c_6] at h
  by_cases c_7 : p1 = 5
  · rw [if_pos c_7] at h
    refine lv_tableIn (tgt := 170) hx hb d_Mo_sources_1 (by rw [c_7]; decide) (by rw [c_7]; decide) (by rw [c_7]; rfl) (by decide) ?_
    refine lv_iconst (v := 3) hx hb d_Mo_sources_170 (by decide) ?_
    cases h
    exact ck_iret hx hb hr hlk hK hP hD hS d_Mo_sources_171
  rw [if_neg c_7] at h
  by_cases c_8 : p1 = 6
  · rw [if_pos c_8] at h
    refine lv_tableIn (tgt := 172) hx hb d_Mo_sources_1 (by rw [c_8]; decide) (by rw [c_8]; decide) (by rw [c_8]; rfl) (by decide) ?_
    refine lv_iconst (v := 2) hx hb d_Mo_sources_172 (by decide) ?_
    cases h
    exact ck_iret hx hb hr hlk hK hP hD hS d_Mo_sources_173
  rw [if_neg c_8] at h
  by_cases c_9 : p1 = 7
  · rw [if_pos c_9] at h
    refine lv_tableIn (tgt := 172) hx hb d_Mo_sources_1 (by rw [c_9]; decide) (by rw [c_9]; decide) (by rw [c_9]; rfl) (by decide) ?_
    refine lv_iconst (v := 2) hx hb d_Mo_sources_172 (by decide) ?_
    cases h
    exact ck_iret hx hb hr hlk hK hP hD hS d_Mo_sources_173
  rw [if_neg c_9] at h
  by_cases c_10 : p1 = 8
  · rw [if_pos c_10] at h
    refine lv_tableIn (tgt := 172) hx hb d_Mo_sources_1 (by rw [c_10]; decide) (by rw [c_10]; decide) (by rw [c_10]; rfl) (by decide) ?_
    refine lv_iconst (v := 2) hx hb d_Mo_sources_172 (by decide) ?_
    cases h
    exact ck_iret hx hb hr hlk hK hP hD hS d_Mo_sources_173
  rw [if_neg c_10] at h
  by_cases c_11 : p1 = 9
  · rw [if_pos c_11] at h
    refine lv_tableIn (tgt := 172) hx hb d_Mo_sources_1 (by rw [c_11]; decide) (by rw [c_11]; decide) (by rw [c_11]; rfl) (by decide) ?_
    refine lv_iconst (v := 2) hx hb d_Mo_sources_172 (by decide) ?_
    cases h
    exact ck_iret hx hb hr hlk hK hP hD hS d_Mo_sources_173
  rw [if_neg c_11] at h
  by_cases c_12 : p1 = 10
  · rw [if_pos c_12] at h
    refine lv_tableIn (tgt := 174) hx hb d_Mo_sources_1 (by rw [c_12]; decide) (by rw [c_12]; decide) (by rw [c_12]; rfl) (by decide) ?_
    refine lv_iconst (v := 1) hx hb d_Mo_sources_174 (by decide) ?_
    cases h
    exact ck_iret hx hb hr hlk hK hP hD hS d_Mo_sources_175
  rw [if_neg c_12] at h
  by_cases c_13 : p1 = 11
  · rw [if_pos c_13] at h
    refine lv_tableIn (tgt := 174) hx hb d_Mo_sources_1 (by rw [c_13]; decide) (by rw [c_13]; decide) (by rw [c_13]; rfl) (by decide) ?_
    refine lv_iconst (v := 1) hx hb d_Mo_sources_174 (by decide) ?_
    cases h
    exact ck_iret hx hb hr hlk hK hP hD hS d_Mo_sources_175
  rw [if_neg c_13] at h
  by_cases c_14 : p1 = 12
  · rw [if_pos c_14] at h
    refine lv_tableIn (tgt := 174) hx hb d_Mo_sources_1 (by rw [c_14]; decide) (by rw [c_14]; decide) (by rw [c_14]; rfl) (by decide) ?_
    refine lv_iconst (v := 1) hx hb d_Mo_sources_174 (by decide) ?_
    cases h
    exact ck_iret hx hb hr hlk hK hP hD hS d_Mo_sources_175
  rw [if_neg c_14] at h
  by_cases c_15 : p1 = 13
  · rw [if_pos c_15] at h
    refine lv_tableIn (tgt := 174) hx hb d_Mo_sources_1 (by rw [c_15]; decide) (by rw [c_15]; decide) (by rw [c_15]; rfl) (by decide) ?_
    refine lv_iconst (v := 1) hx hb d_Mo_sources_174 (by decide) ?_
    cases h
    exact ck_iret hx hb hr hlk hK hP hD hS d_Mo_sources_175
  rw [if_neg c_15] at h
  by_cases c_16 : p1 = 14
  · rw [if_pos c_16] at h
    refine lv_tableIn (tgt := 174) hx hb d_Mo_sources_1 (by rw [c_16]; decide) (by rw [c_16]; decide) (by rw [c_16]; rfl) (by decide) ?_
    refine lv_iconst (v := 1) hx hb d_Mo_sources_174 (by decide) ?_
    cases h
    exact ck_iret hx hb hr hlk hK hP hD hS d_Mo_sources_175
  rw [if_neg c_16] at h
  by_cases c_17 : p1 = 15
  · rw [if_pos c_17] at h
    refine lv_tableIn (tgt := 174) hx hb d_Mo_sources_1 (by rw [c_17]; decide) (by rw [c_17]; decide) (by rw [c_17]; rfl) (by decide) ?_
    refine lv_iconst (v := 1) hx hb d_Mo_sources_174 (by decide) ?_
    cases h
    exact ck_iret hx hb hr hlk hK hP hD hS d_Mo_sources_175
  rw [if_neg c_17] at h
  by_cases c_18 : p1 = 16
  · rw [if_pos c_18] at h
    refine lv_tableIn (tgt := 172) hx hb d_Mo_sources_1 (by rw [c_18]; decide) (by rw [c_18]; decide) (by rw [c_18]; rfl) (by decide) ?_
    refine lv_iconst (v := 2) hx hb d_Mo_sources_172 (by decide) ?_
    cases h
    exact ck_iret hx hb hr hlk hK hP hD hS d_Mo_sources_173
  rw [if_neg c_18] at h
  by_cases c_19 : p1 = 17
  · rw [if_pos c_19] at h
    refine lv_tableIn (tgt := 172) hx hb d_Mo_sources_1 (by rw [c_19]; decide) (by rw [c_19]; decide) (by rw [c_19]; rfl) (by decide) ?_
    refine lv_iconst (v := 2) hx hb d_Mo_sources_172 (by decide) ?_
    cases h
    exact ck_iret hx hb hr hlk hK hP hD hS d_Mo_sources_173
  rw [if_neg c_19] at h
  by_cases c_20 : p1 = 18
  · rw [if_pos c_20] at h
    refine lv_tableIn (tgt := 172) hx hb d_Mo_sources_1 (by rw [c_20]; decide) (by rw [c_20]; decide) (by rw [c_20]; rfl) (by decide) ?_
    refine lv_iconst (v := 2) hx hb d_Mo_sources_172 (by decide) ?_
    cases h
    exact ck_iret hx hb hr hlk hK hP hD hS d_Mo_sources_173
  rw [if_neg c_20] at h
  by_cases c_21 : p1 = 19
  · rw [if_pos c_21] at h
    refine lv_tableIn (tgt := 172) hx hb d_Mo_sources_1 (by rw [c_21]; decide) (by rw [c_21]; decide) (by rw [c_21]; rfl) (by decide) ?_
    refine lv_iconst (v := 2) hx hb d_Mo_sources_172 (by decide) ?_
    cases h
    exact ck_iret hx hb hr hlk hK hP hD hS d_Mo_sources_173
  rw [if_neg c_21] at h
  by_cases c_22 : p1 = 20
  · rw [if_pos c_22] at h
    refine lv_tableIn (tgt := 170) hx hb d_Mo_sources_1 (by rw [c_22]; decide) (by rw [c_22]; decide) (by rw [c_22]; rfl) (by decide) ?_
    refine lv_iconst (v := 3) hx hb d_Mo_sources_170 (by decide) ?_
    cases h
    exact ck_iret hx hb hr hlk hK hP hD hS d_Mo_sources_171
  rw [if_neg c_22] at h
  by_cases c_23 : p1 = 21
  · rw [if_pos c_23] at h
    refine lv_tableIn (tgt := 170) hx hb d_Mo_sources_1 (by rw [c_23]; decide) (by rw [c_23]; decide) (by rw [c_23]; rfl) (by decide) ?_
    refine lv_iconst (v := 3) hx hb d_Mo_sources_170 (by decide) ?_
    cases h
    exact ck_iret hx hb hr hlk hK hP hD hS d_Mo_sources_171
  rw [if_neg c_23] at h
  by_cases c_24 : p1 = 22
  · rw [if_pos c_24] at h
    refine lv_tableIn (tgt := 172) hx hb d_Mo_sources_1 (by rw [c_24]; decide) (by rw [c_24]; decide) (by rw [c_24]; rfl) (by decide) ?_
    refine lv_iconst (v := 2) hx hb d_Mo_sources_172 (by decide) ?_
    cases h
    exact ck_iret hx hb hr hlk hK hP hD hS d_Mo_sources_173
  rw [if_neg c_24] at h
  by_cases c_25 : p1 = 23
  · rw [if_pos c_25] at h
    refine lv_tableIn (tgt := 172) hx hb d_Mo_sources_1 (by rw [c_25]; decide) (by rw [c_25]; decide) (by rw [c_25]; rfl) (by decide) ?_
    refine lv_iconst (v := 2) hx hb d_Mo_sources_172 (by decide) ?_
    cases h
    exact ck_iret hx hb hr hlk hK hP hD hS d_Mo_sources_173
  rw [if_neg c_25] at h
  by_cases c_26 : p1 = 24
  · rw [if_pos c_26] at h
    refine lv_tableIn (tgt := 172) hx hb d_Mo_sources_1 (by rw [c_26]; decide) (by rw [c_26]; decide) (by rw [c_26]; rfl) (by decide) ?_
    refine lv_iconst (v := 2) hx hb d_Mo_sources_172 (by decide) ?_
    cases h
    exact ck_iret hx hb hr hlk hK hP hD hS d_Mo_sources_173
  rw [if_neg c_26] at h
  by_cases c_27 : p1 = 25
  · rw [if_pos c_27] at h
    refine lv_tableIn (tgt := 172) hx hb d_Mo_sources_1 (by rw [c_27]; decide) (by rw [c_27]; decide) (by rw [c_27]; rfl) (by decide) ?_
    refine lv_iconst (v := 2) hx hb d_Mo_sources_172 (by decide) ?_
    cases h
    exact ck_iret hx hb hr hlk hK hP hD hS d_Mo_sources_173
  rw [if_neg c_27] at h
  by_cases c_28 : p1 = 26
  · rw [if_pos c_28] at h
    refine lv_tableIn (tgt := 174) hx hb d_Mo_sources_1 (by rw [c_28]; decide) (by rw [c_28]; decide) (by rw [c_28]; rfl) (by decide) ?_
    refine lv_iconst (v := 1) hx hb d_Mo_sources_174 (by decide) ?_
    cases h
    exact ck_iret hx hb hr hlk hK hP hD hS d_Mo_sources_175
  rw [if_neg c_28] at h
  by_cases c_29 : p1 = 27
  · rw [if_pos c_29] at h
    refine lv_tableIn (tgt := 172) hx hb d_Mo_sources_1 (by rw [c_29]; decide) (by rw [c_29]; decide) (by rw [c_29]; rfl) (by decide) ?_
    refine lv_iconst (v := 2) hx hb d_Mo_sources_172 (by decide) ?_
    cases h
    exact ck_iret hx hb hr hlk hK hP hD hS d_Mo_sources_173
  rw [if_neg c_29] at h
  by_cases c_30 : p1 = 28
  · rw [if_pos c_30] at h
    refine lv_tableIn (tgt := 172) hx hb d_Mo_sources_1 (by rw [c_30]; decide) (by rw [c_30]; decide) (by rw [c_30]; rfl) (by decide) ?_
    refine lv_iconst (v := 2) hx hb d_Mo_sources_172 (by decide) ?_
    cases h
    exact ck_iret hx hb hr hlk hK hP hD hS d_Mo_sources_173
  rw [if_neg c_30] at h
  by_cases c_31 : p1 = 29
  · rw [if_pos c_31] at h
    refine lv_tableIn (tgt := 172) hx hb d_Mo_sources_1 (by rw [c_31]; decide) (by rw [c_31]; decide) (by rw [c_31]; rfl) (by decide) ?_
    refine lv_iconst (v := 2) hx hb d_Mo_sources_172 (by decide) ?_
    cases h
    exact ck_iret hx hb hr hlk hK hP hD hS d_Mo_sources_173
  rw [if_neg c_31] at h
  by_cases c_32 : p1 = 30
  · rw [if_pos c_32] at h
    refine lv_tableIn (tgt := 174) hx hb d_Mo_sources_1 (by rw [c_32]; decide) (by rw [c_32]; decide) (by rw [c_32]; rfl) (by decide) ?_
    refine lv_iconst (v := 1) hx hb d_Mo_sources_174 (by decide) ?_
    cases h
    exact ck_iret hx hb hr hlk hK hP hD hS d_Mo_sources_175
  rw [if_neg c_32] at h
  by_cases c_33 : p1 = 31
  · rw [if_pos c_33] at h
    refine lv_tableIn (tgt := 174) hx hb d_Mo_sources_1 (by rw [c_33]; decide) (by rw [c_33]; decide) (by rw [c_33]; rfl) (by decide) ?_
    refine lv_iconst (v := 1) hx hb d_Mo_sources_174 (by decide) ?_
    cases h
    exact ck_iret hx hb hr hlk hK hP hD hS d_Mo_sources_175
  rw [if_neg c_33] at h
  by_cases c_34 : p1 = 32
  · rw [if_pos c_34] at h
    refine lv_tableIn (tgt := 174) hx hb d_Mo_sources_1 (by rw [c_34]; decide) (by rw [c_34]; decide) (by rw [c_34]; rfl) (by decide) ?_
    refine lv_iconst (v := 1) hx hb d_Mo_sources_174 (by decide) ?_
    cases h
    exact ck_iret hx hb hr hlk hK hP hD hS d_Mo_sources_175
  rw [if_neg c_34] at h
  by_cases c_35 : p1 = 33
  · rw [if_pos c_35] at h
    refine lv_tableIn (tgt := 174) hx hb d_Mo_sources_1 (by rw [c_35]; decide) (by rw [c_35]; decide) (by rw [c_35]; rfl) (by decide) ?_
    refine lv_iconst (v := 1) hx hb d_Mo_sources_174 (by decide) ?_
    cases h
    exact ck_iret hx hb hr hlk hK hP hD hS d_Mo_sources_175
  rw [if_neg c_35] at h
  by_cases c_36 : p1 = 34
  · rw [if_pos c_36] at h
    refine lv_tableIn (tgt := 168) hx hb d_Mo_sources_1 (by rw [c_36]; decide) (by rw [c_36]; decide) (by rw [c_36]; rfl) (by decide) ?_
    refine lv_iconst (v := 0) hx hb d_Mo_sources_168 (by decide) ?_
    cases h
    exact ck_iret hx hb hr hlk hK hP hD hS d_Mo_sources_169
  rw [if_neg c_36] at h
  by_cases c_37 : p1 = 35
  · rw [if_pos c_37] at h
    refine lv_tableIn (tgt := 168) hx hb d_Mo_sources_1 (by rw [c_37]; decide) (by rw [c_37]; decide) (by rw [c_37]; rfl) (by decide) ?_
    refine lv_iconst (v := 0) hx hb d_Mo_sources_168 (by decide) ?_
    cases h
    exact ck_iret hx hb hr hlk hK hP hD hS d_Mo_sources_169
  rw [if_neg c_37] at h
  by_cases c_38 : p1 = 36
  · rw [if_pos c_38] at h
    refine lv_tableIn (tgt := 174) hx hb d_Mo_sources_1 (by rw [c_38]; decide) (by rw [c_38]; decide) (by rw [c_38]; rfl) (by decide) ?_
    refine lv_iconst (v := 1) hx hb d_Mo_sources_174 (by decide) ?_
    cases h
    exact ck_iret hx hb hr hlk hK hP hD hS d_Mo_sources_175
  rw [if_neg c_38] at h
  by_cases c_39 : p1 = 37
  · rw [if_pos c_39] at h
    refine lv_tableIn (tgt := 168) hx hb d_Mo_sources_1 (by rw [c_39]; decide) (by rw [c_39]; decide) (by rw [c_39]; rfl) (by decide) ?_
    refine lv_iconst (v := 0) hx hb d_Mo_sources_168 (by decide) ?_
    cases h
    exact ck_iret hx hb hr hlk hK hP hD hS d_Mo_sources_169
  rw [if_neg c_39] at h
  cases h
def pf_Mo_badTarget (p2 : Int32) (n_p1 : Nat) (f_p1 : Nat → Int32) : Option (Int32) :=
  if (0 : Int32) ≤ ((3 : Int32) * p2) ∧ ((3 : Int32) * p2).toNatClampNeg < n_p1 then (
  Option.bind (pf_Mo_hasTarget ((f_p1 ((3 : Int32) * p2).toNatClampNeg) &&& (63 : Int32))) (fun r_3 => 
  if r_3 = 0 then
    if (((f_p1 ((3 : Int32) * p2).toNatClampNeg) >>> ((6 : Int32) &&& 31)) &&& (2047 : Int32)) = 0 then
      some (0 : Int32)
    else
      some (1 : Int32)
  else
    if (1 : Int32) < (((f_p1 ((3 : Int32) * p2).toNatClampNeg) >>> ((6 : Int32) &&& 31)) &&& (3 : Int32)) then
      some (1 : Int32)
    else
      if (((f_p1 ((3 : Int32) * p2).toNatClampNeg) >>> ((6 : Int32) &&& 31)) &&& (3 : Int32)) = (1 : Int32) then
        if (8 : Int32) ≤ (((f_p1 ((3 : Int32) * p2).toNatClampNeg) >>> ((8 : Int32) &&& 31)) &&& (15 : Int32)) then
          some (1 : Int32)
        else
          if (((f_p1 ((3 : Int32) * p2).toNatClampNeg) >>> ((12 : Int32) &&& 31)) &&& (15 : Int32)) = 0 then
            some (1 : Int32)
          else
            some (0 : Int32)
      else
        if (((f_p1 ((3 : Int32) * p2).toNatClampNeg) >>> ((12 : Int32) &&& 31)) &&& (15 : Int32)) = 0 then
          some (1 : Int32)
        else
          some (0 : Int32))) else none
set_option maxHeartbeats 4000000 in
set_option maxRecDepth 100000 in
theorem k_Mo_badTarget (l : Launch) (dC : Nat → ClassId) (dI : Nat → Nat → Nat) (cI cJ : ClassId) (p2 : Int32) (n_p1 : Nat) (f_p1 : Nat → Int32) (q_p1 : Nat) (r : Int32) (h : pf_Mo_badTarget p2 n_p1 f_p1 = some r) : ck_i l y_Mo_badTarget wm_Mo_badTarget ({ frames := 1, cells := 0, slots := 0, locals := 20 } : Room) [.ref q_p1, .int p2] (dC, dI) [(cI, .int), (cJ, .long)] [(q_p1, .inl (cI, n_p1, .inl f_p1))] r [(q_p1, .inl (cI, n_p1, .inl f_p1))] := by
  refine ck_ofi (cc := c_Mo_badTarget) (maxL := 4) (ret := (some .boolean)) (by decide +kernel) rfl ?_
  intro p e s m below meth c A C0 hK hP hD hS hE
  obtain ⟨hx, hb, hr, hml, hown, hts, hlk, hA, hin⟩ := C0
  unfold pf_Mo_badTarget at h
  have hl := lv_entry ([.ref q_p1, .int p2]) (n := 4) (Nat.le_of_ble_eq_true rfl)
  rw [lg_entry_eq]
  generalize (lg_sl ([.ref q_p1, .int p2]) ++ List.replicate (4 - (lg_sl ([.ref q_p1, .int p2])).length) Slot.unset).toArray = ls at hl ⊢
  have hl : lv_has ls 4 [(0, .ref q_p1), (1, .int p2)] := hl
  refine lv_aload_n hx hb d_Mo_badTarget_0 rfl (lv_at hl 0 rfl) ?_
  refine lv_iconst (v := 3) hx hb d_Mo_badTarget_1 (by decide) ?_
  refine lv_iload_n hx hb d_Mo_badTarget_2 rfl (lv_at hl 1 rfl) ?_
  refine lv_imul hx hb d_Mo_badTarget_3 ?_
  obtain ⟨c_1, h⟩ := ch_ite h
  refine va_iald hx hb hK hP 0 0 rfl rfl (ch_in c_1) d_Mo_badTarget_4 ?_
  refine lv_istore_n (lv' := [(2, .int (f_p1 ((3 : Int32) * p2).toNatClampNeg)), (0, .ref q_p1), (1, .int p2)]) hx hb d_Mo_badTarget_5 rfl hl (by decide) rfl (fun ls hl => ?_)
  refine lv_iload_n hx hb d_Mo_badTarget_6 rfl (lv_at hl 0 rfl) ?_
  refine lv_bipush (v := 63) hx hb d_Mo_badTarget_7 (by decide) ?_
  refine lv_iand hx hb d_Mo_badTarget_9 ?_
  obtain ⟨r_3, h_2, h⟩ := ch_bind h
  try dsimp only at h
  refine ck_goi (wc := []) (wr := [(q_p1, .inl (cI, n_p1, .inl f_p1))]) (w1 := []) (va_runS (As := [.int ((f_p1 ((3 : Int32) * p2).toNatClampNeg) &&& (63 : Int32))]) (rest := []) ⟨hx, hb, hml, hown, hts⟩ (k_Mo_hasTarget l dC dI cI cJ ((f_p1 ((3 : Int32) * p2).toNatClampNeg) &&& (63 : Int32)) r_3 h_2 _) (va_cwS 1 hts (gw_S tw_812 tw_813 tw_9 tw_814) rfl rfl rfl (by decide +kernel) ⟨Nat.le_of_ble_eq_true rfl, Nat.le_of_ble_eq_true rfl⟩) (ck_preS (wc := []) hK hP hD hS hA hE [] (by decide) rfl) rfl rfl hl.1 rfl (lv_room (Nat.le_of_ble_eq_true rfl)) d_Mo_badTarget_10 ⟨Nat.le_of_ble_eq_true rfl, Nat.le_of_ble_eq_true rfl⟩) hP hD hS hA [] [0] rfl rfl (by decide) (by decide) (fun H locs hP hD hS => ?_)
  have hP : va_P (dC, dI) vwCl [(q_p1, .inl (cI, n_p1, .inl f_p1))] H := hP.sub [0] rfl
  have hD : va_D A [(q_p1, .inl (cI, n_p1, .inl f_p1))] := hD.sub [0] (by decide) rfl
  refine lv_if_ne (tgt := 33) hx hb d_Mo_badTarget_13 (by decide) (fun c_4 => ?_) (fun c_4 => ?_)
  · rw [if_neg c_4] at h
    refine lv_iload_n hx hb d_Mo_badTarget_33 rfl (lv_at hl 0 rfl) ?_
    refine lv_bipush (v := 6) hx hb d_Mo_badTarget_34 (by decide) ?_
    refine lv_ishr hx hb d_Mo_badTarget_36 ?_
    refine lv_iconst (v := 3) hx hb d_Mo_badTarget_37 (by decide) ?_
    refine lv_iand hx hb d_Mo_badTarget_38 ?_
    refine lv_istore_n (lv' := [(3, .int (((f_p1 ((3 : Int32) * p2).toNatClampNeg) >>> ((6 : Int32) &&& 31)) &&& (3 : Int32))), (2, .int (f_p1 ((3 : Int32) * p2).toNatClampNeg)), (0, .ref q_p1), (1, .int p2)]) hx hb d_Mo_badTarget_39 rfl hl (by decide) rfl (fun ls hl => ?_)
    refine lv_iload_n hx hb d_Mo_badTarget_40 rfl (lv_at hl 0 rfl) ?_
    refine lv_iconst (v := 1) hx hb d_Mo_badTarget_41 (by decide) ?_
    refine lv_icmp_gt (tgt := 72) hx hb d_Mo_badTarget_42 (by decide) (fun c_5 => ?_) (fun c_5 => ?_)
    · rw [if_pos c_5] at h
      refine lv_iconst (v := 1) hx hb d_Mo_badTarget_72 (by decide) ?_
      refine lv_goto (tgt := 77) hx hb d_Mo_badTarget_73 (by decide) ?_
      cases h
      exact ck_zret hx hb hr rfl hlk hK hP hD hS d_Mo_badTarget_77
    · rw [if_neg c_5] at h
      refine lv_iload_n hx hb d_Mo_badTarget_45 rfl (lv_at hl 0 rfl) ?_
      refine lv_iconst (v := 1) hx hb d_Mo_badTarget_46 (by decide) ?_
      refine lv_icmp_ne (tgt := 62) hx hb d_Mo_badTarget_47 (by decide) (fun c_6 => ?_) (fun c_6 => ?_)
      · rw [if_neg c_6] at h
        refine lv_iload_n hx hb d_Mo_badTarget_62 rfl (lv_at hl 1 rfl) ?_
        refine lv_bipush (v := 12) hx hb d_Mo_badTarget_63 (by decide) ?_
        refine lv_ishr hx hb d_Mo_badTarget_65 ?_
        refine lv_bipush (v := 15) hx hb d_Mo_badTarget_66 (by decide) ?_
        refine lv_iand hx hb d_Mo_badTarget_68 ?_
        refine lv_if_ne (tgt := 76) hx hb d_Mo_badTarget_69 (by decide) (fun c_7 => ?_) (fun c_7 => ?_)
        · rw [if_neg c_7] at h
          refine lv_iconst (v := 0) hx hb d_Mo_badTarget_76 (by decide) ?_
          cases h
          exact ck_zret hx hb hr rfl hlk hK hP hD hS d_Mo_badTarget_77
        · rw [if_pos c_7] at h
          refine lv_iconst (v := 1) hx hb d_Mo_badTarget_72 (by decide) ?_
          refine lv_goto (tgt := 77) hx hb d_Mo_badTarget_73 (by decide) ?_
          cases h
          exact ck_zret hx hb hr rfl hlk hK hP hD hS d_Mo_badTarget_77
      · rw [if_pos c_6] at h
        refine lv_iload_n hx hb d_Mo_badTarget_50 rfl (lv_at hl 1 rfl) ?_
        refine lv_bipush (v := 8) hx hb d_Mo_badTarget_51 (by decide) ?_
        refine lv_ishr hx hb d_Mo_badTarget_53 ?_
        refine lv_bipush (v := 15) hx hb d_Mo_badTarget_54 (by decide) ?_
        refine lv_iand hx hb d_Mo_badTarget_56 ?_
        refine lv_bipush (v := 8) hx hb d_Mo_badTarget_57 (by decide) ?_
        refine lv_icmp_ge (tgt := 72) hx hb d_Mo_badTarget_59 (by decide) (fun c_8 => ?_) (fun c_8 => ?_)
        · rw [if_pos c_8] at h
          refine lv_iconst (v := 1) hx hb d_Mo_badTarget_72 (by decide) ?_
          refine lv_goto (tgt := 77) hx hb d_Mo_badTarget_73 (by decide) ?_
          cases h
          exact ck_zret hx hb hr rfl hlk hK hP hD hS d_Mo_badTarget_77
        · rw [if_neg c_8] at h
          refine lv_iload_n hx hb d_Mo_badTarget_62 rfl (lv_at hl 1 rfl) ?_
          refine lv_bipush (v := 12) hx hb d_Mo_badTarget_63 (by decide) ?_
          refine lv_ishr hx hb d_Mo_badTarget_65 ?_
          refine lv_bipush (v := 15) hx hb d_Mo_badTarget_66 (by decide) ?_
          refine lv_iand hx hb d_Mo_badTarget_68 ?_
          refine lv_if_ne (tgt := 76) hx hb d_Mo_badTarget_69 (by decide) (fun c_9 => ?_) (fun c_9 => ?_)
          · rw [if_neg c_9] at h
            refine lv_iconst (v := 0) hx hb d_Mo_badTarget_76 (by decide) ?_
            cases h
            exact ck_zret hx hb hr rfl hlk hK hP hD hS d_Mo_badTarget_77
          · rw [if_pos c_9] at h
            refine lv_iconst (v := 1) hx hb d_Mo_badTarget_72 (by decide) ?_
            refine lv_goto (tgt := 77) hx hb d_Mo_badTarget_73 (by decide) ?_
            cases h
            exact ck_zret hx hb hr rfl hlk hK hP hD hS d_Mo_badTarget_77
  · rw [if_pos c_4] at h
    refine lv_iload_n hx hb d_Mo_badTarget_16 rfl (lv_at hl 0 rfl) ?_
    refine lv_bipush (v := 6) hx hb d_Mo_badTarget_17 (by decide) ?_
    refine lv_ishr hx hb d_Mo_badTarget_19 ?_
    refine lv_sipush (v := 2047) hx hb d_Mo_badTarget_20 (by decide) ?_
    refine lv_iand hx hb d_Mo_badTarget_23 ?_
    refine lv_if_eq (tgt := 31) hx hb d_Mo_badTarget_24 (by decide) (fun c_10 => ?_) (fun c_10 => ?_)
    · rw [if_pos c_10] at h
      refine lv_iconst (v := 0) hx hb d_Mo_badTarget_31 (by decide) ?_
      cases h
      exact ck_zret hx hb hr rfl hlk hK hP hD hS d_Mo_badTarget_32
    · rw [if_neg c_10] at h
      refine lv_iconst (v := 1) hx hb d_Mo_badTarget_27 (by decide) ?_
      refine lv_goto (tgt := 32) hx hb d_Mo_badTarget_28 (by decide) ?_
      cases h
      exact ck_zret hx hb hr rfl hlk hK hP hD hS d_Mo_badTarget_32
