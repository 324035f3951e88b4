def pf_Mo_badSource (p1 : Int32) (p2 : Int32) : Option (Int32) :=
  if p2 = 0 then
    if p1 = 0 then
      some (0 : Int32)
    else
      some (1 : Int32)
  else
    if (p1 &&& (3 : Int32)) = 0 then
      if (15 : Int32) < ((p1 >>> ((2 : Int32) &&& 31)) &&& (31 : Int32)) then
        some (1 : Int32)
      else
        if (p1 &&& (3 : Int32)) = (1 : Int32) then
          if (7 : Int32) < ((p1 >>> ((2 : Int32) &&& 31)) &&& (31 : Int32)) then
            some (1 : Int32)
          else
            if (p1 &&& (3 : Int32)) = (3 : Int32) then
              if ((p1 >>> ((2 : Int32) &&& 31)) &&& (31 : Int32)) ≤ 0 then
                some (0 : Int32)
              else
                some (1 : Int32)
            else
              some (0 : Int32)
        else
          if (p1 &&& (3 : Int32)) = (3 : Int32) then
            if ((p1 >>> ((2 : Int32) &&& 31)) &&& (31 : Int32)) ≤ 0 then
              some (0 : Int32)
            else
              some (1 : Int32)
          else
            some (0 : Int32)
    else
      if (p1 &&& (3 : Int32)) = (1 : Int32) then
        if (7 : Int32) < ((p1 >>> ((2 : Int32) &&& 31)) &&& (31 : Int32)) then
          some (1 : Int32)
        else
          if (p1 &&& (3 : Int32)) = (3 : Int32) then
            if ((p1 >>> ((2 : Int32) &&& 31)) &&& (31 : Int32)) ≤ 0 then
              some (0 : Int32)
            else
              some (1 : Int32)
          else
            some (0 : Int32)
      else
        if (p1 &&& (3 : Int32)) = (3 : Int32) then
          if ((p1 >>> ((2 : Int32) &&& 31)) &&& (31 : Int32)) ≤ 0 then
            some (0 : Int32)
          else
            some (1 : Int32)
        else
          some (0 : Int32)
set_option maxHeartbeats 4000000 in
set_option maxRecDepth 100000 in
theorem k_Mo_badSource (l : Launch) (dC : Nat → ClassId) (dI : Nat → Nat → Nat) (cI cJ : ClassId) (p1 : Int32) (p2 : Int32) (r : Int32) (h : pf_Mo_badSource p1 p2 = some r) : ck_i l y_Mo_badSource wm_Mo_badSource ({ frames := 0, cells := 0, slots := 0, locals := 0 } : Room) [.int p1, .int p2] (dC, dI) [(cI, .int), (cJ, .long)] [] r [] := by
  refine ck_ofi (cc := c_Mo_badSource) (maxL := 4) (ret := (some .boolean)) (by decide +kernel) rfl ?_
  intro p e s m below meth c A C0 hK hP hD hS hE
  obtain ⟨hx, hb, hr, hml, hown, hts, hlk, hA, hin⟩ := C0
  unfold pf_Mo_badSource at h
  have hl := lv_entry ([.int p1, .int p2]) (n := 4) (Nat.le_of_ble_eq_true rfl)
  rw [lg_entry_eq]
  generalize (lg_sl ([.int p1, .int p2]) ++ List.replicate (4 - (lg_sl ([.int p1, .int p2])).length) Slot.unset).toArray = ls at hl ⊢
  have hl : lv_has ls 4 [(0, .int p1), (1, .int p2)] := hl
  refine lv_iload_n hx hb d_Mo_badSource_0 rfl (lv_at hl 1 rfl) ?_
  refine lv_if_ne (tgt := 14) hx hb d_Mo_badSource_1 (by decide) (fun c_1 => ?_) (fun c_1 => ?_)
  · rw [if_neg c_1] at h
    refine lv_iload_n hx hb d_Mo_badSource_14 rfl (lv_at hl 0 rfl) ?_
    refine lv_iconst (v := 3) hx hb d_Mo_badSource_15 (by decide) ?_
    refine lv_iand hx hb d_Mo_badSource_16 ?_
    refine lv_istore_n (lv' := [(2, .int (p1 &&& (3 : Int32))), (0, .int p1), (1, .int p2)]) hx hb d_Mo_badSource_17 rfl hl (by decide) rfl (fun ls hl => ?_)
    refine lv_iload_n hx hb d_Mo_badSource_18 rfl (lv_at hl 1 rfl) ?_
    refine lv_iconst (v := 2) hx hb d_Mo_badSource_19 (by decide) ?_
    refine lv_ishr hx hb d_Mo_badSource_20 ?_
    refine lv_bipush (v := 31) hx hb d_Mo_badSource_21 (by decide) ?_
    refine lv_iand hx hb d_Mo_badSource_23 ?_
    refine lv_istore_n (lv' := [(3, .int ((p1 >>> ((2 : Int32) &&& 31)) &&& (31 : Int32))), (2, .int (p1 &&& (3 : Int32))), (0, .int p1), (1, .int p2)]) hx hb d_Mo_badSource_24 rfl hl (by decide) rfl (fun ls hl => ?_)
    refine lv_iload_n hx hb d_Mo_badSource_25 rfl (lv_at hl 1 rfl) ?_
    refine lv_if_ne (tgt := 35) hx hb d_Mo_badSource_26 (by decide) (fun c_2 => ?_) (fun c_2 => ?_)
    · rw [if_neg c_2] at h
      refine lv_iload_n hx hb d_Mo_badSource_35 rfl (lv_at hl 1 rfl) ?_
      refine lv_iconst (v := 1) hx hb d_Mo_badSource_36 (by decide) ?_
      refine lv_icmp_ne (tgt := 46) hx hb d_Mo_badSource_37 (by decide) (fun c_3 => ?_) (fun c_3 => ?_)
      · rw [if_neg c_3] at h
        refine lv_iload_n hx hb d_Mo_badSource_46 rfl (lv_at hl 1 rfl) ?_
        refine lv_iconst (v := 3) hx hb d_Mo_badSource_47 (by decide) ?_
        refine lv_icmp_ne (tgt := 59) hx hb d_Mo_badSource_48 (by decide) (fun c_4 => ?_) (fun c_4 => ?_)
        · rw [if_neg c_4] at h
          refine lv_iconst (v := 0) hx hb d_Mo_badSource_59 (by decide) ?_
          cases h
          exact ck_zret hx hb hr rfl hlk hK hP hD hS d_Mo_badSource_60
        · rw [if_pos c_4] at h
          refine lv_iload_n hx hb d_Mo_badSource_51 rfl (lv_at hl 0 rfl) ?_
          refine lv_if_le (tgt := 59) hx hb d_Mo_badSource_52 (by decide) (fun c_5 => ?_) (fun c_5 => ?_)
          · rw [if_pos c_5] at h
            refine lv_iconst (v := 0) hx hb d_Mo_badSource_59 (by decide) ?_
            cases h
            exact ck_zret hx hb hr rfl hlk hK hP hD hS d_Mo_badSource_60
          · rw [if_neg c_5] at h
            refine lv_iconst (v := 1) hx hb d_Mo_badSource_55 (by decide) ?_
            refine lv_goto (tgt := 60) hx hb d_Mo_badSource_56 (by decide) ?_
            cases h
            exact ck_zret hx hb hr rfl hlk hK hP hD hS d_Mo_badSource_60
      · rw [if_pos c_3] at h
        refine lv_iload_n hx hb d_Mo_badSource_40 rfl (lv_at hl 0 rfl) ?_
        refine lv_bipush (v := 7) hx hb d_Mo_badSource_41 (by decide) ?_
        refine lv_icmp_gt (tgt := 55) hx hb d_Mo_badSource_43 (by decide) (fun c_6 => ?_) (fun c_6 => ?_)
        · rw [if_pos c_6] at h
          refine lv_iconst (v := 1) hx hb d_Mo_badSource_55 (by decide) ?_
          refine lv_goto (tgt := 60) hx hb d_Mo_badSource_56 (by decide) ?_
          cases h
          exact ck_zret hx hb hr rfl hlk hK hP hD hS d_Mo_badSource_60
        · rw [if_neg c_6] at h
          refine lv_iload_n hx hb d_Mo_badSource_46 rfl (lv_at hl 1 rfl) ?_
          refine lv_iconst (v := 3) hx hb d_Mo_badSource_47 (by decide) ?_
          refine lv_icmp_ne (tgt := 59) hx hb d_Mo_badSource_48 (by decide) (fun c_7 => ?_) (fun c_7 => ?_)
          · rw [if_neg c_7] at h
            refine lv_iconst (v := 0) hx hb d_Mo_badSource_59 (by decide) ?_
            cases h
            exact ck_zret hx hb hr rfl hlk hK hP hD hS d_Mo_badSource_60
          · rw [if_pos c_7] at h
            refine lv_iload_n hx hb d_Mo_badSource_51 rfl (lv_at hl 0 rfl) ?_
            refine lv_if_le (tgt := 59) hx hb d_Mo_badSource_52 (by decide) (fun c_8 => ?_) (fun c_8 => ?_)
            · rw [if_pos c_8] at h
              refine lv_iconst (v := 0) hx hb d_Mo_badSource_59 (by decide) ?_
              cases h
              exact ck_zret hx hb hr rfl hlk hK hP hD hS d_Mo_badSource_60
            · rw [if_neg c_8] at h
              refine lv_iconst (v := 1) hx hb d_Mo_badSource_55 (by decide) ?_
              refine lv_goto (tgt := 60) hx hb d_Mo_badSource_56 (by decide) ?_
              cases h
              exact ck_zret hx hb hr rfl hlk hK hP hD hS d_Mo_badSource_60
    · rw [if_pos c_2] at h
      refine lv_iload_n hx hb d_Mo_badSource_29 rfl (lv_at hl 0 rfl) ?_
      refine lv_bipush (v := 15) hx hb d_Mo_badSource_30 (by decide) ?_
      refine lv_icmp_gt (tgt := 55) hx hb d_Mo_badSource_32 (by decide) (fun c_9 => ?_) (fun c_9 => ?_)
      · rw [if_pos c_9] at h
        refine lv_iconst (v := 1) hx hb d_Mo_badSource_55 (by decide) ?_
        refine lv_goto (tgt := 60) hx hb d_Mo_badSource_56 (by decide) ?_
        cases h
        exact ck_zret hx hb hr rfl hlk hK hP hD hS d_Mo_badSource_60
      · rw [if_neg c_9] at h
        refine lv_iload_n hx hb d_Mo_badSource_35 rfl (lv_at hl 1 rfl) ?_
        refine lv_iconst (v := 1) hx hb d_Mo_badSource_36 (by decide) ?_
        refine lv_icmp_ne (tgt := 46) hx hb d_Mo_badSource_37 (by decide) (fun c_10 => ?_) (fun c_10 => ?_)
        · rw [if_neg c_10] at h
          refine lv_iload_n hx hb d_Mo_badSource_46 rfl (lv_at hl 1 rfl) ?_
          refine lv_iconst (v := 3) hx hb d_Mo_badSource_47 (by decide) ?_
          refine lv_icmp_ne (tgt := 59) hx hb d_Mo_badSource_48 (by decide) (fun c_11 => ?_) (fun c_11 => ?_)
          · rw [if_neg c_11] at h
            refine lv_iconst (v := 0) hx hb d_Mo_badSource_59 (by decide) ?_
            cases h
            exact ck_zret hx hb hr rfl hlk hK hP hD hS d_Mo_badSource_60
          · rw [if_pos c_11] at h
            refine lv_iload_n hx hb d_Mo_badSource_51 rfl (lv_at hl 0 rfl) ?_
            refine lv_if_le (tgt := 59) hx hb d_Mo_badSource_52 (by decide) (fun c_12 => ?_) (fun c_12 => ?_)
            · rw [if_pos c_12] at h
              refine lv_iconst (v := 0) hx hb d_Mo_badSource_59 (by decide) ?_
              cases h
              exact ck_zret hx hb hr rfl hlk hK hP hD hS d_Mo_badSource_60
            · rw [if_neg c_12] at h
              refine lv_iconst (v := 1) hx hb d_Mo_badSource_55 (by decide) ?_
              refine lv_goto (tgt := 60) hx hb d_Mo_badSource_56 (by decide) ?_
              cases h
              exact ck_zret hx hb hr rfl hlk hK hP hD hS d_Mo_badSource_60
        · rw [if_pos c_10] at h
          refine lv_iload_n hx hb d_Mo_badSource_40 rfl (lv_at hl 0 rfl) ?_
          refine lv_bipush (v := 7) hx hb d_Mo_badSource_41 (by decide) ?_
          refine lv_icmp_gt (tgt := 55) hx hb d_Mo_badSource_43 (by decide) (fun c_13 => ?_) (fun c_13 => ?_)
          · rw [if_pos c_13] at h
            refine lv_iconst (v := 1) hx hb d_Mo_badSource_55 (by decide) ?_
            refine lv_goto (tgt := 60) hx hb d_Mo_badSource_56 (by decide) ?_
            cases h
            exact ck_zret hx hb hr rfl hlk hK hP hD hS d_Mo_badSource_60
          · rw [if_neg c_13] at h
            refine lv_iload_n hx hb d_Mo_badSource_46 rfl (lv_at hl 1 rfl) ?_
            refine lv_iconst (v := 3) hx hb d_Mo_badSource_47 (by decide) ?_
            refine lv_icmp_ne (tgt := 59) hx hb d_Mo_badSource_48 (by decide) (fun c_14 => ?_) (fun c_14 => ?_)
            · rw [if_neg c_14] at h
              refine lv_iconst (v := 0) hx hb d_Mo_badSource_59 (by decide) ?_
              cases h
              exact ck_zret hx hb hr rfl hlk hK hP hD hS d_Mo_badSource_60
            · rw [if_pos c_14] at h
              refine lv_iload_n hx hb d_Mo_badSource_51 rfl (lv_at hl 0 rfl) ?_
              refine lv_if_le (tgt := 59) hx hb d_Mo_badSource_52 (by decide) (fun c_15 => ?_) (fun c_15 => ?_)
              · rw [if_pos c_15] at h
                refine lv_iconst (v := 0) hx hb d_Mo_badSource_59 (by decide) ?_
                cases h
                exact ck_zret hx hb hr rfl hlk hK hP hD hS d_Mo_badSource_60
              · rw [if_neg c_15] at h
                refine lv_iconst (v := 1) hx hb d_Mo_badSource_55 (by decide) ?_
                refine lv_goto (tgt := 60) hx hb d_Mo_badSource_56 (by decide) ?_
                cases h
                exact ck_zret hx hb hr rfl hlk hK hP hD hS d_Mo_badSource_60
  · rw [if_pos c_1] at h
    refine lv_iload_n hx hb d_Mo_badSource_4 rfl (lv_at hl 0 rfl) ?_
    refine lv_if_eq (tgt := 12) hx hb d_Mo_badSource_5 (by decide) (fun c_16 => ?_) (fun c_16 => ?_)
    · rw [if_pos c_16] at h
      refine lv_iconst (v := 0) hx hb d_Mo_badSource_12 (by decide) ?_
      cases h
      exact ck_zret hx hb hr rfl hlk hK hP hD hS d_Mo_badSource_13
    · rw [if_neg c_16] at h
      refine lv_iconst (v := 1) hx hb d_Mo_badSource_8 (by decide) ?_
      refine lv_goto (tgt := 13) hx hb d_Mo_badSource_9 (by decide) ?_
      cases h
      exact ck_zret hx hb hr rfl hlk hK hP hD hS d_Mo_badSource_13
def pf_Mo_badSources_31 (fu : Nat) (n_p1 : Nat) (f_p1 : Nat → Int32) : Nat → Int32 → Int32 → Int32 → Int32 → Option (Int32)
  | 0, _, _, _, _ => none
  | n + 1, x1, x2, x3, x4 =>
    if (3 : Int32) ≤ x4 then
      if x3 = 0 ∨ x3 = 1 then (
      some x3) else none
    else
      if x3 = 0 then
        Option.bind (pf_Mo_sourceOf x1 x4 n_p1 f_p1) (fun r_11 => 
        if x2 ≤ x4 then
          Option.bind (pf_Mo_badSource r_11 (0 : Int32)) (fun r_14 => 
          if r_14 = 0 then
            pf_Mo_badSources_31 fu n_p1 f_p1 n x1 x2 (0 : Int32) (x4 + 1)
          else
            pf_Mo_badSources_31 fu n_p1 f_p1 n x1 x2 (1 : Int32) (x4 + 1))
        else
          Option.bind (pf_Mo_badSource r_11 (1 : Int32)) (fun r_17 => 
          if r_17 = 0 then
            pf_Mo_badSources_31 fu n_p1 f_p1 n x1 x2 (0 : Int32) (x4 + 1)
          else
            pf_Mo_badSources_31 fu n_p1 f_p1 n x1 x2 (1 : Int32) (x4 + 1)))
      else
        pf_Mo_badSources_31 fu n_p1 f_p1 n x1 x2 (1 : Int32) (x4 + 1)
def pf_Mo_badSources (fu : Nat) (p2 : Int32) (n_p1 : Nat) (f_p1 : Nat → Int32) : Option (Int32) :=
  Option.bind (pf_Mo_kindOf p2 n_p1 f_p1) (fun r_2 => 
  Option.bind (pf_Mo_sources r_2) (fun r_4 => 
  if (0 : Int32) ≤ (((3 : Int32) * p2) + (2 : Int32)) ∧ (((3 : Int32) * p2) + (2 : Int32)).toNatClampNeg < n_p1 then (
  if (((f_p1 (((3 : Int32) * p2) + (2 : Int32)).toNatClampNeg).toUInt32 >>> ((16 : Int32).toUInt32 &&& Int32.toUInt32 31)).toInt32) = 0 then
    pf_Mo_badSources_31 fu n_p1 f_p1 fu p2 r_4 (0 : Int32) (0 : Int32)
  else
    pf_Mo_badSources_31 fu n_p1 f_p1 fu p2 r_4 (1 : Int32) (0 : Int32)) else none))
set_option maxHeartbeats 4000000 in
set_option maxRecDepth 100000 in
theorem k_Mo_badSources (l : Launch) (dC : Nat → ClassId) (dI : Nat → Nat → Nat) (cI cJ : ClassId) (fu : Nat) (p2 : Int32) (n_p1 : Nat) (f_p1 : Nat → Int32) (q_p1 : Nat) (r : Int32) (h : pf_Mo_badSources fu p2 n_p1 f_p1 = some r) : ck_i l y_Mo_badSources wm_Mo_badSources ({ frames := 1, cells := 0, slots := 0, locals := 23 } : Room) [.ref q_p1, .int p2] (dC, dI) [(cI, .int), (cJ, .long)] [(q_p1, .inl (cI, n_p1, .inl f_p1))] r [(q_p1, .inl (cI, n_p1, .inl f_p1))] := by
  refine ck_ofi (cc := c_Mo_badSources) (maxL := 5) (ret := (some .boolean)) (by decide +kernel) rfl ?_
  intro p e s m below meth c A C0 hK hP hD hS hE
  obtain ⟨hx, hb, hr, hml, hown, hts, hlk, hA, hin⟩ := C0
  have w_31 : ∀ (n_31 : Nat) (x1 : Int32) (x2 : Int32) (x3 : Int32) (x4 : Int32), pf_Mo_badSources_31 fu n_p1 f_p1 n_31 x1 x2 x3 x4 = some r → ∀ (H : Heap) (locs : List Loc), va_P (dC, dI) vwCl [(q_p1, .inl (cI, n_p1, .inl f_p1))] H → va_D A [(q_p1, .inl (cI, n_p1, .inl f_p1))] → va_S A s.heap H locs → ∀ ls : Array Slot, lv_has ls 5 [(0, .ref q_p1), (1, .int x1), (2, .int x2), (3, .int x3), (4, .int x4)] → W p l e ({ frames := 1, cells := 0, slots := 0, locals := 23 } : Room) s m ([.ref q_p1, .int p2] : List Value).toArray below meth c H locs 0 0 (ck_Qi below (dC, dI) [(cI, .int), (cJ, .long)] A ([.ref q_p1, .int p2] : List Value).toArray s r [(q_p1, .inl (cI, n_p1, .inl f_p1))]) (F0 m 31 ls []) := by
    intro n_31
    induction n_31 with
    | zero =>
      intro x1 x2 x3 x4 h
      cases h
    | succ n_31 ih_31 =>
      intro x1 x2 x3 x4 h H locs hP hD hS ls hl
      rw [pf_Mo_badSources_31] at h
      refine lv_iload hx hb d_Mo_badSources_31 (lv_at hl 4 rfl) ?_
      refine lv_iconst (v := 3) hx hb d_Mo_badSources_33 (by decide) ?_
      refine lv_icmp_ge (tgt := 77) hx hb d_Mo_badSources_34 (by decide) (fun c_7 => ?_) (fun c_7 => ?_)
      · rw [if_pos c_7] at h
        refine lv_iload_n hx hb d_Mo_badSources_77 rfl (lv_at hl 3 rfl) ?_
        obtain ⟨c_8, h⟩ := ch_ite h
        cases h
        exact ck_zret hx hb hr (ch_bool c_8) hlk hK hP hD hS d_Mo_badSources_78
      · rw [if_neg c_7] at h
        refine lv_iload_n hx hb d_Mo_badSources_37 rfl (lv_at hl 3 rfl) ?_
        refine lv_if_ne (tgt := 65) hx hb d_Mo_badSources_38 (by decide) (fun c_9 => ?_) (fun c_9 => ?_)
        · rw [if_neg c_9] at h
          refine lv_iconst (v := 1) hx hb d_Mo_badSources_65 (by decide) ?_
          refine lv_goto (tgt := 70) hx hb d_Mo_badSources_66 (by decide) ?_
          refine lv_istore_n (lv' := [(3, .int (1 : Int32)), (0, .ref q_p1), (1, .int x1), (2, .int x2), (4, .int x4)]) hx hb d_Mo_badSources_70 rfl hl (by decide) rfl (fun ls hl => ?_)
          refine lv_iinc (v := (x4 + 1)) (lv' := [(4, .int (x4 + 1)), (3, .int (1 : Int32)), (0, .ref q_p1), (1, .int x1), (2, .int x2)]) hx hb d_Mo_badSources_71 hl (k := 4) rfl (by rfl) (by decide) rfl (fun ls hl => ?_)
          refine lv_goto (tgt := 31) hx hb d_Mo_badSources_74 (by decide) ?_
          exact ih_31 x1 x2 (1 : Int32) (x4 + 1) h _ _ hP hD hS _ (lv_sub hl [2, 3, 4, 1, 0] rfl)
        · rw [if_pos c_9] at h
          refine lv_aload_n hx hb d_Mo_badSources_41 rfl (lv_at hl 0 rfl) ?_
          refine lv_iload_n hx hb d_Mo_badSources_42 rfl (lv_at hl 1 rfl) ?_
          refine lv_iload hx hb d_Mo_badSources_43 (lv_at hl 4 rfl) ?_
          obtain ⟨r_11, h_10, h⟩ := ch_bind h
          try dsimp only at h
          refine ck_goi (wc := [(q_p1, .inl (cI, n_p1, .inl f_p1))]) (wr := []) (w1 := [(q_p1, .inl (cI, n_p1, .inl f_p1))]) (va_runS (As := [.ref q_p1, .int x1, .int x4]) (rest := []) ⟨hx, hb, hml, hown, hts⟩ (k_Mo_sourceOf l dC dI cI cJ x1 x4 n_p1 f_p1 q_p1 r_11 h_10 _) (va_cwS 3 hts (gw_S tw_821 tw_822 tw_9 tw_823) rfl rfl rfl (by decide +kernel) ⟨Nat.le_of_ble_eq_true rfl, Nat.le_of_ble_eq_true rfl⟩) (ck_preS (wc := [(q_p1, .inl (cI, n_p1, .inl f_p1))]) hK hP hD hS hA hE [0] (by decide) rfl) rfl rfl hl.1 rfl (lv_room (Nat.le_of_ble_eq_true rfl)) d_Mo_badSources_45 ⟨Nat.le_of_ble_eq_true rfl, Nat.le_of_ble_eq_true rfl⟩) hP hD hS hA [0] [] rfl rfl (by decide) (by decide) (fun H locs hP hD hS => ?_)
          have hP : va_P (dC, dI) vwCl [(q_p1, .inl (cI, n_p1, .inl f_p1))] H := hP.sub [0] rfl
          have hD : va_D A [(q_p1, .inl (cI, n_p1, .inl f_p1))] := hD.sub [0] (by decide) rfl
          refine lv_iload hx hb d_Mo_badSources_48 (lv_at hl 4 rfl) ?_
          refine lv_iload_n hx hb d_Mo_badSources_50 rfl (lv_at hl 2 rfl) ?_
          refine lv_icmp_ge (tgt := 58) hx hb d_Mo_badSources_51 (by decide) (fun c_12 => ?_) (fun c_12 => ?_)
          · rw [if_pos c_12] at h
            refine lv_iconst (v := 0) hx hb d_Mo_badSources_58 (by decide) ?_
            obtain ⟨r_14, h_13, h⟩ := ch_bind h
            try dsimp only at h
            refine ck_goi (wc := []) (wr := [(q_p1, .inl (cI, n_p1, .inl f_p1))]) (w1 := []) (va_runS (As := [.int r_11, .int (0 : Int32)]) (rest := []) ⟨hx, hb, hml, hown, hts⟩ (k_Mo_badSource l dC dI cI cJ r_11 (0 : Int32) r_14 h_13 _) (va_cwS 2 hts (gw_S tw_825 tw_826 tw_9 tw_827) rfl rfl rfl (by decide +kernel) ⟨Nat.le_of_ble_eq_true rfl, Nat.le_of_ble_eq_true rfl⟩) (ck_preS (wc := []) hK hP hD hS hA hE [] (by decide) rfl) rfl rfl hl.1 rfl (lv_room (Nat.le_of_ble_eq_true rfl)) d_Mo_badSources_59 ⟨Nat.le_of_ble_eq_true rfl, Nat.le_of_ble_eq_true rfl⟩) hP hD hS hA [] [0] rfl rfl (by decide) (by decide) (fun H locs hP hD hS => ?_)
            have hP : va_P (dC, dI) vwCl [(q_p1, .inl (cI, n_p1, .inl f_p1))] H := hP.sub [0] rfl
            have hD : va_D A [(q_p1, .inl (cI, n_p1, .inl f_p1))] := hD.sub [0] (by decide) rfl
            refine lv_if_eq (tgt := 69) hx hb d_Mo_badSources_62 (by decide) (fun c_15 => ?_) (fun c_15 => ?_)
            · rw [if_pos c_15] at h
              refine lv_iconst (v := 0) hx hb d_Mo_badSources_69 (by decide) ?_
              refine lv_istore_n (lv' := [(3, .int (0 : Int32)), (0, .ref q_p1), (1, .int x1), (2, .int x2), (4, .int x4)]) hx hb d_Mo_badSources_70 rfl hl (by decide) rfl (fun ls hl => ?_)
              refine lv_iinc (v := (x4 + 1)) (lv' := [(4, .int (x4 + 1)), (3, .int (0 : Int32)), (0, .ref q_p1), (1, .int x1), (2, .int x2)]) hx hb d_Mo_badSources_71 hl (k := 4) rfl (by rfl) (by decide) rfl (fun ls hl => ?_)
              refine lv_goto (tgt := 31) hx hb d_Mo_badSources_74 (by decide) ?_
              exact ih_31 x1 x2 (0 : Int32) (x4 + 1) h _ _ hP hD hS _ (lv_sub hl [2, 3, 4, 1, 0] rfl)
            · rw [if_neg c_15] at h
              refine lv_iconst (v := 1) hx hb d_Mo_badSources_65 (by decide) ?_
              refine lv_goto (tgt := 70) hx hb d_Mo_badSources_66 (by decide) ?_
              refine lv_istore_n (lv' := [(3, .int (1 : Int32)), (0, .ref q_p1), (1, .int x1), (2, .int x2), (4, .int x4)]) hx hb d_Mo_badSources_70 rfl hl (by decide) rfl (fun ls hl => ?_)
              refine lv_iinc (v := (x4 + 1)) (lv' := [(4, .int (x4 + 1)), (3, .int (1 : Int32)), (0, .ref q_p1), (1, .int x1), (2, .int x2)]) hx hb d_Mo_badSources_71 hl (k := 4) rfl (by rfl) (by decide) rfl (fun ls hl => ?_)
              refine lv_goto (tgt := 31) hx hb d_Mo_badSources_74 (by decide) ?_
              exact ih_31 x1 x2 (1 : Int32) (x4 + 1) h _ _ hP hD hS _ (lv_sub hl [2, 3, 4, 1, 0] rfl)
          · rw [if_neg c_12] at h
            refine lv_iconst (v := 1) hx hb d_Mo_badSources_54 (by decide) ?_
            refine lv_goto (tgt := 59) hx hb d_Mo_badSources_55 (by decide) ?_
            obtain ⟨r_17, h_16, h⟩ := ch_bind h
            try dsimp only at h
            refine ck_goi (wc := []) (wr := [(q_p1, .inl (cI, n_p1, .inl f_p1))]) (w1 := []) (va_runS (As := [.int r_11, .int (1 : Int32)]) (rest := []) ⟨hx, hb, hml, hown, hts⟩ (k_Mo_badSource l dC dI cI cJ r_11 (1 : Int32) r_17 h_16 _) (va_cwS 2 hts (gw_S tw_825 tw_826 tw_9 tw_827) rfl rfl rfl (by decide +kernel) ⟨Nat.le_of_ble_eq_true rfl, Nat.le_of_ble_eq_true rfl⟩) (ck_preS (wc := []) hK hP hD hS hA hE [] (by decide) rfl) rfl rfl hl.1 rfl (lv_room (Nat.le_of_ble_eq_true rfl)) d_Mo_badSources_59 ⟨Nat.le_of_ble_eq_true rfl, Nat.le_of_ble_eq_true rfl⟩) hP hD hS hA [] [0] rfl rfl (by decide) (by decide) (fun H locs hP hD hS => ?_)
            have hP : va_P (dC, dI) vwCl [(q_p1, .inl (cI, n_p1, .inl f_p1))] H := hP.sub [0] rfl
            have hD : va_D A [(q_p1, .inl (cI, n_p1, .inl f_p1))] := hD.sub [0] (by decide) rfl
            refine lv_if_eq (tgt := 69) hx hb d_Mo_badSources_62 (by decide) (fun c_18 => ?_) (fun c_18 => ?_)
            · rw [if_pos c_18] at h
              refine lv_iconst (v := 0) hx hb d_Mo_badSources_69 (by decide) ?_
              refine lv_istore_n (lv' := [(3, .int (0 : Int32)), (0, .ref q_p1), (1, .int x1), (2, .int x2), (4, .int x4)]) hx hb d_Mo_badSources_70 rfl hl (by decide) rfl (fun ls hl => ?_)
              refine lv_iinc (v := (x4 + 1)) (lv' := [(4, .int (x4 + 1)), (3, .int (0 : Int32)), (0, .ref q_p1), (1, .int x1), (2, .int x2)]) hx hb d_Mo_badSources_71 hl (k := 4) rfl (by rfl) (by decide) rfl (fun ls hl => ?_)
              refine lv_goto (tgt := 31) hx hb d_Mo_badSources_74 (by decide) ?_
              exact ih_31 x1 x2 (0 : Int32) (x4 + 1) h _ _ hP hD hS _ (lv_sub hl [2, 3, 4, 1, 0] rfl)
            · rw [if_neg c_18] at h
              refine lv_iconst (v := 1) hx hb d_Mo_badSources_65 (by decide) ?_
              refine lv_goto (tgt := 70) hx hb d_Mo_badSources_66 (by decide) ?_
              refine lv_istore_n (lv' := [(3, .int (1 : Int32)), (0, .ref q_p1), (1, .int x1), (2, .int x2), (4, .int x4)]) hx hb d_Mo_badSources_70 rfl hl (by decide) rfl (fun ls hl => ?_)
              refine lv_iinc (v := (x4 + 1)) (lv' := [(4, .int (x4 + 1)), (3, .int (1 : Int32)), (0, .ref q_p1), (1, .int x1), (2, .int x2)]) hx hb d_Mo_badSources_71 hl (k := 4) rfl (by rfl) (by decide) rfl (fun ls hl => ?_)
              refine lv_goto (tgt := 31) hx hb d_Mo_badSources_74 (by decide) ?_
              exact ih_31 x1 x2 (1 : Int32) (x4 + 1) h _ _ hP hD hS _ (lv_sub hl [2, 3, 4, 1, 0] rfl)
  unfold pf_Mo_badSources at h
  have hl := lv_entry ([.ref q_p1, .int p2]) (n := 5) (Nat.le_of_ble_eq_true rfl)
  rw [lg_entry_eq]
  generalize (lg_sl ([.ref q_p1, .int p2]) ++ List.replicate (5 - (lg_sl ([.ref q_p1, .int p2])).length) Slot.unset).toArray = ls at hl ⊢
  have hl : lv_has ls 5 [(0, .ref q_p1), (1, .int p2)] := hl
  refine lv_aload_n hx hb d_Mo_badSources_0 rfl (lv_at hl 0 rfl) ?_
  refine lv_iload_n hx hb d_Mo_badSources_1 rfl (lv_at hl 1 rfl) ?_
  obtain ⟨r_2, h_1, h⟩ := ch_bind h
  try dsimp only at h
  refine ck_goi (wc := [(q_p1, .inl (cI, n_p1, .inl f_p1))]) (wr := []) (w1 := [(q_p1, .inl (cI, n_p1, .inl f_p1))]) (va_runS (As := [.ref q_p1, .int p2]) (rest := []) ⟨hx, hb, hml, hown, hts⟩ (k_Mo_kindOf l dC dI cI cJ p2 n_p1 f_p1 q_p1 r_2 h_1 _) (va_cwS 2 hts (gw_S tw_806 tw_807 tw_9 tw_808) rfl rfl rfl (by decide +kernel) ⟨Nat.le_of_ble_eq_true rfl, Nat.le_of_ble_eq_true rfl⟩) (ck_preS (wc := [(q_p1, .inl (cI, n_p1, .inl f_p1))]) hK hP hD hS hA hE [0] (by decide) rfl) rfl rfl hl.1 rfl (lv_room (Nat.le_of_ble_eq_true rfl)) d_Mo_badSources_2 ⟨Nat.le_of_ble_eq_true rfl, Nat.le_of_ble_eq_true rfl⟩) hP hD hS hA [0] [] rfl rfl (by decide) (by decide) (fun H locs hP hD hS => ?_)
  have hP : va_P (dC, dI) vwCl [(q_p1, .inl (cI, n_p1, .inl f_p1))] H := hP.sub [0] rfl
  have hD : va_D A [(q_p1, .inl (cI, n_p1, .inl f_p1))] := hD.sub [0] (by decide) rfl
  obtain ⟨r_4, h_3, h⟩ := ch_bind h
  try dsimp only at h
  refine ck_goi (wc := []) (wr := [(q_p1, .inl (cI, n_p1, .inl f_p1))]) (w1 := []) (va_runS (As := [.int r_2]) (rest := []) ⟨hx, hb, hml, hown, hts⟩ (k_Mo_sources l dC dI cI cJ r_2 r_4 h_3 _) (va_cwS 1 hts (gw_S tw_818 tw_819 tw_9 tw_820) rfl rfl rfl (by decide +kernel) ⟨Nat.le_of_ble_eq_true rfl, Nat.le_of_ble_eq_true rfl⟩) (ck_preS (wc := []) hK hP hD hS hA hE [] (by decide) rfl) rfl rfl hl.1 rfl (lv_room (Nat.le_of_ble_eq_true rfl)) d_Mo_badSources_5 ⟨Nat.le_of_ble_eq_true rfl, Nat.le_of_ble_eq_true rfl⟩) hP hD hS hA [] [0] rfl rfl (by decide) (by decide) (fun H locs hP hD hS => ?_)
  have hP : va_P (dC, dI) vwCl [(q_p1, .inl (cI, n_p1, .inl f_p1))] H := hP.sub [0] rfl
  have hD : va_D A [(q_p1, .inl (cI, n_p1, .inl f_p1))] := hD.sub [0] (by decide) rfl
  refine lv_istore_n (lv' := [(2, .int r_4), (0, .ref q_p1), (1, .int p2)]) hx hb d_Mo_badSources_8 rfl hl (by decide) rfl (fun ls hl => ?_)
  refine lv_aload_n hx hb d_Mo_badSources_9 rfl (lv_at hl 1 rfl) ?_
  refine lv_iconst (v := 3) hx hb d_Mo_badSources_10 (by decide) ?_
  refine lv_iload_n hx hb d_Mo_badSources_11 rfl (lv_at hl 2 rfl) ?_
  refine lv_imul hx hb d_Mo_badSources_12 ?_
  refine lv_iconst (v := 2) hx hb d_Mo_badSources_13 (by decide) ?_
  refine lv_iadd hx hb d_Mo_badSources_14 ?_
  obtain ⟨c_5, h⟩ := ch_ite h
  refine va_iald hx hb hK hP 0 0 rfl rfl (ch_in c_5) d_Mo_badSources_15 ?_
  refine lv_bipush (v := 16) hx hb d_Mo_badSources_16 (by decide) ?_
  refine lv_iushr hx hb d_Mo_badSources_18 rfl ?_
  refine lv_if_eq (tgt := 26) hx hb d_Mo_badSources_19 (by decide) (fun c_6 => ?_) (fun c_6 => ?_)
  · rw [if_pos c_6] at h
    refine lv_iconst (v := 0) hx hb d_Mo_badSources_26 (by decide) ?_
    refine lv_istore_n (lv' := [(3, .int (0 : Int32)), (2, .int r_4), (0, .ref q_p1), (1, .int p2)]) hx hb d_Mo_badSources_27 rfl hl (by decide) rfl (fun ls hl => ?_)
    refine lv_iconst (v := 0) hx hb d_Mo_badSources_28 (by decide) ?_
    refine lv_istore (lv' := [(4, .int (0 : Int32)), (3, .int (0 : Int32)), (2, .int r_4), (0, .ref q_p1), (1, .int p2)]) hx hb d_Mo_badSources_29 hl (by decide) rfl (fun ls hl => ?_)
    exact w_31 fu p2 r_4 (0 : Int32) (0 : Int32) h _ _ hP hD hS _ (lv_sub hl [3, 4, 2, 1, 0] rfl)
  · rw [if_neg c_6] at h
    refine lv_iconst (v := 1) hx hb d_Mo_badSources_22 (by decide) ?_
    refine lv_goto (tgt := 27) hx hb d_Mo_badSources_23 (by decide) ?_
    refine lv_istore_n (lv' := [(3, .int (1 : Int32)), (2, .int r_4), (0, .ref q_p1), (1, .int p2)]) hx hb d_Mo_badSources_27 rfl hl (by decide) rfl (fun ls hl => ?_)
    refine lv_iconst (v := 0) hx hb d_Mo_badSources_28 (by decide) ?_
    refine lv_istore (lv' := [(4, .int (0 : Int32)), (3, .int (1 : Int32)), (2, .int r_4), (0, .ref q_p1), (1, .int p2)]) hx hb d_Mo_badSources_29 hl (by decide) rfl (fun ls hl => ?_)
    exact w_31 fu p2 r_4 (1 : Int32) (0 : Int32) h _ _ hP hD hS _ (lv_sub hl [3, 4, 2, 1, 0] rfl)
def pf_Mo_badNumber (p2 : Int32) (p3 : Int32) (n_p1 : Nat) (f_p1 : Nat → Int32) : Option (Int32) :=
  Option.bind (pf_Mo_numberOf p2 n_p1 f_p1) (fun r_2 => 
  Option.bind (pf_Mo_kindOf p2 n_p1 f_p1) (fun r_4 => 
  if r_4 < 32 ∨ 37 < r_4 then
    if r_2 = 0 then
      some (0 : Int32)
    else
      some (1 : Int32)
  else
  if r_4 = 32 then
    if r_2 ≤ (3 : Int32) then
      some (0 : Int32)
    else
      some (1 : Int32)
  else
  if r_4 = 33 then
    if r_2 ≤ (3 : Int32) then
      some (0 : Int32)
    else
      some (1 : Int32)
  else
  if r_4 = 34 then
    if r_2 < (1 : Int32) then
      some (1 : Int32)
    else
      if r_2 ≤ (255 : Int32) then
        some (0 : Int32)
      else
        some (1 : Int32)
  else
  if r_4 = 35 then
    if r_2 = 0 then
      some (0 : Int32)
    else
      some (1 : Int32)
  else
  if r_4 = 36 then
    if r_2 ≤ p2 then
      some (1 : Int32)
    else
      if r_2 < p3 then
        some (0 : Int32)
      else
        some (1 : Int32)
  else
  if r_4 = 37 then
    if r_2 ≤ p2 then
      some (1 : Int32)
    else
      if r_2 < p3 then
        some (0 : Int32)
      else
        some (1 : Int32)
  else
    none))
set_option maxHeartbeats 4000000 in
set_option maxRecDepth 100000 in
theorem k_Mo_badNumber (l : Launch) (dC : Nat → ClassId) (dI : Nat → Nat → Nat) (cI cJ : ClassId) (p2 : Int32) (p3 : Int32) (n_p1 : Nat) (f_p1 : Nat → Int32) (q_p1 : Nat) (r : Int32) (h : pf_Mo_badNumber p2 p3 n_p1 f_p1 = some r) : ck_i l y_Mo_badNumber wm_Mo_badNumber ({ frames := 1, cells := 0, slots := 0, locals := 21 } : Room) [.ref q_p1, .int p2, .int p3] (dC, dI) [(cI, .int), (cJ, .long)] [(q_p1, .inl (cI, n_p1, .inl f_p1))] r [(q_p1, .inl (cI, n_p1, .inl f_p1))] := by
  refine ck_ofi (cc := c_Mo_badNumber) (maxL := 4) (ret := (some .boolean)) (by decide +kernel) rfl ?_
  intro p e s m below meth c A C0 hK hP hD hS hE
  obtain ⟨hx, hb, hr, hml, hown, hts, hlk, hA, hin⟩ := C0
  unfold pf_Mo_badNumber at h
  have hl := lv_entry ([.ref q_p1, .int p2, .int p3]) (n := 4) (Nat.le_of_ble_eq_true rfl)
  rw [lg_entry_eq]
  generalize (lg_sl ([.ref q_p1, .int p2, .int p3]) ++ List.replicate (4 - (lg_sl ([.ref q_p1, .int p2, .int p3])).length) Slot.unset).toArray = ls at hl ⊢
  have hl : lv_has ls 4 [(0, .ref q_p1), (1, .int p2), (2, .int p3)] := hl
  refine lv_aload_n hx hb d_Mo_badNumber_0 rfl (lv_at hl 0 rfl) ?_
  refine lv_iload_n hx hb d_Mo_badNumber_1 rfl (lv_at hl 1 rfl) ?_
  obtain ⟨r_2, h_1, h⟩ := ch_bind h
  try dsimp only at h
  refine ck_goi (wc := [(q_p1, .inl (cI, n_p1, .inl f_p1))]) (wr := []) (w1 := [(q_p1, .inl (cI, n_p1, .inl f_p1))]) (va_runS (As := [.ref q_p1, .int p2]) (rest := []) ⟨hx, hb, hml, hown, hts⟩ (k_Mo_numberOf l dC dI cI cJ p2 n_p1 f_p1 q_p1 r_2 h_1 _) (va_cwS 2 hts (gw_S tw_831 tw_832 tw_9 tw_833) rfl rfl rfl (by decide +kernel) ⟨Nat.le_of_ble_eq_true rfl, Nat.le_of_ble_eq_true rfl⟩) (ck_preS (wc := [(q_p1, .inl (cI, n_p1, .inl f_p1))]) hK hP hD hS hA hE [0] (by decide) rfl) rfl rfl hl.1 rfl (lv_room (Nat.le_of_ble_eq_true rfl)) d_Mo_badNumber_2 ⟨Nat.le_of_ble_eq_true rfl, Nat.le_of_ble_eq_true rfl⟩) hP hD hS hA [0] [] rfl rfl (by decide) (by decide) (fun H locs hP hD hS => ?_)
  have hP : va_P (dC, dI) vwCl [(q_p1, .inl (cI, n_p1, .inl f_p1))] H := hP.sub [0] rfl
  have hD : va_D A [(q_p1, .inl (cI, n_p1, .inl f_p1))] := hD.sub [0] (by decide) rfl
  refine lv_istore_n (lv' := [(3, .int r_2), (0, .ref q_p1), (1, .int p2), (2, .int p3)]) hx hb d_Mo_badNumber_5 rfl hl (by decide) rfl (fun ls hl => ?_)
  refine lv_aload_n hx hb d_Mo_badNumber_6 rfl (lv_at hl 1 rfl) ?_
  refine lv_iload_n hx hb d_Mo_badNumber_7 rfl (lv_at hl 2 rfl) ?_
  obtain ⟨r_4, h_3, h⟩ := ch_bind h
  try dsimp only at h
  refine ck_goi (wc := [(q_p1, .inl (cI, n_p1, .inl f_p1))]) (wr := []) (w1 := [(q_p1, .inl (cI, n_p1, .inl f_p1))]) (va_runS (As := [.ref q_p1, .int p2]) (rest := []) ⟨hx, hb, hml, hown, hts⟩ (k_Mo_kindOf l dC dI cI cJ p2 n_p1 f_p1 q_p1 r_4 h_3 _) (va_cwS 2 hts (gw_S tw_806 tw_807 tw_9 tw_808) rfl rfl rfl (by decide +kernel) ⟨Nat.le_of_ble_eq_true rfl, Nat.le_of_ble_eq_true rfl⟩) (ck_preS (wc := [(q_p1, .inl (cI, n_p1, .inl f_p1))]) hK hP hD hS hA hE [0] (by decide) rfl) rfl rfl hl.1 rfl (lv_room (Nat.le_of_ble_eq_true rfl)) d_Mo_badNumber_8 ⟨Nat.le_of_ble_eq_true rfl, Nat.le_of_ble_eq_true rfl⟩) hP hD hS hA [0] [] rfl rfl (by decide) (by decide) (fun H locs hP hD hS => ?_)
  have hP : va_P (dC, dI) vwCl [(q_p1, .inl (cI, n_p1, .inl f_p1))] H := hP.sub [0] rfl
  have hD : va_D A [(q_p1, .inl (cI, n_p1, .inl f_p1))] := hD.sub [0] (by decide) rfl
  by_cases c_5 : r_4 < 32 ∨ 37 < r_4
  · rw [if_pos c_5] at h
    refine lv_tableOut (tgt := 93) hx hb d_Mo_badNumber_11 (ch_out c_5 (by decide) (by decide)) (by decide) ?_
    refine lv_iload_n hx hb d_Mo_badNumber_93 rfl (lv_at hl 0 rfl) ?_
    refine lv_if_eq (tgt := 101) hx hb d_Mo_badNumber_94 (by decide) (fun c_6 => ?_) (fun c_6 => ?_)
    · rw [if_pos c_6] at h
      refine lv_iconst (v := 0) hx hb d_Mo_badNumber_101 (by decide) ?_
      cases h
      exact ck_zret hx hb hr rfl hlk hK hP hD hS d_Mo_badNumber_102
    · rw [if_neg c_6] at h
      refine lv_iconst (v := 1) hx hb d_Mo_badNumber_97 (by decide) ?_
      refine lv_goto (tgt := 102) hx hb d_Mo_badNumber_98 (by decide) ?_
      cases h
      exact ck_zret hx hb hr rfl hlk hK hP hD hS d_Mo_badNumber_102
  rw [if_neg c_5] at h
  by_cases c_7 : r_4 = 32
  · rw [if_pos c_7] at h
    refine lv_tableIn (tgt := 82) hx hb d_Mo_badNumber_11 (by rw [c_7]; decide) (by rw [c_7]; decide) (by rw [c_7]; rfl) (by decide) ?_
    refine lv_iload_n hx hb d_Mo_badNumber_82 rfl (lv_at hl 0 rfl) ?_
    refine lv_iconst (v := 3) hx hb d_Mo_badNumber_83 (by decide) ?_
    refine lv_icmp_le (tgt := 91) hx hb d_Mo_badNumber_84 (by decide) (fun c_8 => ?_) (fun c_8 => ?_)
    · rw [if_pos c_8] at h
      refine lv_iconst (v := 0) hx hb d_Mo_badNumber_91 (by decide) ?_
      cases h
      exact ck_zret hx hb hr rfl hlk hK hP hD hS d_Mo_badNumber_92
    · rw [if_neg c_8] at h
      refine lv_iconst (v := 1) hx hb d_Mo_badNumber_87 (by decide) ?_
      refine lv_goto (tgt := 92) hx hb d_Mo_badNumber_88 (by decide) ?_
      cases h
      exact ck_zret hx hb hr rfl hlk hK hP hD hS d_Mo_badNumber_92
  rw [if_neg c_7] at h
  by_cases c_9 : r_4 = 33
  · rw [if_pos c_9] at h
    refine lv_tableIn (tgt := 82) hx hb d_Mo_badNumber_11 (by rw [c_9]; decide) (by rw [c_9]; decide) (by rw [c_9]; rfl) (by decide) ?_
    refine lv_iload_n hx hb d_Mo_badNumber_82 rfl (lv_at hl 0 rfl) ?_
    refine lv_iconst (v := 3) hx hb d_Mo_badNumber_83 (by decide) ?_
    refine lv_icmp_le (tgt := 91) hx hb d_Mo_badNumber_84 (by decide) (fun c_10 => ?_) (fun c_10 => ?_)
    · rw [if_pos c_10] at h
      refine lv_iconst (v := 0) hx hb d_Mo_badNumber_91 (by decide) ?_
      cases h
      exact ck_zret hx hb hr rfl hlk hK hP hD hS d_Mo_badNumber_92
    · rw [if_neg c_10] at h
      refine lv_iconst (v := 1) hx hb d_Mo_badNumber_87 (by decide) ?_
      refine lv_goto (tgt := 92) hx hb d_Mo_badNumber_88 (by decide) ?_
      cases h
      exact ck_zret hx hb hr rfl hlk hK hP hD hS d_Mo_badNumber_92
  rw [if_neg c_9] at h
  by_cases c_11 : r_4 = 34
  · rw [if_pos c_11] at h
    refine lv_tableIn (tgt := 64) hx hb d_Mo_badNumber_11 (by rw [c_11]; decide) (by rw [c_11]; decide) (by rw [c_11]; rfl) (by decide) ?_
    refine lv_iload_n hx hb d_Mo_badNumber_64 rfl (lv_at hl 0 rfl) ?_
    refine lv_iconst (v := 1) hx hb d_Mo_badNumber_65 (by decide) ?_
    refine lv_icmp_lt (tgt := 76) hx hb d_Mo_badNumber_66 (by decide) (fun c_12 => ?_) (fun c_12 => ?_)
    · rw [if_pos c_12] at h
      refine lv_iconst (v := 1) hx hb d_Mo_badNumber_76 (by decide) ?_
      refine lv_goto (tgt := 81) hx hb d_Mo_badNumber_77 (by decide) ?_
      cases h
      exact ck_zret hx hb hr rfl hlk hK hP hD hS d_Mo_badNumber_81
    · rw [if_neg c_12] at h
      refine lv_iload_n hx hb d_Mo_badNumber_69 rfl (lv_at hl 0 rfl) ?_
      refine lv_sipush (v := 255) hx hb d_Mo_badNumber_70 (by decide) ?_
      refine lv_icmp_le (tgt := 80) hx hb d_Mo_badNumber_73 (by decide) (fun c_13 => ?_) (fun c_13 => ?_)
      · rw [if_pos c_13] at h
        refine lv_iconst (v := 0) hx hb d_Mo_badNumber_80 (by decide) ?_
        cases h
        exact ck_zret hx hb hr rfl hlk hK hP hD hS d_Mo_badNumber_81
      · rw [if_neg c_13] at h
        refine lv_iconst (v := 1) hx hb d_Mo_badNumber_76 (by decide) ?_
        refine lv_goto (tgt := 81) hx hb d_Mo_badNumber_77 (by decide) ?_
        cases h
        exact ck_zret hx hb hr rfl hlk hK hP hD hS d_Mo_badNumber_81
  rw [if_neg c_11] at h
  by_cases c_14 : r_4 = 35
  · rw [if_pos c_14] at h
    refine lv_tableIn (tgt := 93) hx hb d_Mo_badNumber_11 (by rw [c_14]; decide) (by rw [c_14]; decide) (by rw [c_14]; rfl) (by decide) ?_
    refine lv_iload_n hx hb d_Mo_badNumber_93 rfl (lv_at hl 0 rfl) ?_
    refine lv_if_eq (tgt := 101) hx hb d_Mo_badNumber_94 (by decide) (fun c_15 => ?_) (fun c_15 => ?_)
    · rw [if_pos c_15] at h
      refine lv_iconst (v := 0) hx hb d_Mo_badNumber_101 (by decide) ?_
      cases h
      exact ck_zret hx hb hr rfl hlk hK hP hD hS d_Mo_badNumber_102
    · rw [if_neg c_15] at h
      refine lv_iconst (v := 1) hx hb d_Mo_badNumber_97 (by decide) ?_
      refine lv_goto (tgt := 102) hx hb d_Mo_badNumber_98 (by decide) ?_
      cases h
      exact ck_zret hx hb hr rfl hlk hK hP hD hS d_Mo_badNumber_102
  rw [if_neg c_14] at h
  by_cases c_16 : r_4 = 36
  · rw [if_pos c_16] at h
    refine lv_tableIn (tgt := 48) hx hb d_Mo_badNumber_11 (by rw [c_16]; decide) (by rw [c_16]; decide) (by rw [c_16]; rfl) (by decide) ?_
    refine lv_iload_n hx hb d_Mo_badNumber_48 rfl (lv_at hl 0 rfl) ?_
    refine lv_iload_n hx hb d_Mo_badNumber_49 rfl (lv_at hl 2 rfl) ?_
    refine lv_icmp_le (tgt := 58) hx hb d_Mo_badNumber_50 (by decide) (fun c_17 => ?_) (fun c_17 => ?_)
    · rw [if_pos c_17] at h
      refine lv_iconst (v := 1) hx hb d_Mo_badNumber_58 (by decide) ?_
      refine lv_goto (tgt := 63) hx hb d_Mo_badNumber_59 (by decide) ?_
      cases h
      exact ck_zret hx hb hr rfl hlk hK hP hD hS d_Mo_badNumber_63
    · rw [if_neg c_17] at h
      refine lv_iload_n hx hb d_Mo_badNumber_53 rfl (lv_at hl 0 rfl) ?_
      refine lv_iload_n hx hb d_Mo_badNumber_54 rfl (lv_at hl 3 rfl) ?_
      refine lv_icmp_lt (tgt := 62) hx hb d_Mo_badNumber_55 (by decide) (fun c_18 => ?_) (fun c_18 => ?_)
      · rw [if_pos c_18] at h
        refine lv_iconst (v := 0) hx hb d_Mo_badNumber_62 (by decide) ?_
        cases h
        exact ck_zret hx hb hr rfl hlk hK hP hD hS d_Mo_badNumber_63
      · rw [if_neg c_18] at h
        refine lv_iconst (v := 1) hx hb d_Mo_badNumber_58 (by decide) ?_
        refine lv_goto (tgt := 63) hx hb d_Mo_badNumber_59 (by decide) ?_
        cases h
        exact ck_zret hx hb hr rfl hlk hK hP hD hS d_Mo_badNumber_63
  rw [if_neg c_16] at h
  by_cases c_19 : r_4 = 37
  · rw [if_pos c_19] at h
    refine lv_tableIn (tgt := 48) hx hb d_Mo_badNumber_11 (by rw [c_19]; decide) (by rw [c_19]; decide) (by rw [c_19]; rfl) (by decide) ?_
    refine lv_iload_n hx hb d_Mo_badNumber_48 rfl (lv_at hl 0 rfl) ?_
    refine lv_iload_n hx hb d_Mo_badNumber_49 rfl (lv_at hl 2 rfl) ?_
    refine lv_icmp_le (tgt := 58) hx hb d_Mo_badNumber_50 (by decide) (fun c_20 => ?_) (fun c_20 => ?_)
    · rw [if_pos c_20] at h
      refine lv_iconst (v := 1) hx hb d_Mo_badNumber_58 (by decide) ?_
      refine lv_goto (tgt := 63) hx hb d_Mo_badNumber_59 (by decide) ?_
      cases h
      exact ck_zret hx hb hr rfl hlk hK hP hD hS d_Mo_badNumber_63
    · rw [if_neg c_20] at h
      refine lv_iload_n hx hb d_Mo_badNumber_53 rfl (lv_at hl 0 rfl) ?_
      refine lv_iload_n hx hb d_Mo_badNumber_54 rfl (lv_at hl 3 rfl) ?_
      refine lv_icmp_lt (tgt := 62) hx hb d_Mo_badNumber_55 (by decide) (fun c_21 => ?_) (fun c_21 => ?_)
      · rw [if_pos c_21] at h
        refine lv_iconst (v := 0) hx hb d_Mo_badNumber_62 (by decide) ?_
        cases h
        exact ck_zret hx hb hr rfl hlk hK hP hD hS d_Mo_badNumber_63
      · rw [if_neg c_21] at h
        refine lv_iconst (v := 1) hx hb d_Mo_badNumber_58 (by decide) ?_
        refine lv_goto (tgt := 63) hx hb d_Mo_badNumber_59 (by decide) ?_
        cases h
        exact ck_zret hx hb hr rfl hlk hK hP hD hS d_Mo_badNumber_63
  rw [if_neg c_19] at h
  cases h
def pf_Mo_depth_4 (fu : Nat) (n_p1 : Nat) (f_p1 : Nat → Int32) : Nat → Int32 → Int32 → Int32 → Option (Int32)
  | 0, _, _, _ => none
  | n + 1, x1, x2, x3 =>
    if x1 ≤ x3 then
      some x2
    else
      Option.bind (pf_Mo_kindOf x3 n_p1 f_p1) (fun r_3 => 
      if r_3 = (34 : Int32) then
        pf_Mo_depth_4 fu n_p1 f_p1 n x1 (x2 + (1 : Int32)) (x3 + 1)
      else
        Option.bind (pf_Mo_kindOf x3 n_p1 f_p1) (fun r_6 => 
        if r_6 = (35 : Int32) then
          pf_Mo_depth_4 fu n_p1 f_p1 n x1 (x2 + (-1 : Int32)) (x3 + 1)
        else
          pf_Mo_depth_4 fu n_p1 f_p1 n x1 (x2 + (0 : Int32)) (x3 + 1)))
def pf_Mo_depth (fu : Nat) (p2 : Int32) (n_p1 : Nat) (f_p1 : Nat → Int32) : Option (Int32) :=
  pf_Mo_depth_4 fu n_p1 f_p1 fu p2 (0 : Int32) (0 : Int32)
set_option maxHeartbeats 4000000 in
set_option maxRecDepth 100000 in
theorem k_Mo_depth (l : Launch) (dC : Nat → ClassId) (dI : Nat → Nat → Nat) (cI cJ : ClassId) (fu : Nat) (p2 : Int32) (n_p1 : Nat) (f_p1 : Nat → Int32) (q_p1 : Nat) (r : Int32) (h : pf_Mo_depth fu p2 n_p1 f_p1 = some r) : ck_i l y_Mo_depth wm_Mo_depth ({ frames := 1, cells := 0, slots := 0, locals := 21 } : Room) [.ref q_p1, .int p2] (dC, dI) [(cI, .int), (cJ, .long)] [(q_p1, .inl (cI, n_p1, .inl f_p1))] r [(q_p1, .inl (cI, n_p1, .inl f_p1))] := by
  refine ck_ofi (cc := c_Mo_depth) (maxL := 4) (ret := (some .int)) (by decide +kernel) rfl ?_
  intro p e s m below meth c A C0 hK hP hD hS hE
  obtain ⟨hx, hb, hr, hml, hown, hts, hlk, hA, hin⟩ := C0
  have w_4 : ∀ (n_4 : Nat) (x1 : Int32) (x2 : Int32) (x3 : Int32), pf_Mo_depth_4 fu n_p1 f_p1 n_4 x1 x2 x3 = some r → ∀ (H : Heap) (locs : List Loc), va_P (dC, dI) vwCl [(q_p1, .inl (cI, n_p1, .inl f_p1))] H → va_D A [(q_p1, .inl (cI, n_p1, .inl f_p1))] → va_S A s.heap H locs → ∀ ls : Array Slot, lv_has ls 4 [(0, .ref q_p1), (1, .int x1), (2, .int x2), (3, .int x3)] → W p l e ({ frames := 1, cells := 0, slots := 0, locals := 21 } : Room) s m ([.ref q_p1, .int p2] : List Value).toArray below meth c H locs 0 0 (ck_Qi below (dC, dI) [(cI, .int), (cJ, .long)] A ([.ref q_p1, .int p2] : List Value).toArray s r [(q_p1, .inl (cI, n_p1, .inl f_p1))]) (F0 m 4 ls []) := by
    intro n_4
    induction n_4 with
    | zero =>
      intro x1 x2 x3 h
      cases h
    | succ n_4 ih_4 =>
      intro x1 x2 x3 h H locs hP hD hS ls hl
      rw [pf_Mo_depth_4] at h
      refine lv_iload_n hx hb d_Mo_depth_4 rfl (lv_at hl 3 rfl) ?_
      refine lv_iload_n hx hb d_Mo_depth_5 rfl (lv_at hl 1 rfl) ?_
      refine lv_icmp_ge (tgt := 47) hx hb d_Mo_depth_6 (by decide) (fun c_1 => ?_) (fun c_1 => ?_)
      · rw [if_pos c_1] at h
        refine lv_iload_n hx hb d_Mo_depth_47 rfl (lv_at hl 2 rfl) ?_
        cases h
        exact ck_iret hx hb hr hlk hK hP hD hS d_Mo_depth_48
      · rw [if_neg c_1] at h
        refine lv_iload_n hx hb d_Mo_depth_9 rfl (lv_at hl 2 rfl) ?_
        refine lv_aload_n hx hb d_Mo_depth_10 rfl (lv_at hl 0 rfl) ?_
        refine lv_iload_n hx hb d_Mo_depth_11 rfl (lv_at hl 3 rfl) ?_
        obtain ⟨r_3, h_2, h⟩ := ch_bind h
        try dsimp only at h
        refine ck_goi (wc := [(q_p1, .inl (cI, n_p1, .inl f_p1))]) (wr := []) (w1 := [(q_p1, .inl (cI, n_p1, .inl f_p1))]) (va_runS (As := [.ref q_p1, .int x3]) (rest := [.int x2]) ⟨hx, hb, hml, hown, hts⟩ (k_Mo_kindOf l dC dI cI cJ x3 n_p1 f_p1 q_p1 r_3 h_2 _) (va_cwS 2 hts (gw_S tw_806 tw_807 tw_9 tw_808) rfl rfl rfl (by decide +kernel) ⟨Nat.le_of_ble_eq_true rfl, Nat.le_of_ble_eq_true rfl⟩) (ck_preS (wc := [(q_p1, .inl (cI, n_p1, .inl f_p1))]) hK hP hD hS hA hE [0] (by decide) rfl) rfl rfl hl.1 rfl (lv_room (Nat.le_of_ble_eq_true rfl)) d_Mo_depth_12 ⟨Nat.le_of_ble_eq_true rfl, Nat.le_of_ble_eq_true rfl⟩) hP hD hS hA [0] [] rfl rfl (by decide) (by decide) (fun H locs hP hD hS => ?_)
        have hP : va_P (dC, dI) vwCl [(q_p1, .inl (cI, n_p1, .inl f_p1))] H := hP.sub [0] rfl
        have hD : va_D A [(q_p1, .inl (cI, n_p1, .inl f_p1))] := hD.sub [0] (by decide) rfl
        refine lv_bipush (v := 34) hx hb d_Mo_depth_15 (by decide) ?_
        refine lv_icmp_ne (tgt := 24) hx hb d_Mo_depth_17 (by decide) (fun c_4 => ?_) (fun c_4 => ?_)
        · rw [if_neg c_4] at h
          refine lv_aload_n hx hb d_Mo_depth_24 rfl (lv_at hl 0 rfl) ?_
          refine lv_iload_n hx hb d_Mo_depth_25 rfl (lv_at hl 3 rfl) ?_
          obtain ⟨r_6, h_5, h⟩ := ch_bind h
          try dsimp only at h
          refine ck_goi (wc := [(q_p1, .inl (cI, n_p1, .inl f_p1))]) (wr := []) (w1 := [(q_p1, .inl (cI, n_p1, .inl f_p1))]) (va_runS (As := [.ref q_p1, .int x3]) (rest := [.int x2]) ⟨hx, hb, hml, hown, hts⟩ (k_Mo_kindOf l dC dI cI cJ x3 n_p1 f_p1 q_p1 r_6 h_5 _) (va_cwS 2 hts (gw_S tw_806 tw_807 tw_9 tw_808) rfl rfl rfl (by decide +kernel) ⟨Nat.le_of_ble_eq_true rfl, Nat.le_of_ble_eq_true rfl⟩) (ck_preS (wc := [(q_p1, .inl (cI, n_p1, .inl f_p1))]) hK hP hD hS hA hE [0] (by decide) rfl) rfl rfl hl.1 rfl (lv_room (Nat.le_of_ble_eq_true rfl)) d_Mo_depth_26 ⟨Nat.le_of_ble_eq_true rfl, Nat.le_of_ble_eq_true rfl⟩) hP hD hS hA [0] [] rfl rfl (by decide) (by decide) (fun H locs hP hD hS => ?_)
          have hP : va_P (dC, dI) vwCl [(q_p1, .inl (cI, n_p1, .inl f_p1))] H := hP.sub [0] rfl
          have hD : va_D A [(q_p1, .inl (cI, n_p1, .inl f_p1))] := hD.sub [0] (by decide) rfl
          refine lv_bipush (v := 35) hx hb d_Mo_depth_29 (by decide) ?_
          refine lv_icmp_ne (tgt := 38) hx hb d_Mo_depth_31 (by decide) (fun c_7 => ?_) (fun c_7 => ?_)
          · rw [if_neg c_7] at h
            refine lv_iconst (v := 0) hx hb d_Mo_depth_38 (by decide) ?_
            refine lv_iadd hx hb d_Mo_depth_39 ?_
            refine lv_istore_n (lv' := [(2, .int (x2 + (0 : Int32))), (0, .ref q_p1), (1, .int x1), (3, .int x3)]) hx hb d_Mo_depth_40 rfl hl (by decide) rfl (fun ls hl => ?_)
            refine lv_iinc (v := (x3 + 1)) (lv' := [(3, .int (x3 + 1)), (2, .int (x2 + (0 : Int32))), (0, .ref q_p1), (1, .int x1)]) hx hb d_Mo_depth_41 hl (k := 3) rfl (by rfl) (by decide) rfl (fun ls hl => ?_)
            refine lv_goto (tgt := 4) hx hb d_Mo_depth_44 (by decide) ?_
            exact ih_4 x1 (x2 + (0 : Int32)) (x3 + 1) h _ _ hP hD hS _ (lv_sub hl [2, 3, 1, 0] rfl)
          · rw [if_pos c_7] at h
            refine lv_iconst (v := -1) hx hb d_Mo_depth_34 (by decide) ?_
            refine lv_goto (tgt := 39) hx hb d_Mo_depth_35 (by decide) ?_
            refine lv_iadd hx hb d_Mo_depth_39 ?_
            refine lv_istore_n (lv' := [(2, .int (x2 + (-1 : Int32))), (0, .ref q_p1), (1, .int x1), (3, .int x3)]) hx hb d_Mo_depth_40 rfl hl (by decide) rfl (fun ls hl => ?_)
            refine lv_iinc (v := (x3 + 1)) (lv' := [(3, .int (x3 + 1)), (2, .int (x2 + (-1 : Int32))), (0, .ref q_p1), (1, .int x1)]) hx hb d_Mo_depth_41 hl (k := 3) rfl (by rfl) (by decide) rfl (fun ls hl => ?_)
            refine lv_goto (tgt := 4) hx hb d_Mo_depth_44 (by decide) ?_
            exact ih_4 x1 (x2 + (-1 : Int32)) (x3 + 1) h _ _ hP hD hS _ (lv_sub hl [2, 3, 1, 0] rfl)
        · rw [if_pos c_4] at h
          refine lv_iconst (v := 1) hx hb d_Mo_depth_20 (by decide) ?_
          refine lv_goto (tgt := 39) hx hb d_Mo_depth_21 (by decide) ?_
          refine lv_iadd hx hb d_Mo_depth_39 ?_
          refine lv_istore_n (lv' := [(2, .int (x2 + (1 : Int32))), (0, .ref q_p1), (1, .int x1), (3, .int x3)]) hx hb d_Mo_depth_40 rfl hl (by decide) rfl (fun ls hl => ?_)
          refine lv_iinc (v := (x3 + 1)) (lv' := [(3, .int (x3 + 1)), (2, .int (x2 + (1 : Int32))), (0, .ref q_p1), (1, .int x1)]) hx hb d_Mo_depth_41 hl (k := 3) rfl (by rfl) (by decide) rfl (fun ls hl => ?_)
          refine lv_goto (tgt := 4) hx hb d_Mo_depth_44 (by decide) ?_
          exact ih_4 x1 (x2 + (1 : Int32)) (x3 + 1) h _ _ hP hD hS _ (lv_sub hl [2, 3, 1, 0] rfl)
  unfold pf_Mo_depth at h
  have hl := lv_entry ([.ref q_p1, .int p2]) (n := 4) (Nat.le_of_ble_eq_true rfl)
  rw [lg_entry_eq]
  generalize (lg_sl ([.ref q_p1, .int p2]) ++ List.replicate (4 - (lg_sl ([.ref q_p1, .int p2])).length) Slot.unset).toArray = ls at hl ⊢
  have hl : lv_has ls 4 [(0, .ref q_p1), (1, .int p2)] := hl
  refine lv_iconst (v := 0) hx hb d_Mo_depth_0 (by decide) ?_
  refine lv_istore_n (lv' := [(2, .int (0 : Int32)), (0, .ref q_p1), (1, .int p2)]) hx hb d_Mo_depth_1 rfl hl (by decide) rfl (fun ls hl => ?_)
  refine lv_iconst (v := 0) hx hb d_Mo_depth_2 (by decide) ?_
  refine lv_istore_n (lv' := [(3, .int (0 : Int32)), (2, .int (0 : Int32)), (0, .ref q_p1), (1, .int p2)]) hx hb d_Mo_depth_3 rfl hl (by decide) rfl (fun ls hl => ?_)
  exact w_4 fu p2 (0 : Int32) (0 : Int32) h _ _ hP hD hS _ (lv_sub hl [2, 3, 1, 0] rfl)
def pf_Mo_faultOf (fu : Nat) (p2 : Int32) (p3 : Int32) (p4 : Int32) (n_p1 : Nat) (f_p1 : Nat → Int32) : Option (Int32) :=
  Option.bind (pf_Mo_kindOf p2 n_p1 f_p1) (fun r_2 => 
  if r_2 ≤ (40 : Int32) then
    Option.bind (pf_Mo_badTarget p2 n_p1 f_p1) (fun r_5 => 
    if r_5 = 0 then
      Option.bind (pf_Mo_badSources fu p2 n_p1 f_p1) (fun r_8 => 
      if r_8 = 0 then
        Option.bind (pf_Mo_badNumber p2 p3 n_p1 f_p1) (fun r_11 => 
        if r_11 = 0 then
          if r_2 = (35 : Int32) then
            Option.bind (pf_Mo_depth fu p2 n_p1 f_p1) (fun r_33 => 
            if r_33 = 0 then
              some (5 : Int32)
            else
              if r_2 = (34 : Int32) then
                Option.bind (pf_Mo_depth fu p2 n_p1 f_p1) (fun r_44 => 
                if r_44 < (4 : Int32) then
                  if r_2 = 0 then
                    if p2 = (p3 - (1 : Int32)) then
                      if r_2 = (38 : Int32) then
                        if p4 = 0 then
                          some (7 : Int32)
                        else
                          some (0 : Int32)
                      else
                        some (0 : Int32)
                    else
                      some (6 : Int32)
                  else
                    if p2 = (p3 - (1 : Int32)) then
                      some (6 : Int32)
                    else
                      if r_2 = (38 : Int32) then
                        if p4 = 0 then
                          some (7 : Int32)
                        else
                          some (0 : Int32)
                      else
                        some (0 : Int32)
                else
                  some (5 : Int32))
              else
                if r_2 = 0 then
                  if p2 = (p3 - (1 : Int32)) then
                    if r_2 = (38 : Int32) then
                      if p4 = 0 then
                        some (7 : Int32)
                      else
                        some (0 : Int32)
                    else
                      some (0 : Int32)
                  else
                    some (6 : Int32)
                else
                  if p2 = (p3 - (1 : Int32)) then
                    some (6 : Int32)
                  else
                    if r_2 = (38 : Int32) then
                      if p4 = 0 then
                        some (7 : Int32)
                      else
                        some (0 : Int32)
                    else
                      some (0 : Int32))
          else
            if r_2 = (34 : Int32) then
              Option.bind (pf_Mo_depth fu p2 n_p1 f_p1) (fun r_23 => 
              if r_23 < (4 : Int32) then
                if r_2 = 0 then
                  if p2 = (p3 - (1 : Int32)) then
                    if r_2 = (38 : Int32) then
                      if p4 = 0 then
                        some (7 : Int32)
                      else
                        some (0 : Int32)
                    else
                      some (0 : Int32)
                  else
                    some (6 : Int32)
                else
                  if p2 = (p3 - (1 : Int32)) then
                    some (6 : Int32)
                  else
                    if r_2 = (38 : Int32) then
                      if p4 = 0 then
                        some (7 : Int32)
                      else
                        some (0 : Int32)
                    else
                      some (0 : Int32)
              else
                some (5 : Int32))
            else
              if r_2 = 0 then
                if p2 = (p3 - (1 : Int32)) then
                  if r_2 = (38 : Int32) then
                    if p4 = 0 then
                      some (7 : Int32)
                    else
                      some (0 : Int32)
                  else
                    some (0 : Int32)
                else
                  some (6 : Int32)
              else
                if p2 = (p3 - (1 : Int32)) then
                  some (6 : Int32)
                else
                  if r_2 = (38 : Int32) then
                    if p4 = 0 then
                      some (7 : Int32)
                    else
                      some (0 : Int32)
                  else
                    some (0 : Int32)
        else
          some (4 : Int32))
      else
        some (3 : Int32))
    else
      some (2 : Int32))
  else
    some (1 : Int32))
set_option maxHeartbeats 4000000 in
set_option maxRecDepth 100000 in
theorem k_Mo_faultOf (l : Launch) (dC : Nat → ClassId) (dI : Nat → Nat → Nat) (cI cJ : ClassId) (fu : Nat) (p2 : Int32) (p3 : Int32) (p4 : Int32) (n_p1 : Nat) (f_p1 : Nat → Int32) (q_p1 : Nat) (r : Int32) (h : pf_Mo_faultOf fu p2 p3 p4 n_p1 f_p1 = some r) : ck_i l y_Mo_faultOf wm_Mo_faultOf ({ frames := 2, cells := 0, slots := 0, locals := 47 } : Room) [.ref q_p1, .int p2, .int p3, .int p4] (dC, dI) [(cI, .int), (cJ, .long)] [(q_p1, .inl (cI, n_p1, .inl f_p1))] r [(q_p1, .inl (cI, n_p1, .inl f_p1))] := by
  refine ck_ofi (cc := c_Mo_faultOf) (maxL := 5) (ret := (some .int)) (by decide +kernel) rfl ?_
  intro p e s m below meth c A C0 hK hP hD hS hE
  obtain ⟨hx, hb, hr, hml, hown, hts, hlk, hA, hin⟩ := C0
  unfold pf_Mo_faultOf at h
  have hl := lv_entry ([.ref q_p1, .int p2, .int p3, .int p4]) (n := 5) (Nat.le_of_ble_eq_true rfl)
  rw [lg_entry_eq]
  generalize (lg_sl ([.ref q_p1, .int p2, .int p3, .int p4]) ++ List.replicate (5 - (lg_sl ([.ref q_p1, .int p2, .int p3, .int p4])).length) Slot.unset).toArray = ls at hl ⊢
  have hl : lv_has ls 5 [(0, .ref q_p1), (1, .int p2), (2, .int p3), (3, .int p4)] := hl
  refine lv_aload_n hx hb d_Mo_faultOf_0 rfl (lv_at hl 0 rfl) ?_
  refine lv_iload_n hx hb d_Mo_faultOf_1 rfl (lv_at hl 1 rfl) ?_
  obtain ⟨r_2, h_1, h⟩ := ch_bind h
  try dsimp only at h
  refine ck_goi (wc := [(q_p1, .inl (cI, n_p1, .inl f_p1))]) (wr := []) (w1 := [(q_p1, .inl (cI, n_p1, .inl f_p1))]) (va_runS (As := [.ref q_p1, .int p2]) (rest := []) ⟨hx, hb, hml, hown, hts⟩ (k_Mo_kindOf l dC dI cI cJ p2 n_p1 f_p1 q_p1 r_2 h_1 _) (va_cwS 2 hts (gw_S tw_806 tw_807 tw_9 tw_808) rfl rfl rfl (by decide +kernel) ⟨Nat.le_of_ble_eq_true rfl, Nat.le_of_ble_eq_true rfl⟩) (ck_preS (wc := [(q_p1, .inl (cI, n_p1, .inl f_p1))]) hK hP hD hS hA hE [0] (by decide) rfl) rfl rfl hl.1 rfl (lv_room (Nat.le_of_ble_eq_true rfl)) d_Mo_faultOf_2 ⟨Nat.le_of_ble_eq_true rfl, Nat.le_of_ble_eq_true rfl⟩) hP hD hS hA [0] [] rfl rfl (by decide) (by decide) (fun H locs hP hD hS => ?_)
  have hP : va_P (dC, dI) vwCl [(q_p1, .inl (cI, n_p1, .inl f_p1))] H := hP.sub [0] rfl
  have hD : va_D A [(q_p1, .inl (cI, n_p1, .inl f_p1))] := hD.sub [0] (by decide) rfl
  refine lv_istore (lv' := [(4, .int r_2), (0, .ref q_p1), (1, .int p2), (2, .int p3), (3, .int p4)]) hx hb d_Mo_faultOf_5 hl (by decide) rfl (fun ls hl => ?_)
  refine lv_iload hx hb d_Mo_faultOf_7 (lv_at hl 0 rfl) ?_
  refine lv_bipush (v := 40) hx hb d_Mo_faultOf_9 (by decide) ?_
  refine lv_icmp_le (tgt := 16) hx hb d_Mo_faultOf_11 (by decide) (fun c_3 => ?_) (fun c_3 => ?_)
  · rw [if_pos c_3] at h
    refine lv_aload_n hx hb d_Mo_faultOf_16 rfl (lv_at hl 1 rfl) ?_
    refine lv_iload_n hx hb d_Mo_faultOf_17 rfl (lv_at hl 2 rfl) ?_
    obtain ⟨r_5, h_4, h⟩ := ch_bind h
    try dsimp only at h
    refine ck_goi (wc := [(q_p1, .inl (cI, n_p1, .inl f_p1))]) (wr := []) (w1 := [(q_p1, .inl (cI, n_p1, .inl f_p1))]) (va_runS (As := [.ref q_p1, .int p2]) (rest := []) ⟨hx, hb, hml, hown, hts⟩ (k_Mo_badTarget l dC dI cI cJ p2 n_p1 f_p1 q_p1 r_5 h_4 _) (va_cwS 2 hts (gw_S tw_809 tw_810 tw_9 tw_811) rfl rfl rfl (by decide +kernel) ⟨Nat.le_of_ble_eq_true rfl, Nat.le_of_ble_eq_true rfl⟩) (ck_preS (wc := [(q_p1, .inl (cI, n_p1, .inl f_p1))]) hK hP hD hS hA hE [0] (by decide) rfl) rfl rfl hl.1 rfl (lv_room (Nat.le_of_ble_eq_true rfl)) d_Mo_faultOf_18 ⟨Nat.le_of_ble_eq_true rfl, Nat.le_of_ble_eq_true rfl⟩) hP hD hS hA [0] [] rfl rfl (by decide) (by decide) (fun H locs hP hD hS => ?_)
    have hP : va_P (dC, dI) vwCl [(q_p1, .inl (cI, n_p1, .inl f_p1))] H := hP.sub [0] rfl
    have hD : va_D A [(q_p1, .inl (cI, n_p1, .inl f_p1))] := hD.sub [0] (by decide) rfl
    refine lv_if_eq (tgt := 26) hx hb d_Mo_faultOf_21 (by decide) (fun c_6 => ?_) (fun c_6 => ?_)
    · rw [if_pos c_6] at h
      refine lv_aload_n hx hb d_Mo_faultOf_26 rfl (lv_at hl 1 rfl) ?_
      refine lv_iload_n hx hb d_Mo_faultOf_27 rfl (lv_at hl 2 rfl) ?_
      obtain ⟨r_8, h_7, h⟩ := ch_bind h
      try dsimp only at h
      refine ck_goi (wc := [(q_p1, .inl (cI, n_p1, .inl f_p1))]) (wr := []) (w1 := [(q_p1, .inl (cI, n_p1, .inl f_p1))]) (va_runS (As := [.ref q_p1, .int p2]) (rest := []) ⟨hx, hb, hml, hown, hts⟩ (k_Mo_badSources l dC dI cI cJ fu p2 n_p1 f_p1 q_p1 r_8 h_7 _) (va_cwS 2 hts (gw_S tw_815 tw_816 tw_9 tw_817) rfl rfl rfl (by decide +kernel) ⟨Nat.le_of_ble_eq_true rfl, Nat.le_of_ble_eq_true rfl⟩) (ck_preS (wc := [(q_p1, .inl (cI, n_p1, .inl f_p1))]) hK hP hD hS hA hE [0] (by decide) rfl) rfl rfl hl.1 rfl (lv_room (Nat.le_of_ble_eq_true rfl)) d_Mo_faultOf_28 ⟨Nat.le_of_ble_eq_true rfl, Nat.le_of_ble_eq_true rfl⟩) hP hD hS hA [0] [] rfl rfl (by decide) (by decide) (fun H locs hP hD hS => ?_)
      have hP : va_P (dC, dI) vwCl [(q_p1, .inl (cI, n_p1, .inl f_p1))] H := hP.sub [0] rfl
      have hD : va_D A [(q_p1, .inl (cI, n_p1, .inl f_p1))] := hD.sub [0] (by decide) rfl
      refine lv_if_eq (tgt := 36) hx hb d_Mo_faultOf_31 (by decide) (fun c_9 => ?_) (fun c_9 => ?_)
      · rw [if_pos c_9] at h
        refine lv_aload_n hx hb d_Mo_faultOf_36 rfl (lv_at hl 1 rfl) ?_
        refine lv_iload_n hx hb d_Mo_faultOf_37 rfl (lv_at hl 2 rfl) ?_
        refine lv_iload_n hx hb d_Mo_faultOf_38 rfl (lv_at hl 3 rfl) ?_
        obtain ⟨r_11, h_10, h⟩ := ch_bind h
        try dsimp only at h
        refine ck_goi (wc := [(q_p1, .inl (cI, n_p1, .inl f_p1))]) (wr := []) (w1 := [(q_p1, .inl (cI, n_p1, .inl f_p1))]) (va_runS (As := [.ref q_p1, .int p2, .int p3]) (rest := []) ⟨hx, hb, hml, hown, hts⟩ (k_Mo_badNumber l dC dI cI cJ p2 p3 n_p1 f_p1 q_p1 r_11 h_10 _) (va_cwS 3 hts (gw_S tw_828 tw_829 tw_9 tw_830) rfl rfl rfl (by decide +kernel) ⟨Nat.le_of_ble_eq_true rfl, Nat.le_of_ble_eq_true rfl⟩) (ck_preS (wc := [(q_p1, .inl (cI, n_p1, .inl f_p1))]) hK hP hD hS hA hE [0] (by decide) rfl) rfl rfl hl.1 rfl (lv_room (Nat.le_of_ble_eq_true rfl)) d_Mo_faultOf_39 ⟨Nat.le_of_ble_eq_true rfl, Nat.le_of_ble_eq_true rfl⟩) hP hD hS hA [0] [] rfl rfl (by decide) (by decide) (fun H locs hP hD hS => ?_)
        have hP : va_P (dC, dI) vwCl [(q_p1, .inl (cI, n_p1, .inl f_p1))] H := hP.sub [0] rfl
        have hD : va_D A [(q_p1, .inl (cI, n_p1, .inl f_p1))] := hD.sub [0] (by decide) rfl
        refine lv_if_eq (tgt := 47) hx hb d_Mo_faultOf_42 (by decide) (fun c_12 => ?_) (fun c_12 => ?_)
        · rw [if_pos c_12] at h
          refine lv_iload hx hb d_Mo_faultOf_47 (lv_at hl 0 rfl) ?_
          refine lv_bipush (v := 35) hx hb d_Mo_faultOf_49 (by decide) ?_
          refine lv_icmp_ne (tgt := 62) hx hb d_Mo_faultOf_51 (by decide) (fun c_13 => ?_) (fun c_13 => ?_)
          · rw [if_neg c_13] at h
            refine lv_iload hx hb d_Mo_faultOf_62 (lv_at hl 0 rfl) ?_
            refine lv_bipush (v := 34) hx hb d_Mo_faultOf_64 (by decide) ?_
            refine lv_icmp_ne (tgt := 80) hx hb d_Mo_faultOf_66 (by decide) (fun c_14 => ?_) (fun c_14 => ?_)
            · rw [if_neg c_14] at h
              refine lv_iload hx hb d_Mo_faultOf_80 (lv_at hl 0 rfl) ?_
              refine lv_if_ne (tgt := 89) hx hb d_Mo_faultOf_82 (by decide) (fun c_15 => ?_) (fun c_15 => ?_)
              · rw [if_neg c_15] at h
                refine lv_iconst (v := 0) hx hb d_Mo_faultOf_89 (by decide) ?_
                refine lv_iload_n hx hb d_Mo_faultOf_90 rfl (lv_at hl 2 rfl) ?_
                refine lv_iload_n hx hb d_Mo_faultOf_91 rfl (lv_at hl 3 rfl) ?_
                refine lv_iconst (v := 1) hx hb d_Mo_faultOf_92 (by decide) ?_
                refine lv_isub hx hb d_Mo_faultOf_93 ?_
                refine lv_icmp_ne (tgt := 101) hx hb d_Mo_faultOf_94 (by decide) (fun c_16 => ?_) (fun c_16 => ?_)
                · rw [if_neg c_16] at h
                  refine lv_iconst (v := 0) hx hb d_Mo_faultOf_101 (by decide) ?_
                  refine lv_icmp_eq (tgt := 108) hx hb d_Mo_faultOf_102 (by decide) (fun _ => ?_) (fun c9 => absurd (by decide) c9)
                  refine lv_iload hx hb d_Mo_faultOf_108 (lv_at hl 0 rfl) ?_
                  refine lv_bipush (v := 38) hx hb d_Mo_faultOf_110 (by decide) ?_
                  refine lv_icmp_ne (tgt := 124) hx hb d_Mo_faultOf_112 (by decide) (fun c_17 => ?_) (fun c_17 => ?_)
                  · rw [if_neg c_17] at h
                    refine lv_iconst (v := 0) hx hb d_Mo_faultOf_124 (by decide) ?_
                    cases h
                    exact ck_iret hx hb hr hlk hK hP hD hS d_Mo_faultOf_125
                  · rw [if_pos c_17] at h
                    refine lv_iload_n hx hb d_Mo_faultOf_115 rfl (lv_at hl 4 rfl) ?_
                    refine lv_if_ne (tgt := 124) hx hb d_Mo_faultOf_116 (by decide) (fun c_18 => ?_) (fun c_18 => ?_)
                    · rw [if_neg c_18] at h
                      refine lv_iconst (v := 0) hx hb d_Mo_faultOf_124 (by decide) ?_
                      cases h
                      exact ck_iret hx hb hr hlk hK hP hD hS d_Mo_faultOf_125
                    · rw [if_pos c_18] at h
                      refine lv_bipush (v := 7) hx hb d_Mo_faultOf_119 (by decide) ?_
                      refine lv_goto (tgt := 125) hx hb d_Mo_faultOf_121 (by decide) ?_
                      cases h
                      exact ck_iret hx hb hr hlk hK hP hD hS d_Mo_faultOf_125
                · rw [if_pos c_16] at h
                  refine lv_iconst (v := 1) hx hb d_Mo_faultOf_97 (by decide) ?_
                  refine lv_goto (tgt := 102) hx hb d_Mo_faultOf_98 (by decide) ?_
                  refine lv_icmp_eq (tgt := 108) hx hb d_Mo_faultOf_102 (by decide) (fun c9 => absurd c9 (by decide)) (fun _ => ?_)
                  refine lv_bipush (v := 6) hx hb d_Mo_faultOf_105 (by decide) ?_
                  cases h
                  exact ck_iret hx hb hr hlk hK hP hD hS d_Mo_faultOf_107
              · rw [if_pos c_15] at h
                refine lv_iconst (v := 1) hx hb d_Mo_faultOf_85 (by decide) ?_
                refine lv_goto (tgt := 90) hx hb d_Mo_faultOf_86 (by decide) ?_
                refine lv_iload_n hx hb d_Mo_faultOf_90 rfl (lv_at hl 2 rfl) ?_
                refine lv_iload_n hx hb d_Mo_faultOf_91 rfl (lv_at hl 3 rfl) ?_
                refine lv_iconst (v := 1) hx hb d_Mo_faultOf_92 (by decide) ?_
                refine lv_isub hx hb d_Mo_faultOf_93 ?_
                refine lv_icmp_ne (tgt := 101) hx hb d_Mo_faultOf_94 (by decide) (fun c_19 => ?_) (fun c_19 => ?_)
                · rw [if_neg c_19] at h
                  refine lv_iconst (v := 0) hx hb d_Mo_faultOf_101 (by decide) ?_
                  refine lv_icmp_eq (tgt := 108) hx hb d_Mo_faultOf_102 (by decide) (fun c9 => absurd c9 (by decide)) (fun _ => ?_)
                  refine lv_bipush (v := 6) hx hb d_Mo_faultOf_105 (by decide) ?_
                  cases h
                  exact ck_iret hx hb hr hlk hK hP hD hS d_Mo_faultOf_107
                · rw [if_pos c_19] at h
                  refine lv_iconst (v := 1) hx hb d_Mo_faultOf_97 (by decide) ?_
                  refine lv_goto (tgt := 102) hx hb d_Mo_faultOf_98 (by decide) ?_
                  refine lv_icmp_eq (tgt := 108) hx hb d_Mo_faultOf_102 (by decide) (fun _ => ?_) (fun c9 => absurd (by decide) c9)
                  refine lv_iload hx hb d_Mo_faultOf_108 (lv_at hl 0 rfl) ?_
                  refine lv_bipush (v := 38) hx hb d_Mo_faultOf_110 (by decide) ?_
                  refine lv_icmp_ne (tgt := 124) hx hb d_Mo_faultOf_112 (by decide) (fun c_20 => ?_) (fun c_20 => ?_)
                  · rw [if_neg c_20] at h
                    refine lv_iconst (v := 0) hx hb d_Mo_faultOf_124 (by decide) ?_
                    cases h
                    exact ck_iret hx hb hr hlk hK hP hD hS d_Mo_faultOf_125
                  · rw [if_pos c_20] at h
                    refine lv_iload_n hx hb d_Mo_faultOf_115 rfl (lv_at hl 4 rfl) ?_
                    refine lv_if_ne (tgt := 124) hx hb d_Mo_faultOf_116 (by decide) (fun c_21 => ?_) (fun c_21 => ?_)
                    · rw [if_neg c_21] at h
                      refine lv_iconst (v := 0) hx hb d_Mo_faultOf_124 (by decide) ?_
                      cases h
                      exact ck_iret hx hb hr hlk hK hP hD hS d_Mo_faultOf_125
                    · rw [if_pos c_21] at h
                      refine lv_bipush (v := 7) hx hb d_Mo_faultOf_119 (by decide) ?_
                      refine lv_goto (tgt := 125) hx hb d_Mo_faultOf_121 (by decide) ?_
                      cases h
                      exact ck_iret hx hb hr hlk hK hP hD hS d_Mo_faultOf_125
            · rw [if_pos c_14] at h
              refine lv_aload_n hx hb d_Mo_faultOf_69 rfl (lv_at hl 1 rfl) ?_
              refine lv_iload_n hx hb d_Mo_faultOf_70 rfl (lv_at hl 2 rfl) ?_
              obtain ⟨r_23, h_22, h⟩ := ch_bind h
              try dsimp only at h
              refine ck_goi (wc := [(q_p1, .inl (cI, n_p1, .inl f_p1))]) (wr := []) (w1 := [(q_p1, .inl (cI, n_p1, .inl f_p1))]) (va_runS (As := [.ref q_p1, .int p2]) (rest := []) ⟨hx, hb, hml, hown, hts⟩ (k_Mo_depth l dC dI cI cJ fu p2 n_p1 f_p1 q_p1 r_23 h_22 _) (va_cwS 2 hts (gw_S tw_834 tw_835 tw_9 tw_836) rfl rfl rfl (by decide +kernel) ⟨Nat.le_of_ble_eq_true rfl, Nat.le_of_ble_eq_true rfl⟩) (ck_preS (wc := [(q_p1, .inl (cI, n_p1, .inl f_p1))]) hK hP hD hS hA hE [0] (by decide) rfl) rfl rfl hl.1 rfl (lv_room (Nat.le_of_ble_eq_true rfl)) d_Mo_faultOf_71 ⟨Nat.le_of_ble_eq_true rfl, Nat.le_of_ble_eq_true rfl⟩) hP hD hS hA [0] [] rfl rfl (by decide) (by decide) (fun H locs hP hD hS => ?_)
              have hP : va_P (dC, dI) vwCl [(q_p1, .inl (cI, n_p1, .inl f_p1))] H := hP.sub [0] rfl
              have hD : va_D A [(q_p1, .inl (cI, n_p1, .inl f_p1))] := hD.sub [0] (by decide) rfl
              refine lv_iconst (v := 4) hx hb d_Mo_faultOf_74 (by decide) ?_
              refine lv_icmp_lt (tgt := 80) hx hb d_Mo_faultOf_75 (by decide) (fun c_24 => ?_) (fun c_24 => ?_)
              · rw [if_pos c_24] at h
                refine lv_iload hx hb d_Mo_faultOf_80 (lv_at hl 0 rfl) ?_
                refine lv_if_ne (tgt := 89) hx hb d_Mo_faultOf_82 (by decide) (fun c_25 => ?_) (fun c_25 => ?_)
                · rw [if_neg c_25] at h
                  refine lv_iconst (v := 0) hx hb d_Mo_faultOf_89 (by decide) ?_
                  refine lv_iload_n hx hb d_Mo_faultOf_90 rfl (lv_at hl 2 rfl) ?_
                  refine lv_iload_n hx hb d_Mo_faultOf_91 rfl (lv_at hl 3 rfl) ?_
                  refine lv_iconst (v := 1) hx hb d_Mo_faultOf_92 (by decide) ?_
                  refine lv_isub hx hb d_Mo_faultOf_93 ?_
                  refine lv_icmp_ne (tgt := 101) hx hb d_Mo_faultOf_94 (by decide) (fun c_26 => ?_) (fun c_26 => ?_)
                  · rw [if_neg c_26] at h
                    refine lv_iconst (v := 0) hx hb d_Mo_faultOf_101 (by decide) ?_
                    refine lv_icmp_eq (tgt := 108) hx hb d_Mo_faultOf_102 (by decide) (fun _ => ?_) (fun c9 => absurd (by decide) c9)
                    refine lv_iload hx hb d_Mo_faultOf_108 (lv_at hl 0 rfl) ?_
                    refine lv_bipush (v := 38) hx hb d_Mo_faultOf_110 (by decide) ?_
                    refine lv_icmp_ne (tgt := 124) hx hb d_Mo_faultOf_112 (by decide) (fun c_27 => ?_) (fun c_27 => ?_)
                    · rw [if_neg c_27] at h
                      refine lv_iconst (v := 0) hx hb d_Mo_faultOf_124 (by decide) ?_
                      cases h
                      exact ck_iret hx hb hr hlk hK hP hD hS d_Mo_faultOf_125
                    · rw [if_pos c_27] at h
                      refine lv_iload_n hx hb d_Mo_faultOf_115 rfl (lv_at hl 4 rfl) ?_
                      refine lv_if_ne (tgt := 124) hx hb d_Mo_faultOf_116 (by decide) (fun c_28 => ?_) (fun c_28 => ?_)
                      · rw [if_neg c_28] at h
                        refine lv_iconst (v := 0) hx hb d_Mo_faultOf_124 (by decide) ?_
                        cases h
                        exact ck_iret hx hb hr hlk hK hP hD hS d_Mo_faultOf_125
                      · rw [if_pos c_28] at h
                        refine lv_bipush (v := 7) hx hb d_Mo_faultOf_119 (by decide) ?_
                        refine lv_goto (tgt := 125) hx hb d_Mo_faultOf_121 (by decide) ?_
                        cases h
                        exact ck_iret hx hb hr hlk hK hP hD hS d_Mo_faultOf_125
                  · rw [if_pos c_26] at h
                    refine lv_iconst (v := 1) hx hb d_Mo_faultOf_97 (by decide) ?_
                    refine lv_goto (tgt := 102) hx hb d_Mo_faultOf_98 (by decide) ?_
                    refine lv_icmp_eq (tgt := 108) hx hb d_Mo_faultOf_102 (by decide) (fun c9 => absurd c9 (by decide)) (fun _ => ?_)
                    refine lv_bipush (v := 6) hx hb d_Mo_faultOf_105 (by decide) ?_
                    cases h
                    exact ck_iret hx hb hr hlk hK hP hD hS d_Mo_faultOf_107
                · rw [if_pos c_25] at h
                  refine lv_iconst (v := 1) hx hb d_Mo_faultOf_85 (by decide) ?_
                  refine lv_goto (tgt := 90) hx hb d_Mo_faultOf_86 (by decide) ?_
                  refine lv_iload_n hx hb d_Mo_faultOf_90 rfl (lv_at hl 2 rfl) ?_
                  refine lv_iload_n hx hb d_Mo_faultOf_91 rfl (lv_at hl 3 rfl) ?_
                  refine lv_iconst (v := 1) hx hb d_Mo_faultOf_92 (by decide) ?_
                  refine lv_isub hx hb d_Mo_faultOf_93 ?_
                  refine lv_icmp_ne (tgt := 101) hx hb d_Mo_faultOf_94 (by decide) (fun c_29 => ?_) (fun c_29 => ?_)
                  · rw [if_neg c_29] at h
                    refine lv_iconst (v := 0) hx hb d_Mo_faultOf_101 (by decide) ?_
                    refine lv_icmp_eq (tgt := 108) hx hb d_Mo_faultOf_102 (by decide) (fun c9 => absurd c9 (by decide)) (fun _ => ?_)
                    refine lv_bipush (v := 6) hx hb d_Mo_faultOf_105 (by decide) ?_
                    cases h
                    exact ck_iret hx hb hr hlk hK hP hD hS d_Mo_faultOf_107
                  · rw [if_pos c_29] at h
                    refine lv_iconst (v := 1) hx hb d_Mo_faultOf_97 (by decide) ?_
                    refine lv_goto (tgt := 102) hx hb d_Mo_faultOf_98 (by decide) ?_
                    refine lv_icmp_eq (tgt := 108) hx hb d_Mo_faultOf_102 (by decide) (fun _ => ?_) (fun c9 => absurd (by decide) c9)
                    refine lv_iload hx hb d_Mo_faultOf_108 (lv_at hl 0 rfl) ?_
                    refine lv_bipush (v := 38) hx hb d_Mo_faultOf_110 (by decide) ?_
                    refine lv_icmp_ne (tgt := 124) hx hb d_Mo_faultOf_112 (by decide) (fun c_30 => ?_) (fun c_30 => ?_)
                    · rw [if_neg c_30] at h
                      refine lv_iconst (v := 0) hx hb d_Mo_faultOf_124 (by decide) ?_
                      cases h
                      exact ck_iret hx hb hr hlk hK hP hD hS d_Mo_faultOf_125
                    · rw [if_pos c_30] at h
                      refine lv_iload_n hx hb d_Mo_faultOf_115 rfl (lv_at hl 4 rfl) ?_
                      refine lv_if_ne (tgt := 124) hx hb d_Mo_faultOf_116 (by decide) (fun c_31 => ?_) (fun c_31 => ?_)
                      · rw [if_neg c_31] at h
                        refine lv_iconst (v := 0) hx hb d_Mo_faultOf_124 (by decide) ?_
                        cases h
                        exact ck_iret hx hb hr hlk hK hP hD hS d_Mo_faultOf_125
                      · rw [if_pos c_31] at h
                        refine lv_bipush (v := 7) hx hb d_Mo_faultOf_119 (by decide) ?_
                        refine lv_goto (tgt := 125) hx hb d_Mo_faultOf_121 (by decide) ?_
                        cases h
                        exact ck_iret hx hb hr hlk hK hP hD hS d_Mo_faultOf_125
              · rw [if_neg c_24] at h
                refine lv_iconst (v := 5) hx hb d_Mo_faultOf_78 (by decide) ?_
                cases h
                exact ck_iret hx hb hr hlk hK hP hD hS d_Mo_faultOf_79
          · rw [if_pos c_13] at h
            refine lv_aload_n hx hb d_Mo_faultOf_54 rfl (lv_at hl 1 rfl) ?_
            refine lv_iload_n hx hb d_Mo_faultOf_55 rfl (lv_at hl 2 rfl) ?_
            obtain ⟨r_33, h_32, h⟩ := ch_bind h
            try dsimp only at h
            refine ck_goi (wc := [(q_p1, .inl (cI, n_p1, .inl f_p1))]) (wr := []) (w1 := [(q_p1, .inl (cI, n_p1, .inl f_p1))]) (va_runS (As := [.ref q_p1, .int p2]) (rest := []) ⟨hx, hb, hml, hown, hts⟩ (k_Mo_depth l dC dI cI cJ fu p2 n_p1 f_p1 q_p1 r_33 h_32 _) (va_cwS 2 hts (gw_S tw_834 tw_835 tw_9 tw_836) rfl rfl rfl (by decide +kernel) ⟨Nat.le_of_ble_eq_true rfl, Nat.le_of_ble_eq_true rfl⟩) (ck_preS (wc := [(q_p1, .inl (cI, n_p1, .inl f_p1))]) hK hP hD hS hA hE [0] (by decide) rfl) rfl rfl hl.1 rfl (lv_room (Nat.le_of_ble_eq_true rfl)) d_Mo_faultOf_56 ⟨Nat.le_of_ble_eq_true rfl, Nat.le_of_ble_eq_true rfl⟩) hP hD hS hA [0] [] rfl rfl (by decide) (by decide) (fun H locs hP hD hS => ?_)
            have hP : va_P (dC, dI) vwCl [(q_p1, .inl (cI, n_p1, .inl f_p1))] H := hP.sub [0] rfl
            have hD : va_D A [(q_p1, .inl (cI, n_p1, .inl f_p1))] := hD.sub [0] (by decide) rfl
            refine lv_if_eq (tgt := 78) hx hb d_Mo_faultOf_59 (by decide) (fun c_34 => ?_) (fun c_34 => ?_)
            · rw [if_pos c_34] at h
              refine lv_iconst (v := 5) hx hb d_Mo_faultOf_78 (by decide) ?_
              cases h
              exact ck_iret hx hb hr hlk hK hP hD hS d_Mo_faultOf_79
            · rw [if_neg c_34] at h
              refine lv_iload hx hb d_Mo_faultOf_62 (lv_at hl 0 rfl) ?_
              refine lv_bipush (v := 34) hx hb d_Mo_faultOf_64 (by decide) ?_
              refine lv_icmp_ne (tgt := 80) hx hb d_Mo_faultOf_66 (by decide) (fun c_35 => ?_) (fun c_35 => ?_)
              · rw [if_neg c_35] at h
                refine lv_iload hx hb d_Mo_faultOf_80 (lv_at hl 0 rfl) ?_
                refine lv_if_ne (tgt := 89) hx hb d_Mo_faultOf_82 (by decide) (fun c_36 => ?_) (fun c_36 => ?_)
                · rw [if_neg c_36] at h
                  refine lv_iconst (v := 0) hx hb d_Mo_faultOf_89 (by decide) ?_
                  refine lv_iload_n hx hb d_Mo_faultOf_90 rfl (lv_at hl 2 rfl) ?_
                  refine lv_iload_n hx hb d_Mo_faultOf_91 rfl (lv_at hl 3 rfl) ?_
                  refine lv_iconst (v := 1) hx hb d_Mo_faultOf_92 (by decide) ?_
                  refine lv_isub hx hb d_Mo_faultOf_93 ?_
                  refine lv_icmp_ne (tgt := 101) hx hb d_Mo_faultOf_94 (by decide) (fun c_37 => ?_) (fun c_37 => ?_)
                  · rw [if_neg c_37] at h
                    refine lv_iconst (v := 0) hx hb d_Mo_faultOf_101 (by decide) ?_
                    refine lv_icmp_eq (tgt := 108) hx hb d_Mo_faultOf_102 (by decide) (fun _ => ?_) (fun c9 => absurd (by decide) c9)
                    refine lv_iload hx hb d_Mo_faultOf_108 (lv_at hl 0 rfl) ?_
                    refine lv_bipush (v := 38) hx hb d_Mo_faultOf_110 (by decide) ?_
                    refine lv_icmp_ne (tgt := 124) hx hb d_Mo_faultOf_112 (by decide) (fun c_38 => ?_) (fun c_38 => ?_)
                    · rw [if_neg c_38] at h
                      refine lv_iconst (v := 0) hx hb d_Mo_faultOf_124 (by decide) ?_
                      cases h
                      exact ck_iret hx hb hr hlk hK hP hD hS d_Mo_faultOf_125
                    · rw [if_pos c_38] at h
                      refine lv_iload_n hx hb d_Mo_faultOf_115 rfl (lv_at hl 4 rfl) ?_
                      refine lv_if_ne (tgt := 124) hx hb d_Mo_faultOf_116 (by decide) (fun c_39 => ?_) (fun c_39 => ?_)
                      · rw [if_neg c_39] at h
                        refine lv_iconst (v := 0) hx hb d_Mo_faultOf_124 (by decide) ?_
                        cases h
                        exact ck_iret hx hb hr hlk hK hP hD hS d_Mo_faultOf_125
                      · rw [if_pos c_39] at h
                        refine lv_bipush (v := 7) hx hb d_Mo_faultOf_119 (by decide) ?_
                        refine lv_goto (tgt := 125) hx hb d_Mo_faultOf_121 (by decide) ?_
                        cases h
                        exact ck_iret hx hb hr hlk hK hP hD hS d_Mo_faultOf_125
                  · rw [if_pos c_37] at h
                    refine lv_iconst (v := 1) hx hb d_Mo_faultOf_97 (by decide) ?_
                    refine lv_goto (tgt := 102) hx hb d_Mo_faultOf_98 (by decide) ?_
                    refine lv_icmp_eq (tgt := 108) hx hb d_Mo_faultOf_102 (by decide) (fun c9 => absurd c9 (by decide)) (fun _ => ?_)
                    refine lv_bipush (v := 6) hx hb d_Mo_faultOf_105 (by decide) ?_
                    cases h
                    exact ck_iret hx hb hr hlk hK hP hD hS d_Mo_faultOf_107
                · rw [if_pos c_36] at h
                  refine lv_iconst (v := 1) hx hb d_Mo_faultOf_85 (by decide) ?_
                  refine lv_goto (tgt := 90) hx hb d_Mo_faultOf_86 (by decide) ?_
                  refine lv_iload_n hx hb d_Mo_faultOf_90 rfl (lv_at hl 2 rfl) ?_
                  refine lv_iload_n hx hb d_Mo_faultOf_91 rfl (lv_at hl 3 rfl) ?_
                  refine lv_iconst (v := 1) hx hb d_Mo_faultOf_92 (by decide) ?_
                  refine lv_isub hx hb d_Mo_faultOf_93 ?_
                  refine lv_icmp_ne (tgt := 101) hx hb d_Mo_faultOf_94 (by decide) (fun c_40 => ?_) (fun c_40 => ?_)
                  · rw [if_neg c_40] at h
                    refine lv_iconst (v := 0) hx hb d_Mo_faultOf_101 (by decide) ?_
                    refine lv_icmp_eq (tgt := 108) hx hb d_Mo_faultOf_102 (by decide) (fun c9 => absurd c9 (by decide)) (fun _ => ?_)
                    refine lv_bipush (v := 6) hx hb d_Mo_faultOf_105 (by decide) ?_
                    cases h
                    exact ck_iret hx hb hr hlk hK hP hD hS d_Mo_faultOf_107
                  · rw [if_pos c_40] at h
                    refine lv_iconst (v := 1) hx hb d_Mo_faultOf_97 (by decide) ?_
                    refine lv_goto (tgt := 102) hx hb d_Mo_faultOf_98 (by decide) ?_
                    refine lv_icmp_eq (tgt := 108) hx hb d_Mo_faultOf_102 (by decide) (fun _ => ?_) (fun c9 => absurd (by decide) c9)
                    refine lv_iload hx hb d_Mo_faultOf_108 (lv_at hl 0 rfl) ?_
                    refine lv_bipush (v := 38) hx hb d_Mo_faultOf_110 (by decide) ?_
                    refine lv_icmp_ne (tgt := 124) hx hb d_Mo_faultOf_112 (by decide) (fun c_41 => ?_) (fun c_41 => ?_)
                    · rw [if_neg c_41] at h
                      refine lv_iconst (v := 0) hx hb d_Mo_faultOf_124 (by decide) ?_
                      cases h
                      exact ck_iret hx hb hr hlk hK hP hD hS d_Mo_faultOf_125
                    · rw [if_pos c_41] at h
                      refine lv_iload_n hx hb d_Mo_faultOf_115 rfl (lv_at hl 4 rfl) ?_
                      refine lv_if_ne (tgt := 124) hx hb d_Mo_faultOf_116 (by decide) (fun c_42 => ?_) (fun c_42 => ?_)
                      · rw [if_neg c_42] at h
                        refine lv_iconst (v := 0) hx hb d_Mo_faultOf_124 (by decide) ?_
                        cases h
                        exact ck_iret hx hb hr hlk hK hP hD hS d_Mo_faultOf_125
                      · rw [if_pos c_42] at h
                        refine lv_bipush (v := 7) hx hb d_Mo_faultOf_119 (by decide) ?_
                        refine lv_goto (tgt := 125) hx hb d_Mo_faultOf_121 (by decide) ?_
                        cases h
                        exact ck_iret hx hb hr hlk hK hP hD hS d_Mo_faultOf_125
              · rw [if_pos c_35] at h
                refine lv_aload_n hx hb d_Mo_faultOf_69 rfl (lv_at hl 1 rfl) ?_
                refine lv_iload_n hx hb d_Mo_faultOf_70 rfl (lv_at hl 2 rfl) ?_
                obtain ⟨r_44, h_43, h⟩ := ch_bind h
                try dsimp only at h
                refine ck_goi (wc := [(q_p1, .inl (cI, n_p1, .inl f_p1))]) (wr := []) (w1 := [(q_p1, .inl (cI, n_p1, .inl f_p1))]) (va_runS (As := [.ref q_p1, .int p2]) (rest := []) ⟨hx, hb, hml, hown, hts⟩ (k_Mo_depth l dC dI cI cJ fu p2 n_p1 f_p1 q_p1 r_44 h_43 _) (va_cwS 2 hts (gw_S tw_834 tw_835 tw_9 tw_836) rfl rfl rfl (by decide +kernel) ⟨Nat.le_of_ble_eq_true rfl, Nat.le_of_ble_eq_true rfl⟩) (ck_preS (wc := [(q_p1, .inl (cI, n_p1, .inl f_p1))]) hK hP hD hS hA hE [0] (by decide) rfl) rfl rfl hl.1 rfl (lv_room (Nat.le_of_ble_eq_true rfl)) d_Mo_faultOf_71 ⟨Nat.le_of_ble_eq_true rfl, Nat.le_of_ble_eq_true rfl⟩) hP hD hS hA [0] [] rfl rfl (by decide) (by decide) (fun H locs hP hD hS => ?_)
                have hP : va_P (dC, dI) vwCl [(q_p1, .inl (cI, n_p1, .inl f_p1))] H := hP.sub [0] rfl
                have hD : va_D A [(q_p1, .inl (cI, n_p1, .inl f_p1))] := hD.sub [0] (by decide) rfl
                refine lv_iconst (v := 4) hx hb d_Mo_faultOf_74 (by decide) ?_
                refine lv_icmp_lt (tgt := 80) hx hb d_Mo_faultOf_75 (by decide) (fun c_45 => ?_) (fun c_45 => ?_)
                · rw [if_pos c_45] at h
                  refine lv_iload hx hb d_Mo_faultOf_80 (lv_at hl 0 rfl) ?_
                  refine lv_if_ne (tgt := 89) hx hb d_Mo_faultOf_82 (by decide) (fun c_46 => ?_) (fun c_46 => ?_)
                  · rw [if_neg c_46] at h
                    refine lv_iconst (v := 0) hx hb d_Mo_faultOf_89 (by decide) ?_
                    refine lv_iload_n hx hb d_Mo_faultOf_90 rfl (lv_at hl 2 rfl) ?_
                    refine lv_iload_n hx hb d_Mo_faultOf_91 rfl (lv_at hl 3 rfl) ?_
                    refine lv_iconst (v := 1) hx hb d_Mo_faultOf_92 (by decide) ?_
                    refine lv_isub hx hb d_Mo_faultOf_93 ?_
                    refine lv_icmp_ne (tgt := 101) hx hb d_Mo_faultOf_94 (by decide) (fun c_47 => ?_) (fun c_47 => ?_)
                    · rw [if_neg c_47] at h
                      refine lv_iconst (v := 0) hx hb d_Mo_faultOf_101 (by decide) ?_
                      refine lv_icmp_eq (tgt := 108) hx hb d_Mo_faultOf_102 (by decide) (fun _ => ?_) (fun c9 => absurd (by decide) c9)
                      refine lv_iload hx hb d_Mo_faultOf_108 (lv_at hl 0 rfl) ?_
                      refine lv_bipush (v := 38) hx hb d_Mo_faultOf_110 (by decide) ?_
                      refine lv_icmp_ne (tgt := 124) hx hb d_Mo_faultOf_112 (by decide) (fun c_48 => ?_) (fun c_48 => ?_)
                      · rw [if_neg c_48] at h
                        refine lv_iconst (v := 0) hx hb d_Mo_faultOf_124 (by decide) ?_
                        cases h
                        exact ck_iret hx hb hr hlk hK hP hD hS d_Mo_faultOf_125
                      · rw [if_pos c_48] at h
                        refine lv_iload_n hx hb d_Mo_faultOf_115 rfl (lv_at hl 4 rfl) ?_
                        refine lv_if_ne (tgt := 124) hx hb d_Mo_faultOf_116 (by decide) (fun c_49 => ?_) (fun c_49 => ?_)
                        · rw [if_neg c_49] at h
                          refine lv_iconst (v := 0) hx hb d_Mo_faultOf_124 (by decide) ?_
                          cases h
                          exact ck_iret hx hb hr hlk hK hP hD hS d_Mo_faultOf_125
                        · rw [if_pos c_49] at h
                          refine lv_bipush (v := 7) hx hb d_Mo_faultOf_119 (by decide) ?_
                          refine lv_goto (tgt := 125) hx hb d_Mo_faultOf_121 (by decide) ?_
                          cases h
                          exact ck_iret hx hb hr hlk hK hP hD hS d_Mo_faultOf_125
                    · rw [if_pos c_47] at h
                      refine lv_iconst (v := 1) hx hb d_Mo_faultOf_97 (by decide) ?_
                      refine lv_goto (tgt := 102) hx hb d_Mo_faultOf_98 (by decide) ?_
                      refine lv_icmp_eq (tgt := 108) hx hb d_Mo_faultOf_102 (by decide) (fun c9 => absurd c9 (by decide)) (fun _ => ?_)
                      refine lv_bipush (v := 6) hx hb d_Mo_faultOf_105 (by decide) ?_
                      cases h
                      exact ck_iret hx hb hr hlk hK hP hD hS d_Mo_faultOf_107
                  · rw [if_pos c_46] at h
                    refine lv_iconst (v := 1) hx hb d_Mo_faultOf_85 (by decide) ?_
                    refine lv_goto (tgt := 90) hx hb d_Mo_faultOf_86 (by decide) ?_
                    refine lv_iload_n hx hb d_Mo_faultOf_90 rfl (lv_at hl 2 rfl) ?_
                    refine lv_iload_n hx hb d_Mo_faultOf_91 rfl (lv_at hl 3 rfl) ?_
                    refine lv_iconst (v := 1) hx hb d_Mo_faultOf_92 (by decide) ?_
                    refine lv_isub hx hb d_Mo_faultOf_93 ?_
                    refine lv_icmp_ne (tgt := 101) hx hb d_Mo_faultOf_94 (by decide) (fun c_50 => ?_) (fun c_50 => ?_)
                    · rw [if_neg c_50] at h
                      refine lv_iconst (v := 0) hx hb d_Mo_faultOf_101 (by decide) ?_
                      refine lv_icmp_eq (tgt := 108) hx hb d_Mo_faultOf_102 (by decide) (fun c9 => absurd c9 (by decide)) (fun _ => ?_)
                      refine lv_bipush (v := 6) hx hb d_Mo_faultOf_105 (by decide) ?_
                      cases h
                      exact ck_iret hx hb hr hlk hK hP hD hS d_Mo_faultOf_107
                    · rw [if_pos c_50] at h
                      refine lv_iconst (v := 1) hx hb d_Mo_faultOf_97 (by decide) ?_
                      refine lv_goto (tgt := 102) hx hb d_Mo_faultOf_98 (by decide) ?_
                      refine lv_icmp_eq (tgt := 108) hx hb d_Mo_faultOf_102 (by decide) (fun _ => ?_) (fun c9 => absurd (by decide) c9)
                      refine lv_iload hx hb d_Mo_faultOf_108 (lv_at hl 0 rfl) ?_
                      refine lv_bipush (v := 38) hx hb d_Mo_faultOf_110 (by decide) ?_
                      refine lv_icmp_ne (tgt := 124) hx hb d_Mo_faultOf_112 (by decide) (fun c_51 => ?_) (fun c_51 => ?_)
                      · rw [if_neg c_51] at h
                        refine lv_iconst (v := 0) hx hb d_Mo_faultOf_124 (by decide) ?_
                        cases h
                        exact ck_iret hx hb hr hlk hK hP hD hS d_Mo_faultOf_125
                      · rw [if_pos c_51] at h
                        refine lv_iload_n hx hb d_Mo_faultOf_115 rfl (lv_at hl 4 rfl) ?_
                        refine lv_if_ne (tgt := 124) hx hb d_Mo_faultOf_116 (by decide) (fun c_52 => ?_) (fun c_52 => ?_)
                        · rw [if_neg c_52] at h
                          refine lv_iconst (v := 0) hx hb d_Mo_faultOf_124 (by decide) ?_
                          cases h
                          exact ck_iret hx hb hr hlk hK hP hD hS d_Mo_faultOf_125
                        · rw [if_pos c_52] at h
                          refine lv_bipush (v := 7) hx hb d_Mo_faultOf_119 (by decide) ?_
                          refine lv_goto (tgt := 125) hx hb d_Mo_faultOf_121 (by decide) ?_
                          cases h
                          exact ck_iret hx hb hr hlk hK hP hD hS d_Mo_faultOf_125
                · rw [if_neg c_45] at h
                  refine lv_iconst (v := 5) hx hb d_Mo_faultOf_78 (by decide) ?_
                  cases h
                  exact ck_iret hx hb hr hlk hK hP hD hS d_Mo_faultOf_79
        · rw [if_neg c_12] at h
          refine lv_iconst (v := 4) hx hb d_Mo_faultOf_45 (by decide) ?_
          cases h
          exact ck_iret hx hb hr hlk hK hP hD hS d_Mo_faultOf_46
      · rw [if_neg c_9] at h
        refine lv_iconst (v := 3) hx hb d_Mo_faultOf_34 (by decide) ?_
        cases h
        exact ck_iret hx hb hr hlk hK hP hD hS d_Mo_faultOf_35
    · rw [if_neg c_6] at h
      refine lv_iconst (v := 2) hx hb d_Mo_faultOf_24 (by decide) ?_
      cases h
      exact ck_iret hx hb hr hlk hK hP hD hS d_Mo_faultOf_25
  · rw [if_neg c_3] at h
    refine lv_iconst (v := 1) hx hb d_Mo_faultOf_14 (by decide) ?_
    cases h
    exact ck_iret hx hb hr hlk hK hP hD hS d_Mo_faultOf_15
def pf_Mo_around_6 (fu : Nat) (n_p1 : Nat) (f_p1 : Nat → Int32) : Nat → Int32 → Int32 → Option (Int32)
  | 0, _, _ => none
  | n + 1, x2, x3 =>
    if x3 < 0 then
      some (-1 : Int32)
    else
      Option.bind (pf_Mo_kindOf x3 n_p1 f_p1) (fun r_3 => 
      if r_3 = (35 : Int32) then
        pf_Mo_around_6 fu n_p1 f_p1 n (x2 + 1) (x3 + (-1))
      else
        Option.bind (pf_Mo_kindOf x3 n_p1 f_p1) (fun r_6 => 
        if r_6 = (34 : Int32) then
          if x2 = 0 then
            some x3
          else
            pf_Mo_around_6 fu n_p1 f_p1 n (x2 + (-1)) (x3 + (-1))
        else
          pf_Mo_around_6 fu n_p1 f_p1 n x2 (x3 + (-1))))
def pf_Mo_around (fu : Nat) (p2 : Int32) (n_p1 : Nat) (f_p1 : Nat → Int32) : Option (Int32) :=
  pf_Mo_around_6 fu n_p1 f_p1 fu (0 : Int32) (p2 - (1 : Int32))
set_option maxHeartbeats 4000000 in
set_option maxRecDepth 100000 in
theorem k_Mo_around (l : Launch) (dC : Nat → ClassId) (dI : Nat → Nat → Nat) (cI cJ : ClassId) (fu : Nat) (p2 : Int32) (n_p1 : Nat) (f_p1 : Nat → Int32) (q_p1 : Nat) (r : Int32) (h : pf_Mo_around fu p2 n_p1 f_p1 = some r) : ck_i l y_Mo_around wm_Mo_around ({ frames := 1, cells := 0, slots := 0, locals := 21 } : Room) [.ref q_p1, .int p2] (dC, dI) [(cI, .int), (cJ, .long)] [(q_p1, .inl (cI, n_p1, .inl f_p1))] r [(q_p1, .inl (cI, n_p1, .inl f_p1))] := by
  refine ck_ofi (cc := c_Mo_around) (maxL := 4) (ret := (some .int)) (by decide +kernel) rfl ?_
  intro p e s m below meth c A C0 hK hP hD hS hE
  obtain ⟨hx, hb, hr, hml, hown, hts, hlk, hA, hin⟩ := C0
  have w_6 : ∀ (n_6 : Nat) (x2 : Int32) (x3 : Int32), pf_Mo_around_6 fu n_p1 f_p1 n_6 x2 x3 = some r → ∀ (H : Heap) (locs : List Loc), va_P (dC, dI) vwCl [(q_p1, .inl (cI, n_p1, .inl f_p1))] H → va_D A [(q_p1, .inl (cI, n_p1, .inl f_p1))] → va_S A s.heap H locs → ∀ ls : Array Slot, lv_has ls 4 [(0, .ref q_p1), (2, .int x2), (3, .int x3)] → W p l e ({ frames := 1, cells := 0, slots := 0, locals := 21 } : Room) s m ([.ref q_p1, .int p2] : List Value).toArray below meth c H locs 0 0 (ck_Qi below (dC, dI) [(cI, .int), (cJ, .long)] A ([.ref q_p1, .int p2] : List Value).toArray s r [(q_p1, .inl (cI, n_p1, .inl f_p1))]) (F0 m 6 ls []) := by
    intro n_6
    induction n_6 with
    | zero =>
      intro x2 x3 h
      cases h
    | succ n_6 ih_6 =>
      intro x2 x3 h H locs hP hD hS ls hl
      rw [pf_Mo_around_6] at h
      refine lv_iload_n hx hb d_Mo_around_6 rfl (lv_at hl 2 rfl) ?_
      refine lv_if_lt (tgt := 51) hx hb d_Mo_around_7 (by decide) (fun c_1 => ?_) (fun c_1 => ?_)
      · rw [if_pos c_1] at h
        refine lv_iconst (v := -1) hx hb d_Mo_around_51 (by decide) ?_
        cases h
        exact ck_iret hx hb hr hlk hK hP hD hS d_Mo_around_52
      · rw [if_neg c_1] at h
        refine lv_aload_n hx hb d_Mo_around_10 rfl (lv_at hl 0 rfl) ?_
        refine lv_iload_n hx hb d_Mo_around_11 rfl (lv_at hl 2 rfl) ?_
        obtain ⟨r_3, h_2, h⟩ := ch_bind h
        try dsimp only at h
        refine ck_goi (wc := [(q_p1, .inl (cI, n_p1, .inl f_p1))]) (wr := []) (w1 := [(q_p1, .inl (cI, n_p1, .inl f_p1))]) (va_runS (As := [.ref q_p1, .int x3]) (rest := []) ⟨hx, hb, hml, hown, hts⟩ (k_Mo_kindOf l dC dI cI cJ x3 n_p1 f_p1 q_p1 r_3 h_2 _) (va_cwS 2 hts (gw_S tw_806 tw_807 tw_9 tw_808) rfl rfl rfl (by decide +kernel) ⟨Nat.le_of_ble_eq_true rfl, Nat.le_of_ble_eq_true rfl⟩) (ck_preS (wc := [(q_p1, .inl (cI, n_p1, .inl f_p1))]) hK hP hD hS hA hE [0] (by decide) rfl) rfl rfl hl.1 rfl (lv_room (Nat.le_of_ble_eq_true rfl)) d_Mo_around_12 ⟨Nat.le_of_ble_eq_true rfl, Nat.le_of_ble_eq_true rfl⟩) hP hD hS hA [0] [] rfl rfl (by decide) (by decide) (fun H locs hP hD hS => ?_)
        have hP : va_P (dC, dI) vwCl [(q_p1, .inl (cI, n_p1, .inl f_p1))] H := hP.sub [0] rfl
        have hD : va_D A [(q_p1, .inl (cI, n_p1, .inl f_p1))] := hD.sub [0] (by decide) rfl
        refine lv_bipush (v := 35) hx hb d_Mo_around_15 (by decide) ?_
        refine lv_icmp_ne (tgt := 26) hx hb d_Mo_around_17 (by decide) (fun c_4 => ?_) (fun c_4 => ?_)
        · rw [if_neg c_4] at h
          refine lv_aload_n hx hb d_Mo_around_26 rfl (lv_at hl 0 rfl) ?_
          refine lv_iload_n hx hb d_Mo_around_27 rfl (lv_at hl 2 rfl) ?_
          obtain ⟨r_6, h_5, h⟩ := ch_bind h
          try dsimp only at h
          refine ck_goi (wc := [(q_p1, .inl (cI, n_p1, .inl f_p1))]) (wr := []) (w1 := [(q_p1, .inl (cI, n_p1, .inl f_p1))]) (va_runS (As := [.ref q_p1, .int x3]) (rest := []) ⟨hx, hb, hml, hown, hts⟩ (k_Mo_kindOf l dC dI cI cJ x3 n_p1 f_p1 q_p1 r_6 h_5 _) (va_cwS 2 hts (gw_S tw_806 tw_807 tw_9 tw_808) rfl rfl rfl (by decide +kernel) ⟨Nat.le_of_ble_eq_true rfl, Nat.le_of_ble_eq_true rfl⟩) (ck_preS (wc := [(q_p1, .inl (cI, n_p1, .inl f_p1))]) hK hP hD hS hA hE [0] (by decide) rfl) rfl rfl hl.1 rfl (lv_room (Nat.le_of_ble_eq_true rfl)) d_Mo_around_28 ⟨Nat.le_of_ble_eq_true rfl, Nat.le_of_ble_eq_true rfl⟩) hP hD hS hA [0] [] rfl rfl (by decide) (by decide) (fun H locs hP hD hS => ?_)
          have hP : va_P (dC, dI) vwCl [(q_p1, .inl (cI, n_p1, .inl f_p1))] H := hP.sub [0] rfl
          have hD : va_D A [(q_p1, .inl (cI, n_p1, .inl f_p1))] := hD.sub [0] (by decide) rfl
          refine lv_bipush (v := 34) hx hb d_Mo_around_31 (by decide) ?_
          refine lv_icmp_ne (tgt := 45) hx hb d_Mo_around_33 (by decide) (fun c_7 => ?_) (fun c_7 => ?_)
          · rw [if_neg c_7] at h
            refine lv_iinc (v := (x3 + (-1))) (lv' := [(3, .int (x3 + (-1))), (0, .ref q_p1), (2, .int x2)]) hx hb d_Mo_around_45 hl (k := 2) rfl (by rfl) (by decide) rfl (fun ls hl => ?_)
            refine lv_goto (tgt := 6) hx hb d_Mo_around_48 (by decide) ?_
            exact ih_6 x2 (x3 + (-1)) h _ _ hP hD hS _ (lv_sub hl [1, 2, 0] rfl)
          · rw [if_pos c_7] at h
            refine lv_iload_n hx hb d_Mo_around_36 rfl (lv_at hl 1 rfl) ?_
            refine lv_if_ne (tgt := 42) hx hb d_Mo_around_37 (by decide) (fun c_8 => ?_) (fun c_8 => ?_)
            · rw [if_neg c_8] at h
              refine lv_iinc (v := (x2 + (-1))) (lv' := [(2, .int (x2 + (-1))), (0, .ref q_p1), (3, .int x3)]) hx hb d_Mo_around_42 hl (k := 1) rfl (by rfl) (by decide) rfl (fun ls hl => ?_)
              refine lv_iinc (v := (x3 + (-1))) (lv' := [(3, .int (x3 + (-1))), (2, .int (x2 + (-1))), (0, .ref q_p1)]) hx hb d_Mo_around_45 hl (k := 2) rfl (by rfl) (by decide) rfl (fun ls hl => ?_)
              refine lv_goto (tgt := 6) hx hb d_Mo_around_48 (by decide) ?_
              exact ih_6 (x2 + (-1)) (x3 + (-1)) h _ _ hP hD hS _ (lv_sub hl [2, 1, 0] rfl)
            · rw [if_pos c_8] at h
              refine lv_iload_n hx hb d_Mo_around_40 rfl (lv_at hl 2 rfl) ?_
              cases h
              exact ck_iret hx hb hr hlk hK hP hD hS d_Mo_around_41
        · rw [if_pos c_4] at h
          refine lv_iinc (v := (x2 + 1)) (lv' := [(2, .int (x2 + 1)), (0, .ref q_p1), (3, .int x3)]) hx hb d_Mo_around_20 hl (k := 1) rfl (by rfl) (by decide) rfl (fun ls hl => ?_)
          refine lv_goto (tgt := 45) hx hb d_Mo_around_23 (by decide) ?_
          refine lv_iinc (v := (x3 + (-1))) (lv' := [(3, .int (x3 + (-1))), (2, .int (x2 + 1)), (0, .ref q_p1)]) hx hb d_Mo_around_45 hl (k := 2) rfl (by rfl) (by decide) rfl (fun ls hl => ?_)
          refine lv_goto (tgt := 6) hx hb d_Mo_around_48 (by decide) ?_
          exact ih_6 (x2 + 1) (x3 + (-1)) h _ _ hP hD hS _ (lv_sub hl [2, 1, 0] rfl)
  unfold pf_Mo_around at h
  have hl := lv_entry ([.ref q_p1, .int p2]) (n := 4) (Nat.le_of_ble_eq_true rfl)
  rw [lg_entry_eq]
  generalize (lg_sl ([.ref q_p1, .int p2]) ++ List.replicate (4 - (lg_sl ([.ref q_p1, .int p2])).length) Slot.unset).toArray = ls at hl ⊢
  have hl : lv_has ls 4 [(0, .ref q_p1), (1, .int p2)] := hl
  refine lv_iconst (v := 0) hx hb d_Mo_around_0 (by decide) ?_
  refine lv_istore_n (lv' := [(2, .int (0 : Int32)), (0, .ref q_p1), (1, .int p2)]) hx hb d_Mo_around_1 rfl hl (by decide) rfl (fun ls hl => ?_)
  refine lv_iload_n hx hb d_Mo_around_2 rfl (lv_at hl 2 rfl) ?_
  refine lv_iconst (v := 1) hx hb d_Mo_around_3 (by decide) ?_
  refine lv_isub hx hb d_Mo_around_4 ?_
  refine lv_istore_n (lv' := [(3, .int (p2 - (1 : Int32))), (2, .int (0 : Int32)), (0, .ref q_p1), (1, .int p2)]) hx hb d_Mo_around_5 rfl hl (by decide) rfl (fun ls hl => ?_)
  exact w_6 fu (0 : Int32) (p2 - (1 : Int32)) h _ _ hP hD hS _ (lv_sub hl [2, 1, 0] rfl)
def pf_Mo_closing_7 (fu : Nat) (n_p1 : Nat) (f_p1 : Nat → Int32) : Nat → Int32 → Int32 → Int32 → Option (Int32)
  | 0, _, _, _ => none
  | n + 1, x2, x3, x4 =>
    if x2 ≤ x4 then
      some (-1 : Int32)
    else
      Option.bind (pf_Mo_kindOf x4 n_p1 f_p1) (fun r_3 => 
      if r_3 = (34 : Int32) then
        pf_Mo_closing_7 fu n_p1 f_p1 n x2 (x3 + 1) (x4 + 1)
      else
        Option.bind (pf_Mo_kindOf x4 n_p1 f_p1) (fun r_6 => 
        if r_6 = (35 : Int32) then
          if x3 = 0 then
            some x4
          else
            pf_Mo_closing_7 fu n_p1 f_p1 n x2 (x3 + (-1)) (x4 + 1)
        else
          pf_Mo_closing_7 fu n_p1 f_p1 n x2 x3 (x4 + 1)))
def pf_Mo_closing (fu : Nat) (p2 : Int32) (p3 : Int32) (n_p1 : Nat) (f_p1 : Nat → Int32) : Option (Int32) :=
  pf_Mo_closing_7 fu n_p1 f_p1 fu p3 (0 : Int32) (p2 + (1 : Int32))
set_option maxHeartbeats 4000000 in
set_option maxRecDepth 100000 in
theorem k_Mo_closing (l : Launch) (dC : Nat → ClassId) (dI : Nat → Nat → Nat) (cI cJ : ClassId) (fu : Nat) (p2 : Int32) (p3 : Int32) (n_p1 : Nat) (f_p1 : Nat → Int32) (q_p1 : Nat) (r : Int32) (h : pf_Mo_closing fu p2 p3 n_p1 f_p1 = some r) : ck_i l y_Mo_closing wm_Mo_closing ({ frames := 1, cells := 0, slots := 0, locals := 21 } : Room) [.ref q_p1, .int p2, .int p3] (dC, dI) [(cI, .int), (cJ, .long)] [(q_p1, .inl (cI, n_p1, .inl f_p1))] r [(q_p1, .inl (cI, n_p1, .inl f_p1))] := by
  refine ck_ofi (cc := c_Mo_closing) (maxL := 5) (ret := (some .int)) (by decide +kernel) rfl ?_
  intro p e s m below meth c A C0 hK hP hD hS hE
  obtain ⟨hx, hb, hr, hml, hown, hts, hlk, hA, hin⟩ := C0
  have w_7 : ∀ (n_7 : Nat) (x2 : Int32) (x3 : Int32) (x4 : Int32), pf_Mo_closing_7 fu n_p1 f_p1 n_7 x2 x3 x4 = some r → ∀ (H : Heap) (locs : List Loc), va_P (dC, dI) vwCl [(q_p1, .inl (cI, n_p1, .inl f_p1))] H → va_D A [(q_p1, .inl (cI, n_p1, .inl f_p1))] → va_S A s.heap H locs → ∀ ls : Array Slot, lv_has ls 5 [(0, .ref q_p1), (2, .int x2), (3, .int x3), (4, .int x4)] → W p l e ({ frames := 1, cells := 0, slots := 0, locals := 21 } : Room) s m ([.ref q_p1, .int p2, .int p3] : List Value).toArray below meth c H locs 0 0 (ck_Qi below (dC, dI) [(cI, .int), (cJ, .long)] A ([.ref q_p1, .int p2, .int p3] : List Value).toArray s r [(q_p1, .inl (cI, n_p1, .inl f_p1))]) (F0 m 7 ls []) := by
    intro n_7
    induction n_7 with
    | zero =>
      intro x2 x3 x4 h
      cases h
    | succ n_7 ih_7 =>
      intro x2 x3 x4 h H locs hP hD hS ls hl
      rw [pf_Mo_closing_7] at h
      refine lv_iload hx hb d_Mo_closing_7 (lv_at hl 3 rfl) ?_
      refine lv_iload_n hx hb d_Mo_closing_9 rfl (lv_at hl 1 rfl) ?_
      refine lv_icmp_ge (tgt := 57) hx hb d_Mo_closing_10 (by decide) (fun c_1 => ?_) (fun c_1 => ?_)
      · rw [if_pos c_1] at h
        refine lv_iconst (v := -1) hx hb d_Mo_closing_57 (by decide) ?_
        cases h
        exact ck_iret hx hb hr hlk hK hP hD hS d_Mo_closing_58
      · rw [if_neg c_1] at h
        refine lv_aload_n hx hb d_Mo_closing_13 rfl (lv_at hl 0 rfl) ?_
        refine lv_iload hx hb d_Mo_closing_14 (lv_at hl 3 rfl) ?_
        obtain ⟨r_3, h_2, h⟩ := ch_bind h
        try dsimp only at h
        refine ck_goi (wc := [(q_p1, .inl (cI, n_p1, .inl f_p1))]) (wr := []) (w1 := [(q_p1, .inl (cI, n_p1, .inl f_p1))]) (va_runS (As := [.ref q_p1, .int x4]) (rest := []) ⟨hx, hb, hml, hown, hts⟩ (k_Mo_kindOf l dC dI cI cJ x4 n_p1 f_p1 q_p1 r_3 h_2 _) (va_cwS 2 hts (gw_S tw_806 tw_807 tw_9 tw_808) rfl rfl rfl (by decide +kernel) ⟨Nat.le_of_ble_eq_true rfl, Nat.le_of_ble_eq_true rfl⟩) (ck_preS (wc := [(q_p1, .inl (cI, n_p1, .inl f_p1))]) hK hP hD hS hA hE [0] (by decide) rfl) rfl rfl hl.1 rfl (lv_room (Nat.le_of_ble_eq_true rfl)) d_Mo_closing_16 ⟨Nat.le_of_ble_eq_true rfl, Nat.le_of_ble_eq_true rfl⟩) hP hD hS hA [0] [] rfl rfl (by decide) (by decide) (fun H locs hP hD hS => ?_)
        have hP : va_P (dC, dI) vwCl [(q_p1, .inl (cI, n_p1, .inl f_p1))] H := hP.sub [0] rfl
        have hD : va_D A [(q_p1, .inl (cI, n_p1, .inl f_p1))] := hD.sub [0] (by decide) rfl
        refine lv_bipush (v := 34) hx hb d_Mo_closing_19 (by decide) ?_
        refine lv_icmp_ne (tgt := 30) hx hb d_Mo_closing_21 (by decide) (fun c_4 => ?_) (fun c_4 => ?_)
        · rw [if_neg c_4] at h
          refine lv_aload_n hx hb d_Mo_closing_30 rfl (lv_at hl 0 rfl) ?_
          refine lv_iload hx hb d_Mo_closing_31 (lv_at hl 3 rfl) ?_
          obtain ⟨r_6, h_5, h⟩ := ch_bind h
          try dsimp only at h
          refine ck_goi (wc := [(q_p1, .inl (cI, n_p1, .inl f_p1))]) (wr := []) (w1 := [(q_p1, .inl (cI, n_p1, .inl f_p1))]) (va_runS (As := [.ref q_p1, .int x4]) (rest := []) ⟨hx, hb, hml, hown, hts⟩ (k_Mo_kindOf l dC dI cI cJ x4 n_p1 f_p1 q_p1 r_6 h_5 _) (va_cwS 2 hts (gw_S tw_806 tw_807 tw_9 tw_808) rfl rfl rfl (by decide +kernel) ⟨Nat.le_of_ble_eq_true rfl, Nat.le_of_ble_eq_true rfl⟩) (ck_preS (wc := [(q_p1, .inl (cI, n_p1, .inl f_p1))]) hK hP hD hS hA hE [0] (by decide) rfl) rfl rfl hl.1 rfl (lv_room (Nat.le_of_ble_eq_true rfl)) d_Mo_closing_33 ⟨Nat.le_of_ble_eq_true rfl, Nat.le_of_ble_eq_true rfl⟩) hP hD hS hA [0] [] rfl rfl (by decide) (by decide) (fun H locs hP hD hS => ?_)
          have hP : va_P (dC, dI) vwCl [(q_p1, .inl (cI, n_p1, .inl f_p1))] H := hP.sub [0] rfl
          have hD : va_D A [(q_p1, .inl (cI, n_p1, .inl f_p1))] := hD.sub [0] (by decide) rfl
          refine lv_bipush (v := 35) hx hb d_Mo_closing_36 (by decide) ?_
          refine lv_icmp_ne (tgt := 51) hx hb d_Mo_closing_38 (by decide) (fun c_7 => ?_) (fun c_7 => ?_)
          · rw [if_neg c_7] at h
            refine lv_iinc (v := (x4 + 1)) (lv' := [(4, .int (x4 + 1)), (0, .ref q_p1), (2, .int x2), (3, .int x3)]) hx hb d_Mo_closing_51 hl (k := 3) rfl (by rfl) (by decide) rfl (fun ls hl => ?_)
            refine lv_goto (tgt := 7) hx hb d_Mo_closing_54 (by decide) ?_
            exact ih_7 x2 x3 (x4 + 1) h _ _ hP hD hS _ (lv_sub hl [1, 2, 3, 0] rfl)
          · rw [if_pos c_7] at h
            refine lv_iload_n hx hb d_Mo_closing_41 rfl (lv_at hl 2 rfl) ?_
            refine lv_if_ne (tgt := 48) hx hb d_Mo_closing_42 (by decide) (fun c_8 => ?_) (fun c_8 => ?_)
            · rw [if_neg c_8] at h
              refine lv_iinc (v := (x3 + (-1))) (lv' := [(3, .int (x3 + (-1))), (0, .ref q_p1), (2, .int x2), (4, .int x4)]) hx hb d_Mo_closing_48 hl (k := 2) rfl (by rfl) (by decide) rfl (fun ls hl => ?_)
              refine lv_iinc (v := (x4 + 1)) (lv' := [(4, .int (x4 + 1)), (3, .int (x3 + (-1))), (0, .ref q_p1), (2, .int x2)]) hx hb d_Mo_closing_51 hl (k := 3) rfl (by rfl) (by decide) rfl (fun ls hl => ?_)
              refine lv_goto (tgt := 7) hx hb d_Mo_closing_54 (by decide) ?_
              exact ih_7 x2 (x3 + (-1)) (x4 + 1) h _ _ hP hD hS _ (lv_sub hl [2, 3, 1, 0] rfl)
            · rw [if_pos c_8] at h
              refine lv_iload hx hb d_Mo_closing_45 (lv_at hl 3 rfl) ?_
              cases h
              exact ck_iret hx hb hr hlk hK hP hD hS d_Mo_closing_47
        · rw [if_pos c_4] at h
          refine lv_iinc (v := (x3 + 1)) (lv' := [(3, .int (x3 + 1)), (0, .ref q_p1), (2, .int x2), (4, .int x4)]) hx hb d_Mo_closing_24 hl (k := 2) rfl (by rfl) (by decide) rfl (fun ls hl => ?_)
          refine lv_goto (tgt := 51) hx hb d_Mo_closing_27 (by decide) ?_
          refine lv_iinc (v := (x4 + 1)) (lv' := [(4, .int (x4 + 1)), (3, .int (x3 + 1)), (0, .ref q_p1), (2, .int x2)]) hx hb d_Mo_closing_51 hl (k := 3) rfl (by rfl) (by decide) rfl (fun ls hl => ?_)
          refine lv_goto (tgt := 7) hx hb d_Mo_closing_54 (by decide) ?_
          exact ih_7 x2 (x3 + 1) (x4 + 1) h _ _ hP hD hS _ (lv_sub hl [2, 3, 1, 0] rfl)
  unfold pf_Mo_closing at h
  have hl := lv_entry ([.ref q_p1, .int p2, .int p3]) (n := 5) (Nat.le_of_ble_eq_true rfl)
  rw [lg_entry_eq]
  generalize (lg_sl ([.ref q_p1, .int p2, .int p3]) ++ List.replicate (5 - (lg_sl ([.ref q_p1, .int p2, .int p3])).length) Slot.unset).toArray = ls at hl ⊢
  have hl : lv_has ls 5 [(0, .ref q_p1), (1, .int p2), (2, .int p3)] := hl
  refine lv_iconst (v := 0) hx hb d_Mo_closing_0 (by decide) ?_
  refine lv_istore_n (lv' := [(3, .int (0 : Int32)), (0, .ref q_p1), (1, .int p2), (2, .int p3)]) hx hb d_Mo_closing_1 rfl hl (by decide) rfl (fun ls hl => ?_)
  refine lv_iload_n hx hb d_Mo_closing_2 rfl (lv_at hl 2 rfl) ?_
  refine lv_iconst (v := 1) hx hb d_Mo_closing_3 (by decide) ?_
  refine lv_iadd hx hb d_Mo_closing_4 ?_
  refine lv_istore (lv' := [(4, .int (p2 + (1 : Int32))), (3, .int (0 : Int32)), (0, .ref q_p1), (1, .int p2), (2, .int p3)]) hx hb d_Mo_closing_5 hl (by decide) rfl (fun ls hl => ?_)
  exact w_7 fu p3 (0 : Int32) (p2 + (1 : Int32)) h _ _ hP hD hS _ (lv_sub hl [2, 4, 1, 0] rfl)
