/-! PURE PART 21: the small calls, both sides -/
theorem rng {p : Int32} (K : Nat) (hK : K < 2 ^ 31) (h0 : ¬ p < 0) (h : ¬ nI K ≤ p) : ∃ j, j < K ∧ p = nI j := by
  obtain ⟨j, h1, h2, -⟩ := pk_mu h0 h hK
  exact ⟨j, h1, h2⟩
theorem nextI {p K K1 : Int32} (h : K1.toInt = K.toInt + 1) : K1 ≤ p ↔ K < p := by
  rw [Int32.le_iff_toInt_le, Int32.lt_iff_toInt_lt]
  omega
theorem bnd_eq {α β : Type} {x : Option α} {a : α} (h : x = some a) (f : α → Option β) : Option.bind x f = f a := by rw [h]; rfl
theorem mo_th (x : Int32) : pf_Mo_thrown x = some x := rfl
theorem pk_both (a v : Int32) (M : Nat → Int32) : ∃ r M', pf_La_poke a v 1024 M = some (r, M') ∧ pf_Mo_poke a v 1024 M = some (r, M') := by
  by_cases c1 : a < 0
  · have h : pf_St_hasWord a = some 0 := by
      unfold pf_St_hasWord
      rw [if_pos c1]
    refine ⟨1, M, ?_, ?_⟩
    · unfold pf_La_poke pf_SM_poke
      rw [h]
      rfl
    · unfold pf_Mo_poke
      rw [if_pos c1]
      rfl
  by_cases c2 : 1024 ≤ a
  · have h : pf_St_hasWord a = some 0 := by
      unfold pf_St_hasWord
      rw [if_neg c1, if_pos c2]
    refine ⟨1, M, ?_, ?_⟩
    · unfold pf_La_poke pf_SM_poke
      rw [h]
      rfl
    · unfold pf_Mo_poke
      rw [if_neg c1, if_neg (i32_nlt.mpr c2)]
      rfl
  · have h : pf_St_hasWord a = some 1 := by
      unfold pf_St_hasWord
      rw [if_neg c1, if_neg c2]
    obtain ⟨k, hk, rfl⟩ := rng 1024 (by decide) c1 c2
    have h2 : pf_St_setWord (nI k) v 1024 M = some (upd M k v) := by
      unfold pf_St_setWord
      rw [h, Option.bind_some, if_neg (by decide), if_pos (inN hk (by decide)), nI_clamp (by omega)]
    refine ⟨0, upd M k v, ?_, ?_⟩
    · unfold pf_La_poke pf_SM_poke
      rw [h, Option.bind_some, if_neg (by decide), h2]
      rfl
    · unfold pf_Mo_poke
      rw [if_neg c1, if_pos (i32_nle.mp c2), mo_ref0, Option.bind_some]
      show (if (0 : Int32) ≤ nI k ∧ (nI k).toNatClampNeg < 1024 then some ((0 : Int32), upd M (nI k).toNatClampNeg v) else none) = _
      rw [if_pos (inN hk (by decide)), nI_clamp (by omega)]
theorem ft_both (p f pl : Int32) : ∃ r, pf_SM_fault p f pl = some r ∧ pf_Mo_fault p f pl = some (r, 0) := by
  unfold pf_SM_fault pf_Mo_fault
  by_cases c0 : p = 0
  · exact ⟨f, by rw [if_pos c0]; rfl, by rw [if_pos c0]⟩
  by_cases c1 : p = 1
  · exact ⟨pl, by rw [if_neg c0, if_pos c1]; rfl, by rw [if_neg c0, if_pos c1]⟩
  · exact ⟨-1, by rw [if_neg c0, if_neg c1], by rw [if_neg c0, if_neg c1]⟩
theorem kl_both {k : Int32} (h : k = 0 ∨ k = 1) : pf_SM_killed k = some k ∧ pf_Mo_killed k = some (k, 0) := by
  rcases h with rfl | rfl
  · exact ⟨rfl, rfl⟩
  · exact ⟨rfl, rfl⟩
theorem ve_set {k many np : Nat} (hk : k < many) (hm : 4 * many ≤ np) (hnp : np < 2 ^ 31) (a b c d : Int32) (F : Nat → Int32) : pf_Ve_set (nI k) a b c d (nI many) np F = some (upd (upd (upd (upd F (4 * k) a) (4 * k + 1) b) (4 * k + 2) c) (4 * k + 3) d) := by
  have e0 : ∀ (F : Nat → Int32) (v : Int32), pf_Ve_setPart (nI k) 0 v (nI many) np F = some (upd F (4 * k) v) := fun F v => ve_setPart (j := 0) hk (by decide) hm hnp v F
  have e1 : ∀ (F : Nat → Int32) (v : Int32), pf_Ve_setPart (nI k) 1 v (nI many) np F = some (upd F (4 * k + 1) v) := fun F v => ve_setPart (j := 1) hk (by decide) hm hnp v F
  have e2 : ∀ (F : Nat → Int32) (v : Int32), pf_Ve_setPart (nI k) 2 v (nI many) np F = some (upd F (4 * k + 2) v) := fun F v => ve_setPart (j := 2) hk (by decide) hm hnp v F
  have e3 : ∀ (F : Nat → Int32) (v : Int32), pf_Ve_setPart (nI k) 3 v (nI many) np F = some (upd F (4 * k + 3) v) := fun F v => ve_setPart (j := 3) hk (by decide) hm hnp v F
  unfold pf_Ve_set
  rw [e0, Option.bind_some, e1, Option.bind_some, e2, Option.bind_some, e3, Option.bind_some]
theorem mo_set {k np : Nat} (hk : 4 * k + 3 < np) (hnp : np < 2 ^ 31) (a b c d : Int32) (F : Nat → Int32) : pf_Mo_set (nI k) a b c d np F = some (upd (upd (upd (upd F (4 * k) a) (4 * k + 1) b) (4 * k + 2) c) (4 * k + 3) d) := by
  have a1 : nI (4 * k) + (1 : Int32) = nI (4 * k + 1) := nI_add _ 1
  have a2 : nI (4 * k) + (2 : Int32) = nI (4 * k + 2) := nI_add _ 2
  have a3 : nI (4 * k) + (3 : Int32) = nI (4 * k + 3) := nI_add _ 3
  unfold pf_Mo_set
  rw [n4, a1, a2, a3, if_pos (inN (by omega) hnp), if_pos (inN (by omega) hnp), if_pos (inN (by omega) hnp), if_pos (inN (by omega) hnp), nI_clamp (by omega), nI_clamp (by omega), nI_clamp (by omega), nI_clamp (by omega)]
theorem mh_lo {p K : Int32} (c : p < 0) : pf_SM_mustHave p K = some 1 := by
  unfold pf_SM_mustHave pf_Ve_has
  rw [if_pos c]
  rfl
theorem mh_hi {p K : Int32} (c0 : ¬ p < 0) (c : K ≤ p) : pf_SM_mustHave p K = some 1 := by
  unfold pf_SM_mustHave pf_Ve_has
  rw [if_neg c0, if_pos c]
  rfl
theorem mh_in {p K : Int32} (c0 : ¬ p < 0) (c : ¬ K ≤ p) : pf_SM_mustHave p K = some 0 := by
  unfold pf_SM_mustHave pf_Ve_has
  rw [if_neg c0, if_neg c]
  rfl
theorem in_both (p a b c d : Int32) (F : Nat → Int32) : ∃ r F', pf_La_in p a b c d 8 32 F = some (r, F') ∧ pf_Mo_in p a b c d 32 F = some (r, F') := by
  by_cases c1 : p < 0
  · refine ⟨1, F, ?_, ?_⟩
    · unfold pf_La_in pf_SM_in
      rw [mh_lo c1]
      rfl
    · unfold pf_Mo_in
      rw [if_pos c1]
      rfl
  by_cases c2 : 8 ≤ p
  · refine ⟨1, F, ?_, ?_⟩
    · unfold pf_La_in pf_SM_in
      rw [mh_hi c1 c2]
      rfl
    · unfold pf_Mo_in
      rw [if_neg c1, if_neg (i32_nle.mpr ((nextI (K := 7) (K1 := 8) (by decide)).mp c2))]
      rfl
  · have h := mh_in c1 c2
    obtain ⟨k, hk, rfl⟩ := rng 8 (by decide) c1 c2
    have e : pf_Ve_set (nI k) a b c d 8 32 F = _ := ve_set (many := 8) (np := 32) hk (by decide) (by decide) a b c d F
    refine ⟨0, upd (upd (upd (upd F (4 * k) a) (4 * k + 1) b) (4 * k + 2) c) (4 * k + 3) d, ?_, ?_⟩
    · unfold pf_La_in pf_SM_in
      rw [h, Option.bind_some, if_pos rfl, e]
      rfl
    · unfold pf_Mo_in
      rw [if_neg c1, if_pos (show nI k ≤ 7 from nI_le (b := 7) (by omega) (by decide)), mo_ref0, Option.bind_some]
      show Option.bind (pf_Mo_set (nI k) a b c d 32 F) (fun w => some ((0 : Int32), w)) = _
      rw [mo_set (by omega) (by decide)]
      rfl
theorem un_both (p a b c d : Int32) (F : Nat → Int32) : ∃ r F', pf_La_uniform p a b c d 32 128 F = some (r, F') ∧ pf_Mo_uniform p a b c d 128 F = some (r, F') := by
  by_cases c1 : p < 0
  · refine ⟨1, F, ?_, ?_⟩
    · unfold pf_La_uniform pf_SM_uniform
      rw [mh_lo c1]
      rfl
    · unfold pf_Mo_uniform
      rw [if_pos c1]
      rfl
  by_cases c2 : 32 ≤ p
  · refine ⟨1, F, ?_, ?_⟩
    · unfold pf_La_uniform pf_SM_uniform
      rw [mh_hi c1 c2]
      rfl
    · unfold pf_Mo_uniform
      rw [if_neg c1, if_neg (i32_nle.mpr ((nextI (K := 31) (K1 := 32) (by decide)).mp c2))]
      rfl
  · have h := mh_in c1 c2
    obtain ⟨k, hk, rfl⟩ := rng 32 (by decide) c1 c2
    have e : pf_Ve_set (nI k) a b c d 32 128 F = _ := ve_set (many := 32) (np := 128) hk (by decide) (by decide) a b c d F
    refine ⟨0, upd (upd (upd (upd F (4 * k) a) (4 * k + 1) b) (4 * k + 2) c) (4 * k + 3) d, ?_, ?_⟩
    · unfold pf_La_uniform pf_SM_uniform
      rw [h, Option.bind_some, if_pos rfl, e]
      rfl
    · unfold pf_Mo_uniform
      rw [if_neg c1, if_pos (show nI k ≤ 31 from nI_le (b := 31) (by omega) (by decide)), mo_ref0, Option.bind_some]
      show Option.bind (pf_Mo_set (nI k) a b c d 128 F) (fun w => some ((0 : Int32), w)) = _
      rw [mo_set (by omega) (by decide)]
      rfl
theorem tx_both (p a b c d : Int32) (F : Nat → Int32) : ∃ r F', pf_La_texture p a b c d 4 16 F = some (r, F') ∧ pf_Mo_texture p a b c d 16 F = some (r, F') := by
  by_cases c1 : p < 0
  · refine ⟨1, F, ?_, ?_⟩
    · unfold pf_La_texture pf_SM_texture
      rw [mh_lo c1]
      rfl
    · unfold pf_Mo_texture
      rw [if_pos c1]
      rfl
  by_cases c2 : 4 ≤ p
  · refine ⟨1, F, ?_, ?_⟩
    · unfold pf_La_texture pf_SM_texture
      rw [mh_hi c1 c2]
      rfl
    · unfold pf_Mo_texture
      rw [if_neg c1, if_neg (i32_nle.mpr ((nextI (K := 3) (K1 := 4) (by decide)).mp c2))]
      rfl
  · have h := mh_in c1 c2
    obtain ⟨k, hk, rfl⟩ := rng 4 (by decide) c1 c2
    have e : pf_Ve_set (nI k) a b c d 4 16 F = _ := ve_set (many := 4) (np := 16) hk (by decide) (by decide) a b c d F
    refine ⟨0, upd (upd (upd (upd F (4 * k) a) (4 * k + 1) b) (4 * k + 2) c) (4 * k + 3) d, ?_, ?_⟩
    · unfold pf_La_texture pf_SM_texture
      rw [h, Option.bind_some, if_pos rfl, e]
      rfl
    · unfold pf_Mo_texture
      rw [if_neg c1, if_pos (show nI k ≤ 3 from nI_le (b := 3) (by omega) (by decide)), mo_ref0, Option.bind_some]
      show Option.bind (pf_Mo_set (nI k) a b c d 16 F) (fun w => some ((0 : Int32), w)) = _
      rw [mo_set (by omega) (by decide)]
      rfl
theorem ve_part_in {k j many np : Nat} (hk : k < many) (hj : j < 4) (hm : 4 * many ≤ np) (hnp : np < 2 ^ 31) (F : Nat → Int32) : pf_Ve_part (nI k) (nI j) (nI many) np F = some (F (4 * k + j)) := by
  unfold pf_Ve_part
  rw [ve_hasPart hk hj (by omega), Option.bind_some, if_neg (by decide), n4, nI_add, if_pos (inN (by omega) hnp), nI_clamp (by omega)]
theorem mhp_in {k j many : Nat} (hk : k < many) (hj : j < 4) (hm : many < 2 ^ 31) : pf_SM_mustHavePart (nI k) (nI j) (nI many) = some 0 := by
  unfold pf_SM_mustHavePart
  rw [ve_hasPart hk hj hm]
  rfl
theorem ou_both (p q : Int32) (F : Nat → Int32) (f : Nat → Int64) : ∃ r v f', pf_La_out p q 8 32 F 1 f = some (r, f') ∧ pf_Mo_out p q 32 F = some (v, r) ∧ (r = 0 → f' = vp_updL f 0 (Int32.toInt64 v)) := by
  by_cases c1 : p < 0
  · refine ⟨1, 0, f, ?_, ?_, fun q => absurd q (by decide)⟩
    · unfold pf_La_out pf_SM_out pf_SM_mustHavePart pf_Ve_hasPart
      rw [if_pos c1]
      rfl
    · unfold pf_Mo_out
      rw [if_pos c1]
      rfl
  by_cases c2 : 8 ≤ p
  · refine ⟨1, 0, f, ?_, ?_, fun q => absurd q (by decide)⟩
    · unfold pf_La_out pf_SM_out pf_SM_mustHavePart pf_Ve_hasPart
      rw [if_neg c1, if_pos c2]
      rfl
    · unfold pf_Mo_out
      rw [if_neg c1, if_pos ((nextI (K := 7) (K1 := 8) (by decide)).mp c2)]
      rfl
  by_cases c3 : q < 0
  · refine ⟨1, 0, f, ?_, ?_, fun q => absurd q (by decide)⟩
    · unfold pf_La_out pf_SM_out pf_SM_mustHavePart pf_Ve_hasPart
      rw [if_neg c1, if_neg c2, if_pos c3]
      rfl
    · unfold pf_Mo_out
      rw [if_neg c1, if_neg (fun q => c2 ((nextI (K := 7) (K1 := 8) (by decide)).mpr q)), if_pos c3]
      rfl
  by_cases c4 : 4 ≤ q
  · refine ⟨1, 0, f, ?_, ?_, fun q => absurd q (by decide)⟩
    · unfold pf_La_out pf_SM_out pf_SM_mustHavePart pf_Ve_hasPart
      rw [if_neg c1, if_neg c2, if_neg c3, if_pos c4]
      rfl
    · unfold pf_Mo_out
      rw [if_neg c1, if_neg (fun q => c2 ((nextI (K := 7) (K1 := 8) (by decide)).mpr q)), if_neg c3, if_neg (i32_nle.mpr ((nextI (K := 3) (K1 := 4) (by decide)).mp c4))]
      rfl
  · have nh : ¬ 7 < p := (fun q => c2 ((nextI (K := 7) (K1 := 8) (by decide)).mpr q))
    obtain ⟨k, hk, rfl⟩ := rng 8 (by decide) c1 c2
    obtain ⟨j, hj, rfl⟩ := rng 4 (by decide) c3 c4
    have e1 : pf_SM_mustHavePart (nI k) (nI j) 8 = some 0 := mhp_in (many := 8) hk hj (by decide)
    have e2 : pf_Ve_part (nI k) (nI j) 8 32 F = some (F (4 * k + j)) := ve_part_in (many := 8) (np := 32) hk hj (by decide) (by decide) F
    refine ⟨0, F (4 * k + j), vp_updL f 0 (Int32.toInt64 (F (4 * k + j))), ?_, ?_, fun _ => rfl⟩
    · unfold pf_La_out pf_SM_out
      rw [e1, Option.bind_some, if_pos rfl, e2]
      rfl
    · unfold pf_Mo_out
      rw [if_neg c1, if_neg nh, if_neg c3, if_pos (show nI j ≤ 3 from nI_le (b := 3) (by omega) (by decide)), mo_ref0, Option.bind_some]
      show (if (0 : Int32) ≤ (4 : Int32) * nI k + nI j ∧ ((4 : Int32) * nI k + nI j).toNatClampNeg < 32 then some (F ((4 : Int32) * nI k + nI j).toNatClampNeg, (0 : Int32)) else none) = _
      rw [n4, nI_add, if_pos (inN (by omega) (by decide)), nI_clamp (by omega)]
theorem te_both (p q : Int32) (F : Nat → Int32) (f : Nat → Int64) : ∃ r v f', pf_La_temporary p q 16 64 F 1 f = some (r, f') ∧ pf_Mo_temporary p q 64 F = some (v, r) ∧ (r = 0 → f' = vp_updL f 0 (Int32.toInt64 v)) := by
  by_cases c1 : p < 0
  · refine ⟨1, 0, f, ?_, ?_, fun q => absurd q (by decide)⟩
    · unfold pf_La_temporary pf_SM_temporary pf_SM_mustHavePart pf_Ve_hasPart
      rw [if_pos c1]
      rfl
    · unfold pf_Mo_temporary
      rw [if_pos c1]
      rfl
  by_cases c2 : 16 ≤ p
  · refine ⟨1, 0, f, ?_, ?_, fun q => absurd q (by decide)⟩
    · unfold pf_La_temporary pf_SM_temporary pf_SM_mustHavePart pf_Ve_hasPart
      rw [if_neg c1, if_pos c2]
      rfl
    · unfold pf_Mo_temporary
      rw [if_neg c1, if_pos ((nextI (K := 15) (K1 := 16) (by decide)).mp c2)]
      rfl
  by_cases c3 : q < 0
  · refine ⟨1, 0, f, ?_, ?_, fun q => absurd q (by decide)⟩
    · unfold pf_La_temporary pf_SM_temporary pf_SM_mustHavePart pf_Ve_hasPart
      rw [if_neg c1, if_neg c2, if_pos c3]
      rfl
    · unfold pf_Mo_temporary
      rw [if_neg c1, if_neg (fun q => c2 ((nextI (K := 15) (K1 := 16) (by decide)).mpr q)), if_pos c3]
      rfl
  by_cases c4 : 4 ≤ q
  · refine ⟨1, 0, f, ?_, ?_, fun q => absurd q (by decide)⟩
    · unfold pf_La_temporary pf_SM_temporary pf_SM_mustHavePart pf_Ve_hasPart
      rw [if_neg c1, if_neg c2, if_neg c3, if_pos c4]
      rfl
    · unfold pf_Mo_temporary
      rw [if_neg c1, if_neg (fun q => c2 ((nextI (K := 15) (K1 := 16) (by decide)).mpr q)), if_neg c3, if_neg (i32_nle.mpr ((nextI (K := 3) (K1 := 4) (by decide)).mp c4))]
      rfl
  · have nh : ¬ 15 < p := (fun q => c2 ((nextI (K := 15) (K1 := 16) (by decide)).mpr q))
    obtain ⟨k, hk, rfl⟩ := rng 16 (by decide) c1 c2
    obtain ⟨j, hj, rfl⟩ := rng 4 (by decide) c3 c4
    have e1 : pf_SM_mustHavePart (nI k) (nI j) 16 = some 0 := mhp_in (many := 16) hk hj (by decide)
    have e2 : pf_Ve_part (nI k) (nI j) 16 64 F = some (F (4 * k + j)) := ve_part_in (many := 16) (np := 64) hk hj (by decide) (by decide) F
    refine ⟨0, F (4 * k + j), vp_updL f 0 (Int32.toInt64 (F (4 * k + j))), ?_, ?_, fun _ => rfl⟩
    · unfold pf_La_temporary pf_SM_temporary
      rw [e1, Option.bind_some, if_pos rfl, e2]
      rfl
    · unfold pf_Mo_temporary
      rw [if_neg c1, if_neg nh, if_neg c3, if_pos (show nI j ≤ 3 from nI_le (b := 3) (by omega) (by decide)), mo_ref0, Option.bind_some]
      show (if (0 : Int32) ≤ (4 : Int32) * nI k + nI j ∧ ((4 : Int32) * nI k + nI j).toNatClampNeg < 64 then some (F ((4 : Int32) * nI k + nI j).toNatClampNeg, (0 : Int32)) else none) = _
      rw [n4, nI_add, if_pos (inN (by omega) (by decide)), nI_clamp (by omega)]
