/-! PURE PART 15: compute, both sides -/
theorem cps_step (fu : Nat) (k : Int32) (a b c w v : Nat → Int32) {j n : Nat} (hj : j < 4) (h : pf_Ru_ofParts k (a j) (b j) (c j) = some (v j)) : pf_Ru_computeParts_2 fu 4 a 4 b 4 c 4 (n + 1) k (nI j) w = pf_Ru_computeParts_2 fu 4 a 4 b 4 c 4 n k (nI (j + 1)) (upd w j (v j)) := by
  rw [pf_Ru_computeParts_2, ite_Kle (a := j) (K := 4) 4 rfl (by omega) (by decide), if_neg (by omega), if_pos (inN (by omega) (by decide)), if_pos (inN (by omega) (by decide)), if_pos (inN (by omega) (by decide)), nI_clamp (by omega), h]
  simp only [Option.bind_some]
  rw [if_pos ⟨nI_pos' (by omega), by omega⟩, p1n]
theorem cps (fu : Nat) (hf : 4 < fu) (k : Int32) (a b c w v : Nat → Int32) (h : ∀ j, j < 4 → pf_Ru_ofParts k (a j) (b j) (c j) = some (v j)) : pf_Ru_computeParts fu k 4 a 4 b 4 c 4 w = some (up4 w v) := by
  obtain ⟨z, rfl⟩ : ∃ z, fu = z + 5 := ⟨fu - 5, by omega⟩
  have h0 := cps_step (z + 5) k a b c w v (n := z + 4) (show 0 < 4 by decide) (h 0 (by decide))
  have h1 := fun w => cps_step (z + 5) k a b c w v (n := z + 3) (show 1 < 4 by decide) (h 1 (by decide))
  have h2 := fun w => cps_step (z + 5) k a b c w v (n := z + 2) (show 2 < 4 by decide) (h 2 (by decide))
  have h3 := fun w => cps_step (z + 5) k a b c w v (n := z + 1) (show 3 < 4 by decide) (h 3 (by decide))
  refine h0.trans ((h1 _).trans ((h2 _).trans ((h3 _).trans ?_)))
  rw [pf_Ru_computeParts_2, if_pos (by decide)]
  rfl
theorem spr (fu : Nat) (hf : 4 < fu) (v : Int32) (w : Nat → Int32) : pf_Ru_spread fu v 4 w = some (up4 w fun _ => v) := by
  obtain ⟨z, rfl⟩ : ∃ z, fu = z + 5 := ⟨fu - 5, by omega⟩
  rfl
theorem word_eq (M : Nat → Int32) (x : Int32) : ∃ v, pf_St_word x 1024 M = some v ∧ pf_Mo_word x 1024 M = some v := by
  unfold pf_St_word pf_Mo_word pf_St_hasWord
  by_cases c1 : x < 0
  · rw [if_pos c1, if_pos c1]; exact ⟨0, rfl, rfl⟩
  · rw [if_neg c1, if_neg c1]
    by_cases c2 : (1024 : Int32) ≤ x
    · rw [if_pos c2, if_pos c2]; exact ⟨0, rfl, rfl⟩
    · rw [if_neg c2, if_neg c2]
      simp only [Option.bind_some]
      rw [if_neg (by decide)]
      obtain ⟨j, hj, rfl⟩ := nI_of c1
      have h1 : j < 1024 := Nat.lt_of_not_le fun q => c2 (nI_le (a := 1024) q hj)
      rw [if_pos (inN h1 (by decide))]
      exact ⟨_, rfl, rfl⟩
theorem tw_step (fu : Nat) (M : Nat → Int32) (x : Int32) (w v : Nat → Int32) {j n : Nat} (hj : j < 4) (h : pf_St_word (x + nI j) 1024 M = some (v j)) : pf_Ru_takeWords_2 fu 1024 M 4 (n + 1) x (nI j) w = pf_Ru_takeWords_2 fu 1024 M 4 n x (nI (j + 1)) (upd w j (v j)) := by
  rw [pf_Ru_takeWords_2, ite_Kle (a := j) (K := 4) 4 rfl (by omega) (by decide), if_neg (by omega), h]
  simp only [Option.bind_some]
  rw [if_pos (inN (by omega) (by decide)), nI_clamp (by omega), p1n]
theorem tw (fu : Nat) (hf : 4 < fu) (M : Nat → Int32) (x : Int32) (w v : Nat → Int32) (h : ∀ j, j < 4 → pf_St_word (x + nI j) 1024 M = some (v j)) : pf_Ru_takeWords fu x 1024 M 4 w = some (up4 w v) := by
  obtain ⟨z, rfl⟩ : ∃ z, fu = z + 5 := ⟨fu - 5, by omega⟩
  have h0 := tw_step (z + 5) M x w v (n := z + 4) (show 0 < 4 by decide) (h 0 (by decide))
  have h1 := fun w => tw_step (z + 5) M x w v (n := z + 3) (show 1 < 4 by decide) (h 1 (by decide))
  have h2 := fun w => tw_step (z + 5) M x w v (n := z + 2) (show 2 < 4 by decide) (h 2 (by decide))
  have h3 := fun w => tw_step (z + 5) M x w v (n := z + 1) (show 3 < 4 by decide) (h 3 (by decide))
  refine h0.trans ((h1 _).trans ((h2 _).trans ((h3 _).trans ?_)))
  rw [pf_Ru_takeWords_2, if_pos (by decide)]
  rfl
section CMP2
variable (fu : Nat) (hf : 768 < fu) (a b c R res Tx U M : Nat → Int32)
theorem cp_P {k : Nat} (hf : 768 < fu) (told : Int32) (hk : k ∈ ([1, 2, 3, 4, 5, 8, 9, 10, 11, 12, 16, 17, 18, 19, 20, 21, 23, 24, 25, 26, 27, 28, 29, 39, 40] : List Nat)) (h1 : 1 ≤ srcs k → ∀ j, j < 4 → a j = R j) (h2 : 2 ≤ srcs k → ∀ j, j < 4 → b j = R (4 + j)) (h3 : 3 ≤ srcs k → ∀ j, j < 4 → c j = R (8 + j)) :
    ∃ w', pf_Ru_compute fu (nI k) told 4 a 4 b 4 c 4 res 32 128 U 1024 M 4 16 Tx = some w' ∧ ∀ j, j < 4 → pf_Mo_part fu (nI k) (nI j) told 12 R 16 Tx 128 U 1024 M = some (w' j) := by
  have key : ∀ j, j < 4 → ∃ v, pf_Ru_ofParts (nI k) (a j) (b j) (c j) = some v ∧ pf_Mo_part fu (nI k) (nI j) told 12 R 16 Tx 128 U 1024 M = some v := by
    intro j hj
    by_cases e : k ∈ ([1, 2, 3, 4, 5, 8, 9, 10, 11, 12, 16, 17, 18, 19, 20, 21] : List Nat)
    · exact parts_lo fu R Tx U M told e hj (fun q => h1 q j hj) (fun q => h2 q j hj) (fun q => h3 q j hj)
    · refine parts_hi fu R Tx U M told ?_ hj (fun q => h1 q j hj) (fun q => h2 q j hj)
      simp only [List.mem_cons, List.not_mem_nil, or_false] at hk e ⊢
      omega
  have kv : ∀ j, j < 4 → pf_Ru_ofParts (nI k) (a j) (b j) (c j) = some ((fun j => (pf_Ru_ofParts (nI k) (a j) (b j) (c j)).getD 0) j) := by
    intro j hj
    obtain ⟨v, e1, -⟩ := key j hj
    simp only [e1, Option.getD_some]
  refine ⟨up4 res (fun j => (pf_Ru_ofParts (nI k) (a j) (b j) (c j)).getD 0), ?_, fun j hj => ?_⟩
  · have hc := cps fu (by omega) (nI k) a b c res _ kv
    have hb : pf_Ru_compute fu (nI k) told 4 a 4 b 4 c 4 res 32 128 U 1024 M 4 16 Tx = Option.bind (pf_Ru_computeParts fu (nI k) 4 a 4 b 4 c 4 res) fun w => some w := by
      simp only [List.mem_cons, List.not_mem_nil, or_false] at hk
      rcases hk with rfl | rfl | rfl | rfl | rfl | rfl | rfl | rfl | rfl | rfl | rfl | rfl | rfl | rfl | rfl | rfl | rfl | rfl | rfl | rfl | rfl | rfl | rfl | rfl | rfl <;> rfl
    rw [hb, hc]
    rfl
  · rw [up4_at _ _ hj]
    obtain ⟨v, e1, e2⟩ := key j hj
    simp only [e1, e2, Option.getD_some]
theorem cp_S {k : Nat} (hf : 768 < fu) (told : Int32) (v : Int32) (h1 : pf_Ru_compute fu (nI k) told 4 a 4 b 4 c 4 res 32 128 U 1024 M 4 16 Tx = Option.bind (pf_Ru_spread fu v 4 res) fun w => some w) (h2 : ∀ j, j < 4 → pf_Mo_part fu (nI k) (nI j) told 12 R 16 Tx 128 U 1024 M = some v) :
    ∃ w', pf_Ru_compute fu (nI k) told 4 a 4 b 4 c 4 res 32 128 U 1024 M 4 16 Tx = some w' ∧ ∀ j, j < 4 → pf_Mo_part fu (nI k) (nI j) told 12 R 16 Tx 128 U 1024 M = some (w' j) := by
  rw [h1, spr fu (by omega)]
  refine ⟨_, rfl, fun j hj => ?_⟩
  rw [up4_at _ _ hj]
  exact h2 j hj
theorem cp_6 (hf : 768 < fu) (told : Int32) (h1 : ∀ j, j < 4 → a j = R j) (h2 : ∀ j, j < 4 → b j = R (4 + j)) :
    ∃ w', pf_Ru_compute fu (nI 6) told 4 a 4 b 4 c 4 res 32 128 U 1024 M 4 16 Tx = some w' ∧ ∀ j, j < 4 → pf_Mo_part fu (nI 6) (nI j) told 12 R 16 Tx 128 U 1024 M = some (w' j) := by
  obtain ⟨z, rfl⟩ : ∃ z, fu = z + 5 := ⟨fu - 5, by omega⟩
  have a0 := h1 0 (by decide)
  have a1 := h1 1 (by decide)
  have a2 := h1 2 (by decide)
  have b0 := h2 0 (by decide)
  have b1 := h2 1 (by decide)
  have b2 := h2 2 (by decide)
  have hd : pf_Ru_dot (z + 5) 3 4 a 4 b = some (0 + (((a 0).toInt64 * (b 0).toInt64) >>> ((16 : Int32).toInt64 &&& 63)).toInt32 + (((a 1).toInt64 * (b 1).toInt64) >>> ((16 : Int32).toInt64 &&& 63)).toInt32 + (((a 2).toInt64 * (b 2).toInt64) >>> ((16 : Int32).toInt64 &&& 63)).toInt32) := rfl
  rw [Int32.zero_add, a0, a1, a2, b0, b1, b2] at hd
  have hc : pf_Ru_compute (z + 5) (nI 6) told 4 a 4 b 4 c 4 res 32 128 U 1024 M 4 16 Tx = Option.bind (pf_Ru_dot (z + 5) 3 4 a 4 b) fun r => Option.bind (pf_Ru_spread (z + 5) r 4 res) fun w => some w := rfl
  rw [hd] at hc
  refine cp_S (z + 5) a b c R res Tx U M (k := 6) hf told _ hc (fun j hj => ?_)
  rcases four hj with rfl | rfl | rfl | rfl <;> rfl
theorem cp_7 (hf : 768 < fu) (told : Int32) (h1 : ∀ j, j < 4 → a j = R j) (h2 : ∀ j, j < 4 → b j = R (4 + j)) :
    ∃ w', pf_Ru_compute fu (nI 7) told 4 a 4 b 4 c 4 res 32 128 U 1024 M 4 16 Tx = some w' ∧ ∀ j, j < 4 → pf_Mo_part fu (nI 7) (nI j) told 12 R 16 Tx 128 U 1024 M = some (w' j) := by
  obtain ⟨z, rfl⟩ : ∃ z, fu = z + 5 := ⟨fu - 5, by omega⟩
  have a0 := h1 0 (by decide)
  have a1 := h1 1 (by decide)
  have a2 := h1 2 (by decide)
  have a3 := h1 3 (by decide)
  have b0 := h2 0 (by decide)
  have b1 := h2 1 (by decide)
  have b2 := h2 2 (by decide)
  have b3 := h2 3 (by decide)
  have hd : pf_Ru_dot (z + 5) 4 4 a 4 b = some (0 + (((a 0).toInt64 * (b 0).toInt64) >>> ((16 : Int32).toInt64 &&& 63)).toInt32 + (((a 1).toInt64 * (b 1).toInt64) >>> ((16 : Int32).toInt64 &&& 63)).toInt32 + (((a 2).toInt64 * (b 2).toInt64) >>> ((16 : Int32).toInt64 &&& 63)).toInt32 + (((a 3).toInt64 * (b 3).toInt64) >>> ((16 : Int32).toInt64 &&& 63)).toInt32) := rfl
  rw [Int32.zero_add, a0, a1, a2, a3, b0, b1, b2, b3] at hd
  have hc : pf_Ru_compute (z + 5) (nI 7) told 4 a 4 b 4 c 4 res 32 128 U 1024 M 4 16 Tx = Option.bind (pf_Ru_dot (z + 5) 4 4 a 4 b) fun r => Option.bind (pf_Ru_spread (z + 5) r 4 res) fun w => some w := rfl
  rw [hd] at hc
  refine cp_S (z + 5) a b c R res Tx U M (k := 7) hf told _ hc (fun j hj => ?_)
  rcases four hj with rfl | rfl | rfl | rfl <;> rfl
theorem cp_13 (hf : 768 < fu) (told : Int32) (h1 : ∀ j, j < 4 → a j = R j) :
    ∃ w', pf_Ru_compute fu (nI 13) told 4 a 4 b 4 c 4 res 32 128 U 1024 M 4 16 Tx = some w' ∧ ∀ j, j < 4 → pf_Mo_part fu (nI 13) (nI j) told 12 R 16 Tx 128 U 1024 M = some (w' j) := by
  have a0 := h1 0 (by decide)
  obtain ⟨v, e1, e2⟩ := rec_both (R 0)
  have hc : pf_Ru_compute fu (nI 13) told 4 a 4 b 4 c 4 res 32 128 U 1024 M 4 16 Tx = Option.bind (pf_Fi_reciprocal (a 0)) fun r => Option.bind (pf_Ru_spread fu r 4 res) fun w => some w := rfl
  rw [a0, e1] at hc
  refine cp_S fu a b c R res Tx U M (k := 13) hf told _ hc (fun j hj => ?_)
  have hm : pf_Mo_part fu (nI 13) (nI j) told 12 R 16 Tx 128 U 1024 M = Option.bind (pf_Mo_oneBy (R 0)) fun r => some r := by
    rcases four hj with rfl | rfl | rfl | rfl <;> rfl
  rw [hm, e2]
  rfl
theorem cp_14 (hf : 768 < fu) (told : Int32) (h1 : ∀ j, j < 4 → a j = R j) :
    ∃ w', pf_Ru_compute fu (nI 14) told 4 a 4 b 4 c 4 res 32 128 U 1024 M 4 16 Tx = some w' ∧ ∀ j, j < 4 → pf_Mo_part fu (nI 14) (nI j) told 12 R 16 Tx 128 U 1024 M = some (w' j) := by
  have a0 := h1 0 (by decide)
  obtain ⟨v, e1, e2⟩ := rr_both fu (R 0) hf
  have hc : pf_Ru_compute fu (nI 14) told 4 a 4 b 4 c 4 res 32 128 U 1024 M 4 16 Tx = Option.bind (pf_Fi_rootOfReciprocal fu (a 0)) fun r => Option.bind (pf_Ru_spread fu r 4 res) fun w => some w := rfl
  rw [a0, e1] at hc
  refine cp_S fu a b c R res Tx U M (k := 14) hf told _ hc (fun j hj => ?_)
  refine Eq.trans ?_ e2
  rcases four hj with rfl | rfl | rfl | rfl <;> rfl
theorem cp_15 (hf : 768 < fu) (told : Int32) (h1 : ∀ j, j < 4 → a j = R j) :
    ∃ w', pf_Ru_compute fu (nI 15) told 4 a 4 b 4 c 4 res 32 128 U 1024 M 4 16 Tx = some w' ∧ ∀ j, j < 4 → pf_Mo_part fu (nI 15) (nI j) told 12 R 16 Tx 128 U 1024 M = some (w' j) := by
  have a0 := h1 0 (by decide)
  obtain ⟨v, e1, e2⟩ := ro_both fu (R 0) hf
  have hc : pf_Ru_compute fu (nI 15) told 4 a 4 b 4 c 4 res 32 128 U 1024 M 4 16 Tx = Option.bind (pf_Fi_rootOf fu (a 0)) fun r => Option.bind (pf_Ru_spread fu r 4 res) fun w => some w := rfl
  rw [a0, e1] at hc
  refine cp_S fu a b c R res Tx U M (k := 15) hf told _ hc (fun j hj => ?_)
  refine Eq.trans ?_ e2
  rcases four hj with rfl | rfl | rfl | rfl <;> rfl
theorem cp_22 (told : Int32) (h1 : ∀ j, j < 4 → a j = R j) (h2 : ∀ j, j < 4 → b j = R (4 + j)) :
    ∃ w', pf_Ru_compute fu (nI 22) told 4 a 4 b 4 c 4 res 32 128 U 1024 M 4 16 Tx = some w' ∧ ∀ j, j < 4 → pf_Mo_part fu (nI 22) (nI j) told 12 R 16 Tx 128 U 1024 M = some (w' j) := by
  have a0 := h1 0 (by decide)
  have a1 := h1 1 (by decide)
  have a2 := h1 2 (by decide)
  have b0 := h2 0 (by decide)
  have b1 := h2 1 (by decide)
  have b2 := h2 2 (by decide)
  have hc : pf_Ru_compute fu (nI 22) told 4 a 4 b 4 c 4 res 32 128 U 1024 M 4 16 Tx = some (upd (upd (upd (upd res 0 ((((a 1).toInt64 * (b 2).toInt64) >>> ((16 : Int32).toInt64 &&& 63)).toInt32 - (((a 2).toInt64 * (b 1).toInt64) >>> ((16 : Int32).toInt64 &&& 63)).toInt32)) 1 ((((a 2).toInt64 * (b 0).toInt64) >>> ((16 : Int32).toInt64 &&& 63)).toInt32 - (((a 0).toInt64 * (b 2).toInt64) >>> ((16 : Int32).toInt64 &&& 63)).toInt32)) 2 ((((a 0).toInt64 * (b 1).toInt64) >>> ((16 : Int32).toInt64 &&& 63)).toInt32 - (((a 1).toInt64 * (b 0).toInt64) >>> ((16 : Int32).toInt64 &&& 63)).toInt32)) 3 0) := rfl
  rw [a0, a1, a2, b0, b1, b2] at hc
  refine ⟨_, hc, fun j hj => ?_⟩
  rcases four hj with rfl | rfl | rfl | rfl <;> rfl
theorem cp_31 (hf : 768 < fu) (told : Int32) (h1 : ∀ j, j < 4 → a j = R j) :
    ∃ w', pf_Ru_compute fu (nI 31) told 4 a 4 b 4 c 4 res 32 128 U 1024 M 4 16 Tx = some w' ∧ ∀ j, j < 4 → pf_Mo_part fu (nI 31) (nI j) told 12 R 16 Tx 128 U 1024 M = some (w' j) := by
  have a0 := h1 0 (by decide)
  have hc : pf_Ru_compute fu (nI 31) told 4 a 4 b 4 c 4 res 32 128 U 1024 M 4 16 Tx = Option.bind (pf_Ru_takeWords fu (a 0 >>> ((16 : Int32) &&& 31)) 1024 M 4 res) fun w => some w := rfl
  rw [a0] at hc
  have kv : ∀ j, j < 4 → pf_St_word (R 0 >>> ((16 : Int32) &&& 31) + nI j) 1024 M = some ((fun j => (pf_St_word (R 0 >>> ((16 : Int32) &&& 31) + nI j) 1024 M).getD 0) j) := by
    intro j hj
    obtain ⟨v, e1, -⟩ := word_eq M (R 0 >>> ((16 : Int32) &&& 31) + nI j)
    simp only [e1, Option.getD_some]
  rw [tw fu (by omega) M _ res _ kv] at hc
  refine ⟨_, hc, fun j hj => ?_⟩
  obtain ⟨v, e1, e2⟩ := word_eq M (R 0 >>> ((16 : Int32) &&& 31) + nI j)
  rw [up4_at _ _ hj]
  simp only [e1, Option.getD_some]
  have hm : pf_Mo_part fu (nI 31) (nI j) told 12 R 16 Tx 128 U 1024 M = Option.bind (Option.bind (pf_Mo_word (R 0 >>> ((16 : Int32) &&& 31) + nI j) 1024 M) fun r => some r) fun r => some r := by
    rcases four hj with rfl | rfl | rfl | rfl <;> rfl
  rw [hm, e2]
  rfl
theorem cp_30 (hf : 768 < fu) (told : Int32) (h1 : ∀ j, j < 4 → a j = R j) :
    ∃ w', pf_Ru_compute fu (nI 30) told 4 a 4 b 4 c 4 res 32 128 U 1024 M 4 16 Tx = some w' ∧ ∀ j, j < 4 → pf_Mo_part fu (nI 30) (nI j) told 12 R 16 Tx 128 U 1024 M = some (w' j) := by
  have a0 := h1 0 (by decide)
  have hc : pf_Ru_compute fu (nI 30) told 4 a 4 b 4 c 4 res 32 128 U 1024 M 4 16 Tx = Option.bind (pf_Ve_pick fu (a 0 >>> ((16 : Int32) &&& 31)) 228 32 4 res 128 U) fun w => some w := rfl
  rw [a0] at hc
  have hm : ∀ j, j < 4 → pf_Mo_part fu (nI 30) (nI j) told 12 R 16 Tx 128 U 1024 M = Option.bind (if (R 0 >>> ((16 : Int32) &&& 31)) < 0 then some (0 : Int32) else if (32 : Int32) ≤ (R 0 >>> ((16 : Int32) &&& 31)) then some (0 : Int32) else if (0 : Int32) ≤ (((4 : Int32) * (R 0 >>> ((16 : Int32) &&& 31))) + nI j) ∧ (((4 : Int32) * (R 0 >>> ((16 : Int32) &&& 31))) + nI j).toNatClampNeg < 128 then some (U (((4 : Int32) * (R 0 >>> ((16 : Int32) &&& 31))) + nI j).toNatClampNeg) else none) fun r => some r := by
    intro j hj
    rcases four hj with rfl | rfl | rfl | rfl <;> rfl
  generalize R 0 >>> ((16 : Int32) &&& 31) = x at *
  unfold pf_Ve_pick pf_Ve_has at hc
  by_cases c1 : x < 0
  · rw [if_pos c1] at hc
    simp only [Option.bind_some] at hc
    rw [pick_no fu 128 U res x 228 (by omega)] at hc
    refine ⟨_, hc, fun j hj => ?_⟩
    rw [hm j hj, if_pos c1, up4_at _ _ hj]
    rfl
  rw [if_neg c1] at hc
  by_cases c2 : (32 : Int32) ≤ x
  · rw [if_pos c2] at hc
    simp only [Option.bind_some] at hc
    rw [pick_no fu 128 U res x 228 (by omega)] at hc
    refine ⟨_, hc, fun j hj => ?_⟩
    rw [hm j hj, if_neg c1, if_pos c2, up4_at _ _ hj]
    rfl
  rw [if_neg c2] at hc
  simp only [Option.bind_some] at hc
  obtain ⟨q, hq, rfl⟩ := nI_of c1
  have hq2 : q < 32 := Nat.lt_of_not_le fun y => c2 (nI_le (a := 32) y hq)
  have hpy : pf_Ve_pick_10 fu 4 128 U fu (nI q) 228 1 0 res = _ := pick_yes fu U res (np := 128) (k := q) (p := 228) (by omega) (by decide) (by decide) (by omega)
  rw [hpy] at hc
  refine ⟨_, hc, fun j hj => ?_⟩
  rw [hm j hj, if_neg c1, if_neg c2, up4_at _ _ hj, n4, nI_add, if_pos (inN (by omega) (by decide)), nI_clamp (by omega)]
  have h228 : 228 / 2 ^ (2 * j) % 2 ^ 2 = j := by rcases four hj with rfl | rfl | rfl | rfl <;> rfl
  rw [h228]
  rfl
theorem cp_32 {n : Nat} (hn : n ≤ 3) (h1 : ∀ j, j < 4 → a j = R j) :
    ∃ w', pf_Ru_compute fu (nI 32) (nI n) 4 a 4 b 4 c 4 res 32 128 U 1024 M 4 16 Tx = some w' ∧ ∀ j, j < 4 → pf_Mo_part fu (nI 32) (nI j) (nI n) 12 R 16 Tx 128 U 1024 M = some (w' j) := by
  have a0 := h1 0 (by decide)
  have a1 := h1 1 (by decide)
  have hc : pf_Ru_compute fu (nI 32) (nI n) 4 a 4 b 4 c 4 res 32 128 U 1024 M 4 16 Tx = some (upd (upd (upd (upd res 0 (Tx (4 * n) + a 0)) 1 (Tx (4 * n + 1) + a 1)) 2 (Tx (4 * n + 2) + 0)) 3 (Tx (4 * n + 3))) := by
    rcases four (show n < 4 by omega) with rfl | rfl | rfl | rfl <;> rfl
  rw [a0, a1] at hc
  refine ⟨_, hc, fun j hj => ?_⟩
  rcases four hj with rfl | rfl | rfl | rfl
  · rcases four (show n < 4 by omega) with rfl | rfl | rfl | rfl <;> rfl
  · rcases four (show n < 4 by omega) with rfl | rfl | rfl | rfl <;> rfl
  · rcases four (show n < 4 by omega) with rfl | rfl | rfl | rfl <;> rfl
  · show _ = some (Tx (4 * n + 3))
    rw [← Int32.add_zero (Tx (4 * n + 3))]
    rcases four (show n < 4 by omega) with rfl | rfl | rfl | rfl <;> rfl
theorem cp_33 {n : Nat} (hn : n ≤ 3) (h1 : ∀ j, j < 4 → a j = R j) :
    ∃ w', pf_Ru_compute fu (nI 33) (nI n) 4 a 4 b 4 c 4 res 32 128 U 1024 M 4 16 Tx = some w' ∧ ∀ j, j < 4 → pf_Mo_part fu (nI 33) (nI j) (nI n) 12 R 16 Tx 128 U 1024 M = some (w' j) := by
  have a0 := h1 0 (by decide)
  have a1 := h1 1 (by decide)
  have a2 := h1 2 (by decide)
  have hc : pf_Ru_compute fu (nI 33) (nI n) 4 a 4 b 4 c 4 res 32 128 U 1024 M 4 16 Tx = some (upd (upd (upd (upd res 0 (Tx (4 * n) + a 0)) 1 (Tx (4 * n + 1) + a 1)) 2 (Tx (4 * n + 2) + a 2)) 3 (Tx (4 * n + 3))) := by
    rcases four (show n < 4 by omega) with rfl | rfl | rfl | rfl <;> rfl
  rw [a0, a1, a2] at hc
  refine ⟨_, hc, fun j hj => ?_⟩
  rcases four hj with rfl | rfl | rfl | rfl
  · rcases four (show n < 4 by omega) with rfl | rfl | rfl | rfl <;> rfl
  · rcases four (show n < 4 by omega) with rfl | rfl | rfl | rfl <;> rfl
  · rcases four (show n < 4 by omega) with rfl | rfl | rfl | rfl <;> rfl
  · show _ = some (Tx (4 * n + 3))
    rw [← Int32.add_zero (Tx (4 * n + 3))]
    rcases four (show n < 4 by omega) with rfl | rfl | rfl | rfl <;> rfl
theorem cp_both {k n : Nat} (hf : 768 < fu) (hk : k ≤ 40) (hT : hasT k = true) (hn : (k = 32 ∨ k = 33) → n ≤ 3) (h1 : 1 ≤ srcs k → ∀ j, j < 4 → a j = R j) (h2 : 2 ≤ srcs k → ∀ j, j < 4 → b j = R (4 + j)) (h3 : 3 ≤ srcs k → ∀ j, j < 4 → c j = R (8 + j)) :
    ∃ w', pf_Ru_compute fu (nI k) (nI n) 4 a 4 b 4 c 4 res 32 128 U 1024 M 4 16 Tx = some w' ∧ ∀ j, j < 4 → pf_Mo_part fu (nI k) (nI j) (nI n) 12 R 16 Tx 128 U 1024 M = some (w' j) := by
  by_cases e : k ∈ ([1, 2, 3, 4, 5, 8, 9, 10, 11, 12, 16, 17, 18, 19, 20, 21, 23, 24, 25, 26, 27, 28, 29, 39, 40] : List Nat)
  · exact cp_P fu a b c R res Tx U M hf (nI n) e h1 h2 h3
  · have hT' := of_decide_eq_true hT
    simp only [List.mem_cons, List.not_mem_nil, or_false] at e
    have hq : k = 6 ∨ k = 7 ∨ k = 13 ∨ k = 14 ∨ k = 15 ∨ k = 22 ∨ k = 30 ∨ k = 31 ∨ k = 32 ∨ k = 33 := by omega
    rcases hq with rfl | rfl | rfl | rfl | rfl | rfl | rfl | rfl | rfl | rfl
    · exact cp_6 fu a b c R res Tx U M hf (nI n) (h1 (by decide)) (h2 (by decide))
    · exact cp_7 fu a b c R res Tx U M hf (nI n) (h1 (by decide)) (h2 (by decide))
    · exact cp_13 fu a b c R res Tx U M hf (nI n) (h1 (by decide))
    · exact cp_14 fu a b c R res Tx U M hf (nI n) (h1 (by decide))
    · exact cp_15 fu a b c R res Tx U M hf (nI n) (h1 (by decide))
    · exact cp_22 fu a b c R res Tx U M (nI n) (h1 (by decide)) (h2 (by decide))
    · exact cp_30 fu a b c R res Tx U M hf (nI n) (h1 (by decide))
    · exact cp_31 fu a b c R res Tx U M hf (nI n) (h1 (by decide))
    · exact cp_32 fu a b c R res Tx U M (hn (Or.inl rfl)) (h1 (by decide))
    · exact cp_33 fu a b c R res Tx U M (hn (Or.inr rfl)) (h1 (by decide))
end CMP2
