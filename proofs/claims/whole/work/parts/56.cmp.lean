/-! PURE PART 14: what an instruction computes, both sides -/
theorem four {j : Nat} (h : j < 4) : j = 0 ∨ j = 1 ∨ j = 2 ∨ j = 3 := by omega
theorem min_ref (x y : Int32) : (Option.bind (pf_Ma_min x y) fun r_21 => some r_21) = if y ≤ x then some y else some x := by
  unfold pf_Ma_min
  by_cases c : y < x
  · rw [if_pos c, if_pos (Int32.le_of_lt c)]; rfl
  · rw [if_neg c]
    by_cases c2 : y ≤ x
    · rw [if_pos c2, i32_eq c2 (i32_nlt.mp c)]; rfl
    · rw [if_neg c2]; rfl
theorem max_ref (x y : Int32) : (Option.bind (pf_Ma_max x y) fun r_21 => some r_21) = if x ≤ y then some y else some x := by
  unfold pf_Ma_max
  by_cases c : x < y
  · rw [if_pos c, if_pos (Int32.le_of_lt c)]; rfl
  · rw [if_neg c]
    by_cases c2 : x ≤ y
    · rw [if_pos c2, i32_eq c2 (i32_nlt.mp c)]; rfl
    · rw [if_neg c2]; rfl
theorem ite_some {c : Prop} {d : Decidable c} {x y : Int32} : ∃ v, (@ite _ c d (some x) (some y)) = some v := by
  by_cases h : c
  · exact ⟨x, if_pos h⟩
  · exact ⟨y, if_neg h⟩
section CMP
variable (fu : Nat) (R Tx U M : Nat → Int32) (told : Int32)
/-- the kinds that are computed part by part -/
def isP (k : Nat) : Bool := decide (k ∈ ([1, 2, 3, 4, 5, 8, 9, 10, 11, 12, 16, 17, 18, 19, 20, 21, 23, 24, 25, 26, 27, 28, 29, 39, 40] : List Nat))
theorem parts_lo {k j : Nat} (hk : k ∈ ([1, 2, 3, 4, 5, 8, 9, 10, 11, 12, 16, 17, 18, 19, 20, 21] : List Nat)) (hj : j < 4) {x y z : Int32} (h1 : 1 ≤ srcs k → x = R j) (h2 : 2 ≤ srcs k → y = R (4 + j)) (h3 : 3 ≤ srcs k → z = R (8 + j)) :
    ∃ v, pf_Ru_ofParts (nI k) x y z = some v ∧ pf_Mo_part fu (nI k) (nI j) told 12 R 16 Tx 128 U 1024 M = some v := by
  have e4 : (4 : Int32) + nI j = nI (4 + j) := nI_add 4 j
  have e8 : (8 : Int32) + nI j = nI (8 + j) := nI_add 8 j
  unfold pf_Mo_part
  rw [e4, e8, if_pos (inN (by omega) (by decide)), if_pos (inN (by omega) (by decide)), if_pos (inN (by omega) (by decide)), if_pos (by decide), nI_clamp (by omega), nI_clamp (by omega), nI_clamp (by omega)]
  simp only [List.mem_cons, List.not_mem_nil, or_false] at hk
  rcases hk with rfl | rfl | rfl | rfl | rfl | rfl | rfl | rfl | rfl | rfl | rfl | rfl | rfl | rfl | rfl | rfl
  · rw [h1 (by decide)]; exact ⟨_, rfl, rfl⟩
  · rw [h1 (by decide), h2 (by decide)]; exact ⟨_, rfl, rfl⟩
  · rw [h1 (by decide), h2 (by decide)]; exact ⟨_, rfl, rfl⟩
  · rw [h1 (by decide), h2 (by decide)]; exact ⟨_, rfl, rfl⟩
  · rw [h1 (by decide), h2 (by decide), h3 (by decide)]; exact ⟨_, rfl, rfl⟩
  · rw [h1 (by decide), h2 (by decide)]
    obtain ⟨v, hv⟩ := ite_some (c := R (4 + j) ≤ R j) (d := inferInstance) (x := R (4 + j)) (y := R j)
    exact ⟨v, (min_ref (R j) (R (4 + j))).trans hv, hv⟩
  · rw [h1 (by decide), h2 (by decide)]
    obtain ⟨v, hv⟩ := ite_some (c := R j ≤ R (4 + j)) (d := inferInstance) (x := R (4 + j)) (y := R j)
    exact ⟨v, (max_ref (R j) (R (4 + j))).trans hv, hv⟩
  · rw [h1 (by decide)]
    have hs : ∃ v, pf_Fi_withoutSign (R j) = some v := by
      unfold pf_Fi_withoutSign
      split
      · exact ⟨_, rfl⟩
      · exact ite_some
    obtain ⟨v, hv⟩ := hs
    refine ⟨v, ?_, hv⟩
    show (Option.bind (pf_Fi_withoutSign (R j)) fun r => some r) = some v
    rw [hv]; rfl
  · rw [h1 (by decide)]; exact ⟨_, rfl, rfl⟩
  · rw [h1 (by decide)]; exact ⟨_, rfl, rfl⟩
  · rw [h1 (by decide), h2 (by decide)]
    by_cases c : R (4 + j) ≤ R j
    · exact ⟨0, if_pos c, if_pos c⟩
    · exact ⟨65536, if_neg c, if_neg c⟩
  · rw [h1 (by decide), h2 (by decide)]
    by_cases c : R j < R (4 + j)
    · exact ⟨0, if_pos c, if_neg (i32_nle.mpr c)⟩
    · exact ⟨65536, if_neg c, if_pos (i32_nlt.mp c)⟩
  · rw [h1 (by decide), h2 (by decide)]
    by_cases c : R j = R (4 + j)
    · exact ⟨65536, if_pos c, if_pos c⟩
    · exact ⟨0, if_neg c, if_neg c⟩
  · rw [h1 (by decide), h2 (by decide)]
    by_cases c : R j = R (4 + j)
    · exact ⟨0, if_pos c, if_pos c⟩
    · exact ⟨65536, if_neg c, if_neg c⟩
  · rw [h1 (by decide), h2 (by decide), h3 (by decide)]
    by_cases c : R j < 0
    · exact ⟨_, if_pos c, if_pos c⟩
    · exact ⟨_, if_neg c, if_neg c⟩
  · rw [h1 (by decide), h2 (by decide), h3 (by decide)]; exact ⟨_, rfl, rfl⟩
theorem parts_hi {k j : Nat} (hk : k ∈ ([23, 24, 25, 26, 27, 28, 29, 39, 40] : List Nat)) (hj : j < 4) {x y z : Int32} (h1 : 1 ≤ srcs k → x = R j) (h2 : 2 ≤ srcs k → y = R (4 + j)) :
    ∃ v, pf_Ru_ofParts (nI k) x y z = some v ∧ pf_Mo_part fu (nI k) (nI j) told 12 R 16 Tx 128 U 1024 M = some v := by
  have e4 : (4 : Int32) + nI j = nI (4 + j) := nI_add 4 j
  have e8 : (8 : Int32) + nI j = nI (8 + j) := nI_add 8 j
  have h00 : (0 : Int32) ≤ 0 ∧ (0 : Int32).toNatClampNeg < 12 := by decide
  unfold pf_Mo_part pf_Mo_more
  rw [e4, e8, if_pos (inN (by omega) (by decide)), if_pos (inN (by omega) (by decide)), if_pos (inN (by omega) (by decide)), if_pos h00, if_pos (inN (by omega) (by decide)), if_pos (inN (by omega) (by decide)), if_pos h00, nI_clamp (by omega), nI_clamp (by omega), nI_clamp (by omega)]
  simp only [List.mem_cons, List.not_mem_nil, or_false] at hk
  rcases hk with rfl | rfl | rfl | rfl | rfl | rfl | rfl | rfl | rfl
  · rw [h1 (by decide), h2 (by decide)]; exact ⟨_, rfl, rfl⟩
  · rw [h1 (by decide), h2 (by decide)]; exact ⟨_, rfl, rfl⟩
  · rw [h1 (by decide), h2 (by decide)]; exact ⟨_, rfl, rfl⟩
  · rw [h1 (by decide)]; exact ⟨_, rfl, rfl⟩
  · rw [h1 (by decide), h2 (by decide)]; exact ⟨_, rfl, rfl⟩
  · rw [h1 (by decide), h2 (by decide)]; exact ⟨_, rfl, rfl⟩
  · rw [h1 (by decide), h2 (by decide)]; exact ⟨_, rfl, rfl⟩
  · rw [h1 (by decide)]; exact ⟨_, rfl, rfl⟩
  · rw [h1 (by decide)]; exact ⟨_, rfl, rfl⟩
end CMP
