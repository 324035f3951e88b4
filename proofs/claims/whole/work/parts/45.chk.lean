/-! PURE PART 5: the fault of an instruction, both sides -/
def src3 (P : Nat → Int32) (i j : Nat) : Nat := if j = 0 then un (P (3 * i + 1)) % 2 ^ 16 else if j = 1 then un (P (3 * i + 1)) / 2 ^ 16 else un (P (3 * i + 2)) % 2 ^ 16
theorem src3_lt (P : Nat → Int32) (i j : Nat) : src3 P i j < 65536 := by
  have h1 := un_lt (P (3 * i + 1))
  have h2 := un_lt (P (3 * i + 2))
  unfold src3
  split
  · omega
  · split <;> omega
theorem mo_srcOf (P : Nat → Int32) {i j : Nat} (hi : i < 256) (hj : j < 3) : pf_Mo_sourceOf (nI i) (nI j) 768 P = some (nI (src3 P i j)) := by
  unfold pf_Mo_sourceOf src3
  rw [n3, p1n, p2n, if_pos (inN (by omega) (by decide)), if_pos (inN (by omega) (by decide)), if_pos (inN (by omega) (by decide)), nI_clamp (by omega), nI_clamp (by omega), an_16, us_16, an_16]
  have hq : j = 0 ∨ j = 1 ∨ j = 2 := by omega
  rcases hq with rfl | rfl | rfl <;> rfl
theorem mo_bs_step (fu : Nat) (P : Nat → Int32) {i j q n : Nat} (hi : i < 256) (hj : j < 3) (hq : q ≤ 3) (z : Bool) : pf_Mo_badSources_31 fu 768 P (n + 1) (nI i) (nI q) (b01 z) (nI j) = pf_Mo_badSources_31 fu 768 P n (nI i) (nI q) (b01 (z || badS (src3 P i j) (decide (j < q)))) (nI (j + 1)) := by
  have hs := src3_lt P i j
  rw [pf_Mo_badSources_31, ite_Kle (a := j) (K := 3) 3 rfl (by omega) (by decide), if_neg (by omega), ite_b]
  cases z with
  | true =>
    rw [if_pos rfl, p1n]
    rfl
  | false =>
    rw [if_neg (by decide), mo_srcOf P hi hj]
    simp only [Option.bind_some]
    rw [ite_leK (a := q) (K := nI j) j rfl (by omega) (by omega), mo_src0 _ hs, mo_src1 _ hs]
    simp only [Option.bind_some, ite_b, p1n, Bool.false_or]
    by_cases c : q ≤ j
    · rw [if_pos c, decide_eq_false (show ¬ j < q by omega)]
      cases badS (src3 P i j) false <;> rfl
    · rw [if_neg c, decide_eq_true (show j < q by omega)]
      cases badS (src3 P i j) true <;> rfl
theorem mo_sourcesB (fu : Nat) (P : Nat → Int32) {i : Nat} (hi : i < 256) (hk : kd P i < 41) (hf : 256 < fu) : pf_Mo_badSources fu (nI i) 768 P = some (b01 (badSs (kd P i) (un (P (3 * i + 1))) (un (P (3 * i + 2))))) := by
  have hq := srcs_le (kd P i) (by omega)
  have fin : ∀ (z : Bool) (n : Nat), pf_Mo_badSources_31 fu 768 P (n + 4) (nI i) (nI (srcs (kd P i))) (b01 z) (nI 0) = some (b01 (z || badS (src3 P i 0) (decide (0 < srcs (kd P i))) || badS (src3 P i 1) (decide (1 < srcs (kd P i))) || badS (src3 P i 2) (decide (2 < srcs (kd P i))))) := by
    intro z n
    rw [mo_bs_step fu P hi (by omega) hq, mo_bs_step fu P hi (by omega) hq, mo_bs_step fu P hi (by omega) hq]
    rw [pf_Mo_badSources_31, if_pos (by decide)]
    generalize (z || badS (src3 P i 0) (decide (0 < srcs (kd P i))) || badS (src3 P i (0 + 1)) (decide (0 + 1 < srcs (kd P i))) || badS (src3 P i (0 + 1 + 1)) (decide (0 + 1 + 1 < srcs (kd P i)))) = y
    cases y <;> rfl
  unfold pf_Mo_badSources
  rw [mo_kind P hi]
  simp only [Option.bind_some]
  rw [mo_sources _ hk]
  simp only [Option.bind_some]
  rw [n3, p2n, if_pos (inN (by omega) (by decide)), nI_clamp (by omega), us_16]
  have h2 := un_lt (P (3 * i + 2))
  rw [ite_eqK (a := un (P (3 * i + 2)) / 2 ^ 16) (K := 0) 0 rfl (by omega) (by decide)]
  obtain ⟨n, rfl⟩ : ∃ n, fu = n + 4 := ⟨fu - 4, by omega⟩
  have f0 := fin false n
  have f1 := fin true n
  unfold badSs
  by_cases c : un (P (3 * i + 2)) / 2 ^ 16 = 0
  · rw [if_pos c, c]
    refine f0.trans ?_
    simp only [Bool.false_or, ne_eq, not_true_eq_false, decide_false, Bool.or_false]
    rfl
  · rw [if_neg c, decide_eq_true (show un (P (3 * i + 2)) / 2 ^ 16 ≠ 0 from c)]
    refine f1.trans ?_
    simp only [Bool.true_or, Bool.or_true]
/-- the fault of instruction i, 0 if it has none -/
def flt (P : Nat → Int32) (m : Nat) (pl : Int32) (i : Nat) : Nat :=
  if 40 < kd P i then 1
  else if badT (un (P (3 * i))) then 2
  else if badSs (kd P i) (un (P (3 * i + 1))) (un (P (3 * i + 2))) then 3
  else if badN (kd P i) (nu P i) i m then 4
  else if kd P i = 35 ∧ stk P i = [] ∨ kd P i = 34 ∧ 4 ≤ (stk P i).length then 5
  else if (kd P i = 0 ∧ i ≠ m - 1) ∨ (kd P i ≠ 0 ∧ i = m - 1) then 6
  else if kd P i = 38 ∧ pl = 0 then 7 else 0
theorem ch_fault (P : Nat → Int32) {i m : Nat} (hi : i < m) (hm : m ≤ 256) (pl : Int32) {d : Int32} {f : Nat → Int32} {g : Nat → Int64} {cs : List Nat} (hr : Rep d f g (stk P i) cs) : pf_Ch_faultOf (nI i) pl (nI m) 768 P d = some (nI (flt P m pl i)) := by
  have hk := kd_lt P i
  have hn := nu_lt P i
  unfold pf_Ch_faultOf flt
  rw [pr_kind P hi hm, pr_first P hi hm, pr_second P hi hm, pr_third P hi hm, pr_number P hi hm]
  simp only [Option.bind_some, pf_Pr_many]
  rw [ite_leK (a := kd P i) (K := 40) 40 rfl (by omega) (by decide)]
  by_cases c1 : 40 < kd P i
  · rw [if_neg (by omega), if_pos c1]; rfl
  rw [if_pos (by omega), if_neg c1]
  have ht : pf_Ch_isTargetWrong (nI (kd P i)) (P (3 * i)) = some (b01 (badT (un (P (3 * i))))) := ch_target (P (3 * i))
  rw [ht, ch_sources hk, ch_number hk hn (by omega) hm]
  simp only [Option.bind_some, ite_b]
  by_cases c2 : badT (un (P (3 * i))) = true
  · rw [if_pos c2, if_pos c2]; rfl
  rw [if_neg c2, if_neg c2]
  by_cases c3 : badSs (kd P i) (un (P (3 * i + 1))) (un (P (3 * i + 2))) = true
  · rw [if_pos c3, if_pos c3]; rfl
  rw [if_neg c3, if_neg c3]
  by_cases c4 : badN (kd P i) (nu P i) i m = true
  · rw [if_pos c4, if_pos c4]; rfl
  rw [if_neg c4, if_neg c4]
  rw [lo_isEmpty hr, lo_isFull hr]
  simp only [Option.bind_some, ite_b]
  have hM : nI m - (1 : Int32) = nI (m - 1) := by
    obtain ⟨z, rfl⟩ : ∃ z, m = z + 1 := ⟨m - 1, by omega⟩
    rw [nI_pred]; rfl
  rw [hM]
  have k35 : (nI (kd P i) = 35) = (kd P i = 35) := propext (nI_eq (b := 35) (by omega) (by decide))
  have k34 : (nI (kd P i) = 34) = (kd P i = 34) := propext (nI_eq (b := 34) (by omega) (by decide))
  have k38 : (nI (kd P i) = 38) = (kd P i = 38) := propext (nI_eq (b := 38) (by omega) (by decide))
  have k0 : (nI (kd P i) = 0) = (kd P i = 0) := propext (nI_eq (b := 0) (by omega) (by decide))
  have ki : (nI i = nI (m - 1)) = (i = m - 1) := propext (nI_eq (by omega) (by omega))
  simp only [k35, k34, k38, k0, ki, decide_eq_true_eq]
  clear k35 k34 k38 k0 ki ht c1 c2 c3 c4 hr hk hn
  generalize kd P i = k
  generalize stk P i = l
  by_cases e35 : k = 35
  · subst e35
    by_cases es : l = []
    · simp [es] <;> rfl
    · by_cases em : i = m - 1 <;> simp [es, em] <;> rfl
  · by_cases e34 : k = 34
    · subst e34
      by_cases el : 4 ≤ l.length
      · simp [el] <;> rfl
      · by_cases em : i = m - 1 <;> simp [el, em] <;> rfl
    · by_cases e0 : k = 0
      · subst e0
        by_cases em : i = m - 1 <;> simp [em] <;> rfl
      · by_cases em : i = m - 1
        · simp [e35, e34, e0, em] <;> rfl
        · by_cases e38 : k = 38
          · subst e38
            by_cases ep : pl = 0 <;> simp [em, ep] <;> rfl
          · simp [e35, e34, e0, em, e38] <;> rfl
