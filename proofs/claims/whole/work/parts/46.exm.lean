/-! PURE PART 6: the fault of an instruction (reference); following one instruction (class) -/
theorem mo_fault (fu : Nat) (P : Nat → Int32) {i m : Nat} (hi : i < m) (hm : m ≤ 256) (pl : Int32) (ho : okE P i) (hf : 256 < fu) : pf_Mo_faultOf fu (nI i) (nI m) pl 768 P = some (nI (flt P m pl i)) := by
  have hk := kd_lt P i
  have hn := nu_lt P i
  have hl := stk_len (P := P) i
  unfold pf_Mo_faultOf flt
  rw [mo_kind P (by omega)]
  simp only [Option.bind_some]
  rw [ite_leK (a := kd P i) (K := 40) 40 rfl (by omega) (by decide)]
  by_cases c1 : 40 < kd P i
  · rw [if_neg (by omega), if_pos c1]; rfl
  rw [if_pos (by omega), if_neg c1]
  rw [mo_target P (by omega), mo_sourcesB fu P (by omega) (by omega) hf, mo_number P (by omega) hm, mo_depth fu P (by omega) ho hf]
  simp only [Option.bind_some, ite_b]
  by_cases c2 : badT (un (P (3 * i))) = true
  · rw [if_pos c2, if_pos c2]; rfl
  rw [if_neg c2, if_neg c2]
  by_cases c3 : badSs (kd P i) (un (P (3 * i + 1))) (un (P (3 * i + 2))) = true
  · rw [if_pos c3, if_pos c3]; rfl
  rw [if_neg c3, if_neg c3]
  by_cases c4 : badN (kd P i) (nu P i) i m = true
  · rw [if_pos c4, if_pos c4]; rfl
  rw [if_neg c4, if_neg c4]
  have hM : nI m - (1 : Int32) = nI (m - 1) := by
    obtain ⟨z, rfl⟩ : ∃ z, m = z + 1 := ⟨m - 1, by omega⟩
    rw [nI_pred]; rfl
  rw [hM]
  have k35 : (nI (kd P i) = 35) = (kd P i = 35) := propext (nI_eq (b := 35) (by omega) (by decide))
  have k34 : (nI (kd P i) = 34) = (kd P i = 34) := propext (nI_eq (b := 34) (by omega) (by decide))
  have k38 : (nI (kd P i) = 38) = (kd P i = 38) := propext (nI_eq (b := 38) (by omega) (by decide))
  have k0 : (nI (kd P i) = 0) = (kd P i = 0) := propext (nI_eq (b := 0) (by omega) (by decide))
  have ki : (nI i = nI (m - 1)) = (i = m - 1) := propext (nI_eq (by omega) (by omega))
  have l0 : (nI (stk P i).length = 0) = (stk P i = []) := propext ((nI_eq (b := 0) (by omega) (by decide)).trans List.length_eq_zero_iff)
  have l4 : (nI (stk P i).length < 4) = ((stk P i).length < 4) := propext (nI_ltI (b := 4) (by omega) (by decide))
  simp only [k35, k34, k38, k0, ki, l0, l4]
  clear k35 k34 k38 k0 ki l0 l4 c1 c2 c3 c4 hk hn hl ho
  generalize kd P i = k
  generalize stk P i = l
  by_cases e35 : k = 35
  · subst e35
    by_cases es : l = []
    · simp [es] <;> rfl
    · by_cases em : i = m - 1 <;> simp [es, em] <;> rfl
  · by_cases e34 : k = 34
    · subst e34
      by_cases el : 4 ≤ l.length
      · simp [el, show ¬ l.length < 4 by omega] <;> rfl
      · by_cases em : i = m - 1 <;> simp [el, show l.length < 4 by omega, em] <;> rfl
    · by_cases e0 : k = 0
      · subst e0
        by_cases em : i = m - 1 <;> simp [em] <;> rfl
      · by_cases em : i = m - 1
        · simp [e35, e34, e0, em] <;> rfl
        · by_cases e38 : k = 38
          · subst e38
            by_cases ep : pl = 0 <;> simp [em, ep] <;> rfl
          · simp [e35, e34, e0, em, e38] <;> rfl
/-- what no fault says -/
theorem flt_0 {P : Nat → Int32} {m i : Nat} {pl : Int32} (h : flt P m pl i = 0) : kd P i ≤ 40 ∧ badT (un (P (3 * i))) = false ∧ badSs (kd P i) (un (P (3 * i + 1))) (un (P (3 * i + 2))) = false ∧ badN (kd P i) (nu P i) i m = false ∧ (kd P i = 35 → stk P i ≠ []) ∧ (kd P i = 34 → (stk P i).length < 4) ∧ (kd P i = 0 ↔ i = m - 1) ∧ (kd P i = 38 → pl ≠ 0) := by
  unfold flt at h
  by_cases c1 : 40 < kd P i
  · rw [if_pos c1] at h; cases h
  rw [if_neg c1] at h
  by_cases c2 : badT (un (P (3 * i))) = true
  · rw [if_pos c2] at h; cases h
  rw [if_neg c2] at h
  by_cases c3 : badSs (kd P i) (un (P (3 * i + 1))) (un (P (3 * i + 2))) = true
  · rw [if_pos c3] at h; cases h
  rw [if_neg c3] at h
  by_cases c4 : badN (kd P i) (nu P i) i m = true
  · rw [if_pos c4] at h; cases h
  rw [if_neg c4] at h
  by_cases c5 : kd P i = 35 ∧ stk P i = [] ∨ kd P i = 34 ∧ 4 ≤ (stk P i).length
  · rw [if_pos c5] at h; cases h
  rw [if_neg c5] at h
  by_cases c6 : (kd P i = 0 ∧ i ≠ m - 1) ∨ (kd P i ≠ 0 ∧ i = m - 1)
  · rw [if_pos c6] at h; cases h
  rw [if_neg c6] at h
  by_cases c7 : kd P i = 38 ∧ pl = 0
  · rw [if_pos c7] at h; cases h
  refine ⟨by omega, by simpa using c2, by simpa using c3, by simpa using c4, fun e q => c5 (Or.inl ⟨e, q⟩), fun e => ?_, ⟨fun e => ?_, fun e => ?_⟩, fun e q => c7 ⟨e, q⟩⟩
  · refine Nat.lt_of_not_le (fun q => c5 (Or.inr ⟨e, q⟩))
  · exact Classical.byContradiction fun q => c6 (Or.inl ⟨e, q⟩)
  · exact Classical.byContradiction fun q => c6 (Or.inr ⟨q, e⟩)
/-- the counts that the check keeps -/
def wts (P : Nat → Int32) : List Nat → List Nat
  | [] => []
  | a :: l => wt P (a :: l) :: wts P l
theorem wts_head (P : Nat → Int32) (l : List Nat) : (wts P l).headD 1 = wt P l := by cases l <;> rfl
theorem wts_tail (P : Nat → Int32) (l : List Nat) : (wts P l).tail = wts P l.tail := by cases l <;> rfl
theorem ch_follow (P : Nat → Int32) {i m : Nat} (hi : i < m) (hm : m ≤ 256) {pl : Int32} (h0 : flt P m pl i = 0) {d : Int32} {f : Nat → Int32} {g : Nat → Int64} (hr : Rep d f g (stk P i) (wts P (stk P i))) (lf : Nat → Int32) (a : Nat) :
    ∃ d' g' f', pf_Ch_follow (nI i) (lN a) d 4 g (nI m) 768 P 4 f 256 lf = some (lN (a + wt P (stk P i)), d', g', f', upd lf i (ent (stk P i) 0)) ∧ Rep d' f' g' (stk P (i + 1)) (wts P (stk P (i + 1))) := by
  obtain ⟨-, -, -, -, h5, h6, -, -⟩ := flt_0 h0
  have hk := kd_lt P i
  have hn := nu_lt P i
  unfold pf_Ch_follow
  rw [if_neg (nI_pos (by omega)), if_neg (by rw [show Int32.ofNat 256 = nI 256 from rfl]; exact nI_ge (by omega) (by omega)), lo_innermost hr]
  simp only [Option.bind_some]
  rw [if_pos (inN (by omega) (by decide)), lo_count hr, pr_kind P hi hm, pr_number P hi hm]
  simp only [Option.bind_some, nI_clamp (show i < 2 ^ 31 by omega)]
  rw [wts_head, lN_add]
  rw [ite_eqK (a := kd P i) (K := 34) 34 rfl (by omega) (by decide), ite_eqK (a := kd P i) (K := 35) 35 rfl (by omega) (by decide)]
  by_cases c1 : kd P i = 34
  · rw [if_pos c1, nI_l (by omega), lN_mul]
    obtain ⟨d', f', g', e1, e2⟩ := lo_open hr (h6 c1) i (wt P (stk P i) * nu P i)
    rw [e1]
    refine ⟨d', g', f', rfl, ?_⟩
    rw [stk_L c1, wts, wt, Nat.mul_comm (nu P i)]
    exact e2
  · rw [if_neg c1]
    by_cases c2 : kd P i = 35
    · rw [if_pos c2]
      obtain ⟨d', e1, e2⟩ := lo_close hr
      rw [e1]
      refine ⟨d', g, f, rfl, ?_⟩
      rw [stk_E c2, ← wts_tail]
      exact e2
    · rw [if_neg c2]
      refine ⟨d, g, f, rfl, ?_⟩
      rw [stk_N c1 c2]
      exact hr
