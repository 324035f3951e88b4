/-! PURE PART 8: the check of the class -/
theorem ch_loopAt (lf : Nat → Int32) {i : Nat} (hi : i < 256) : pf_Ch_loopAt (nI i) 256 lf = some (lf i) := by
  unfold pf_Ch_loopAt
  rw [if_neg (nI_pos (by omega)), if_neg (by rw [show Int32.ofNat 256 = nI 256 from rfl]; exact nI_ge (by omega) (by omega)), if_pos (inN (by omega) (by decide)), nI_clamp (by omega)]
theorem ch_stray2 (fu : Nat) (P : Nat → Int32) {m : Nat} {pl : Int32} (hm : m ≤ 256) (h : ∀ k, k < m → flt P m pl k = 0) (lf : Nat → Int32) (hlf : ∀ k, k < m → lf k = ent (stk P k) 0) : ∀ (r i n : Nat), i + r = m → r < n →
    pf_Ch_firstStray_2 fu (nI m) 768 P 256 lf n (nI i) = match sfrom P i r with
      | some j => some (nI j)
      | none => some (-1) := by
  intro r
  induction r with
  | zero =>
    intro i n h1 h2
    obtain ⟨n, rfl⟩ : ∃ z, n = z + 1 := ⟨n - 1, by omega⟩
    have : i = m := by omega
    subst this
    rw [pf_Ch_firstStray_2, pf_Pr_many]
    simp only [Option.bind_some]
    rw [if_pos (nI_le (Nat.le_refl _) (by omega))]
    rfl
  | succ r ih =>
    intro i n h1 h2
    obtain ⟨n, rfl⟩ : ∃ z, n = z + 1 := ⟨n - 1, by omega⟩
    have hk := kd_lt P i
    rw [pf_Ch_firstStray_2, pf_Pr_many]
    simp only [Option.bind_some]
    rw [if_neg (nI_ge (by omega) (by omega)), pr_kind P (by omega) hm, p1n]
    simp only [Option.bind_some]
    rw [ki_goes _ hk, ih (i + 1) n (by omega) (by omega)]
    simp only [Option.bind_some, ite_b]
    rw [ch_loopAt lf (by omega), pr_number P (by omega) hm, sfrom]
    simp only [Option.bind_some]
    by_cases c : kd P i = 36 ∨ kd P i = 37
    · have hg := goes_nu (h i (by omega)) c
      rw [decide_eq_true c, if_pos rfl, ch_loopAt lf (show nu P i < 256 by omega), hlf i (by omega), hlf (nu P i) (by omega)]
      simp only [Option.bind_some]
      by_cases e : ent (stk P i) 0 = ent (stk P (nu P i)) 0
      · have hs : ¬ ((kd P i = 36 ∨ kd P i = 37) ∧ ent (stk P i) 0 ≠ ent (stk P (nu P i)) 0) := fun q => q.2 e
        rw [if_neg hs, if_pos e]
      · have hs : (kd P i = 36 ∨ kd P i = 37) ∧ ent (stk P i) 0 ≠ ent (stk P (nu P i)) 0 := ⟨c, e⟩
        rw [if_pos hs, if_neg e]
    · have hs : ¬ ((kd P i = 36 ∨ kd P i = 37) ∧ ent (stk P i) 0 ≠ ent (stk P (nu P i)) 0) := fun q => c q.1
      rw [decide_eq_false c, if_neg (by decide), if_neg hs]
theorem sfrom_lt {P : Nat → Int32} : ∀ (r i j : Nat), sfrom P i r = some j → j < i + r := by
  intro r
  induction r with
  | zero => intro i j h; cases h
  | succ r ih =>
    intro i j h
    rw [sfrom] at h
    split at h
    · cases h; omega
    · have := ih (i + 1) j h; omega
theorem ch_whole (fu : Nat) (P : Nat → Int32) {m : Nat} {pl : Int32} (hm : m ≤ 256) (hf : 256 < fu) (h : ∀ k, k < m → flt P m pl k = 0) (lf : Nat → Int32) (hlf : ∀ k, k < m → lf k = ent (stk P k) 0) {d : Int32} {f : Nat → Int32} {g : Nat → Int64} (hr : Rep d f g (stk P m) (wts P (stk P m))) :
    pf_Ch_examineWhole fu 0 (-1) (lN (sumw P 0 m)) d (nI m) 768 P 256 lf 4 f = some (if stk P m = [] then endc P m else (5, ent (stk P m) 0)) := by
  unfold pf_Ch_examineWhole
  rw [lo_isEmpty hr, lo_innermost hr]
  simp only [Option.bind_some, ite_b, pf_Ch_tell]
  by_cases c : stk P m = []
  · rw [decide_eq_true c, if_pos rfl, if_pos c]
    unfold pf_Ch_firstStray endc
    have e9 : pf_Ch_firstStray_2 fu (nI m) 768 P 256 lf fu 0 = _ := ch_stray2 fu P hm h lf hlf m 0 fu (by omega) (by omega)
    rw [e9]
    cases hs : sfrom P 0 m with
    | some j =>
      have hj := sfrom_lt m 0 j hs
      dsimp only
      simp only [Option.bind_some]
      have hne : ¬ nI j = (-1 : Int32) := fun q => absurd (show nI j < 0 by rw [q]; decide) (nI_pos (by omega))
      rw [if_neg hne]
    | none =>
      dsimp only
      simp only [Option.bind_some, if_true]
      have hb := sumw_bound h m 0 (by omega)
      have hlt : sumw P 0 m < 2 ^ 63 := by
        have : m * 255 ^ 4 ≤ 256 * 255 ^ 4 := Nat.mul_le_mul_right _ hm
        omega
      simp only [lN_le65 hlt]
      by_cases e : sumw P 0 m ≤ 65536
      · rw [if_pos e, if_pos e]
      · rw [if_neg e, if_neg e]
  · rw [decide_eq_false c, if_neg (by decide), if_neg c]
theorem ch_examine20 (fu : Nat) (P : Nat → Int32) {m : Nat} (pl : Int32) (hm : m ≤ 256) (hf : 256 < fu) : ∀ (r i n a : Nat), i + r = m → r < n → (∀ k, k < i → flt P m pl k = 0) → a + sumw P i r = sumw P 0 m →
    ∀ (d : Int32) (lf f : Nat → Int32) (g : Nat → Int64), (∀ k, k < i → lf k = ent (stk P k) 0) → Rep d f g (stk P i) (wts P (stk P i)) →
    ∃ S D LF F Gg, pf_Ch_examine_20 fu (nI m) 768 P 256 4 4 n pl (nI i) 0 (-1) (lN a) d lf f g = some ((match ffrom P m pl i r with
      | some j => (nI (flt P m pl j), nI j)
      | none => if stk P m = [] then endc P m else (5, ent (stk P m) 0)).1, (match ffrom P m pl i r with
      | some j => (nI (flt P m pl j), nI j)
      | none => if stk P m = [] then endc P m else (5, ent (stk P m) 0)).2, S, D, LF, F, Gg) ∧ (ffrom P m pl i r = none → S = lN (sumw P 0 m)) := by
  intro r
  induction r with
  | zero =>
    intro i n a h1 h2 h3 h4 d lf f g h5 h6
    obtain ⟨n, rfl⟩ : ∃ z, n = z + 1 := ⟨n - 1, by omega⟩
    have : i = m := by omega
    subst this
    rw [sumw, Nat.add_zero] at h4
    refine ⟨lN a, d, lf, f, g, ?_, fun _ => by rw [h4]⟩
    rw [pf_Ch_examine_20, pf_Pr_many]
    simp only [Option.bind_some]
    rw [if_pos (nI_le (Nat.le_refl _) (by omega)), h4, ch_whole fu P hm hf h3 lf h5 h6]
    rfl
  | succ r ih =>
    intro i n a h1 h2 h3 h4 d lf f g h5 h6
    obtain ⟨n, rfl⟩ : ∃ z, n = z + 1 := ⟨n - 1, by omega⟩
    have hl := flt_le P m pl i
    rw [pf_Ch_examine_20, pf_Pr_many]
    simp only [Option.bind_some]
    rw [if_neg (nI_ge (by omega) (by omega)), ch_fault P (by omega) hm pl h6, ffrom]
    simp only [Option.bind_some, pf_Ch_tell]
    rw [ite_eqK (a := flt P m pl i) (K := 0) 0 rfl (by omega) (by decide)]
    by_cases c : flt P m pl i = 0
    · rw [if_pos c, if_pos c]
      obtain ⟨d', g', f', e1, e2⟩ := ch_follow P (show i < m by omega) hm c h6 lf a
      rw [e1, p1n]
      simp only [Option.bind_some]
      rw [sumw] at h4
      refine ih (i + 1) n (a + wt P (stk P i)) (by omega) (by omega) (fun k hk => ?_) (by omega) d' _ f' g' (fun k hk => ?_) e2
      · by_cases q : k = i
        · subst q; exact c
        · exact h3 k (by omega)
      · by_cases q : k = i
        · subst q; rw [pk_us]
        · rw [pk_un q]; exact h5 k (by omega)
    · rw [if_neg c, if_neg c]
      exact ⟨_, _, _, _, _, rfl, fun q => by cases q⟩
theorem ch_examine (fu : Nat) (P : Nat → Int32) {m : Nat} (pl : Int32) (hm : m ≤ 256) (hf : 256 < fu) (lf f : Nat → Int32) (g : Nat → Int64) :
    ∃ S D LF F Gg, pf_Ch_examine fu pl (nI m) 768 P 256 lf 4 f 4 g = some ((chk P m pl).1, (chk P m pl).2, S, D, LF, F, Gg) ∧ ((chk P m pl).1 = 0 → S = lN (sumw P 0 m) ∧ sumw P 0 m ≤ 65536 ∧ (∀ k, k < m → flt P m pl k = 0) ∧ stk P m = [] ∧ sfrom P 0 m = none) := by
  obtain ⟨S, D, LF, F, Gg, e1, e2⟩ := ch_examine20 fu P pl hm hf m 0 fu 0 (by omega) (by omega) (fun k hk => by omega) (by omega) 0 lf f g (fun k hk => by omega) (Rep.nil f g)
  refine ⟨S, D, LF, F, Gg, ?_, ?_⟩
  · unfold pf_Ch_examine
    simp only [pf_Ch_tell, pf_Lo_clear, Option.bind_some]
    exact e1
  · intro h0
    unfold chk at h0
    cases hff : ffrom P m pl 0 m with
    | some j =>
      rw [hff] at h0
      dsimp only at h0
      have hl := flt_le P m pl j
      have hj : flt P m pl j = 0 := (nI_eq (b := 0) (by omega) (by decide)).mp h0
      have : ∀ (r i : Nat), ffrom P m pl i r = some j → flt P m pl j ≠ 0 := by
        intro r
        induction r with
        | zero => intro i q; cases q
        | succ r ih =>
          intro i q
          rw [ffrom] at q
          by_cases c : flt P m pl i = 0
          · rw [if_pos c] at q; exact ih (i + 1) q
          · rw [if_neg c] at q; cases q; exact c
      exact absurd hj (this m 0 hff)
    | none =>
      rw [hff] at h0
      dsimp only at h0
      have hall : ∀ k, k < m → flt P m pl k = 0 := fun k hk => ffrom_none m 0 hff k (Nat.zero_le _) (by omega)
      by_cases c : stk P m = []
      · rw [if_pos c] at h0
        unfold endc at h0
        cases hs : sfrom P 0 m with
        | some j => rw [hs] at h0; dsimp only at h0; exact absurd h0 (by decide)
        | none =>
          rw [hs] at h0
          dsimp only at h0
          by_cases e : sumw P 0 m ≤ 65536
          · exact ⟨e2 hff, e, hall, c, rfl⟩
          · rw [if_neg e] at h0; dsimp only at h0; exact absurd h0 (by decide)
      · rw [if_neg c] at h0; dsimp only at h0; exact absurd h0 (by decide)
