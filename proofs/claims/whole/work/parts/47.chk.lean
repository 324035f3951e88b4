/-! PURE PART 7: the check of a program, both sides -/
def ffrom (P : Nat → Int32) (m : Nat) (pl : Int32) : Nat → Nat → Option Nat
  | _, 0 => none
  | i, r + 1 => if flt P m pl i = 0 then ffrom P m pl (i + 1) r else some i
/-- a jump that leaves its loop -/
def stray (P : Nat → Int32) (i : Nat) : Prop := (kd P i = 36 ∨ kd P i = 37) ∧ ent (stk P i) 0 ≠ ent (stk P (nu P i)) 0
def sfrom (P : Nat → Int32) : Nat → Nat → Option Nat
  | _, 0 => none
  | i, r + 1 => if (kd P i = 36 ∨ kd P i = 37) ∧ ent (stk P i) 0 ≠ ent (stk P (nu P i)) 0 then some i else sfrom P (i + 1) r
def endc (P : Nat → Int32) (m : Nat) : Int32 × Int32 := match sfrom P 0 m with
  | some i => (5, nI i)
  | none => if sumw P 0 m ≤ 65536 then (0, -1) else (8, -1)
def chk (P : Nat → Int32) (m : Nat) (pl : Int32) : Int32 × Int32 := match ffrom P m pl 0 m with
  | some i => (nI (flt P m pl i), nI i)
  | none => if stk P m = [] then endc P m else (5, ent (stk P m) 0)
theorem flt_le (P : Nat → Int32) (m : Nat) (pl : Int32) (i : Nat) : flt P m pl i ≤ 7 := by
  unfold flt
  repeat' split
  all_goals omega
theorem okE_succ {P : Nat → Int32} {m i : Nat} {pl : Int32} (h : okE P i) (h0 : flt P m pl i = 0) : okE P (i + 1) := by
  intro k hk e
  by_cases c : k = i
  · subst c; exact (flt_0 h0).2.2.2.2.1 e
  · exact h k (by omega) e
theorem okE_0 (P : Nat → Int32) : okE P 0 := fun k h => by omega
theorem ffrom_none {P : Nat → Int32} {m : Nat} {pl : Int32} : ∀ (r i : Nat), ffrom P m pl i r = none → ∀ k, i ≤ k → k < i + r → flt P m pl k = 0 := by
  intro r
  induction r with
  | zero => intro i _ k h1 h2; omega
  | succ r ih =>
    intro i h k h1 h2
    rw [ffrom] at h
    by_cases c : flt P m pl i = 0
    · rw [if_pos c] at h
      by_cases e : k = i
      · subst e; exact c
      · exact ih (i + 1) h k (by omega) (by omega)
    · rw [if_neg c] at h; cases h
theorem okE_all {P : Nat → Int32} {m : Nat} {pl : Int32} (h : ∀ k, k < m → flt P m pl k = 0) : okE P m := fun k hk e => (flt_0 (h k hk)).2.2.2.2.1 e
theorem goes_nu {P : Nat → Int32} {m i : Nat} {pl : Int32} (h0 : flt P m pl i = 0) (hk : kd P i = 36 ∨ kd P i = 37) : i < nu P i ∧ nu P i < m := by
  have h := (flt_0 h0).2.2.2.1
  unfold badN at h
  rw [if_pos hk] at h
  have := of_decide_eq_false h
  omega
theorem loop_nu {P : Nat → Int32} {m i : Nat} {pl : Int32} (h0 : flt P m pl i = 0) (hk : kd P i = 34) : 1 ≤ nu P i ∧ nu P i ≤ 255 := by
  have h := (flt_0 h0).2.2.2.1
  unfold badN at h
  rw [if_neg (by omega), if_pos hk] at h
  have := of_decide_eq_false h
  omega
theorem stk_len4 {P : Nat → Int32} {m : Nat} {pl : Int32} (h : ∀ k, k < m → flt P m pl k = 0) : ∀ i, i ≤ m → (stk P i).length ≤ 4 := by
  intro i
  induction i with
  | zero => intro _; exact Nat.zero_le _
  | succ i ih =>
    intro hi
    have h1 := ih (by omega)
    by_cases c1 : kd P i = 34
    · rw [stk_L c1, List.length_cons]
      have := (flt_0 (h i (by omega))).2.2.2.2.2.1 c1
      omega
    · by_cases c2 : kd P i = 35
      · rw [stk_E c2, List.length_tail]; omega
      · rw [stk_N c1 c2]; exact h1
theorem wt_le {P : Nat → Int32} : ∀ (l : List Nat), (∀ a ∈ l, nu P a ≤ 255) → wt P l ≤ 255 ^ l.length := by
  intro l
  induction l with
  | nil => intro _; exact Nat.le_refl 1
  | cons a l ih =>
    intro h
    rw [wt, List.length_cons, Nat.pow_succ, Nat.mul_comm]
    exact Nat.mul_le_mul (ih fun b hb => h b (List.mem_cons_of_mem _ hb)) (h a List.mem_cons_self)
theorem wt_bound {P : Nat → Int32} {m : Nat} {pl : Int32} (h : ∀ k, k < m → flt P m pl k = 0) {i : Nat} (hi : i ≤ m) : wt P (stk P i) ≤ 255 ^ 4 := by
  refine Nat.le_trans (wt_le _ fun a ha => ?_) (Nat.pow_le_pow_right (by decide) (stk_len4 h i hi))
  exact (loop_nu (h a (by have := stk_lt ha; omega)) (stk_kd ha)).2
theorem sumw_bound {P : Nat → Int32} {m : Nat} {pl : Int32} (h : ∀ k, k < m → flt P m pl k = 0) : ∀ r i, i + r = m → sumw P i r ≤ r * 255 ^ 4 := by
  intro r
  induction r with
  | zero => intro i _; exact Nat.zero_le _
  | succ r ih =>
    intro i hi
    rw [sumw, Nat.succ_mul]
    have h1 := ih (i + 1) (by omega)
    have h2 := wt_bound h (show i ≤ m by omega)
    omega
theorem lN_le65 {t : Nat} (h : t < 2 ^ 63) : (lg_cmp (lN t) (65536 : Int64) ≤ 0) = (t ≤ 65536) := by
  rw [show (65536 : Int64) = lN 65536 from rfl]
  exact propext ((lg_cmp_le _ _).trans (pk_lLE h (by decide)))
theorem mo_check87 (fu : Nat) (P : Nat → Int32) {m : Nat} {pl : Int32} (hm : m ≤ 256) (hf : 256 < fu) (h : ∀ k, k < m → flt P m pl k = 0) (fo po : Int32) : ∀ (r i n : Nat), i + r = m → r < n →
    pf_Mo_check_87 fu 768 P n (nI m) (nI i) fo po = match sfrom P i r with
      | some j => some (5, 5, nI j)
      | none => if sumw P 0 m ≤ 65536 then some (0, 0, -1) else some (8, 8, -1) := by
  intro r
  induction r with
  | zero =>
    intro i n h1 h2
    obtain ⟨n, rfl⟩ : ∃ z, n = z + 1 := ⟨n - 1, by omega⟩
    have : i = m := by omega
    subst this
    rw [pf_Mo_check_87, if_pos (nI_le (Nat.le_refl _) (by omega)), mo_steps fu P hf hm]
    simp only [Option.bind_some, pf_Mo_no, sfrom]
    have hb := sumw_bound h i 0 (by omega)
    have : sumw P 0 i < 2 ^ 63 := by
      have : i * 255 ^ 4 ≤ 256 * 255 ^ 4 := Nat.mul_le_mul_right _ hm
      omega
    simp only [lN_le65 this]
  | succ r ih =>
    intro i n h1 h2
    obtain ⟨n, rfl⟩ : ∃ z, n = z + 1 := ⟨n - 1, by omega⟩
    have hk := kd_lt P i
    rw [pf_Mo_check_87, if_neg (nI_ge (by omega) (by omega)), mo_kind P (by omega), mo_around fu P (by omega) hf, mo_num P (by omega), p1n]
    simp only [Option.bind_some]
    rw [ite_eqK (a := kd P i) (K := 36) 36 rfl (by omega) (by decide), ite_eqK (a := kd P i) (K := 37) 37 rfl (by omega) (by decide), ih (i + 1) n (by omega) (by omega), sfrom]
    by_cases c : kd P i = 36 ∨ kd P i = 37
    · have hg := goes_nu (h i (by omega)) c
      rw [mo_around fu P (show nu P i ≤ 256 by omega) hf]
      simp only [Option.bind_some, pf_Mo_no]
      by_cases e : ent (stk P i) 0 = ent (stk P (nu P i)) 0
      · have hs : ¬ ((kd P i = 36 ∨ kd P i = 37) ∧ ent (stk P i) 0 ≠ ent (stk P (nu P i)) 0) := fun q => q.2 e
        rw [if_neg hs]
        rcases c with c | c
        · rw [if_pos c, if_pos e]
        · have c6 : ¬ kd P i = 36 := by omega
          rw [if_neg c6, if_pos c, if_pos e]
      · have hs : (kd P i = 36 ∨ kd P i = 37) ∧ ent (stk P i) 0 ≠ ent (stk P (nu P i)) 0 := ⟨c, e⟩
        rw [if_pos hs]
        rcases c with c | c
        · rw [if_pos c, if_neg e]
        · have c6 : ¬ kd P i = 36 := by omega
          rw [if_neg c6, if_pos c, if_neg e]
    · have c6 : ¬ kd P i = 36 := fun q => c (Or.inl q)
      have c7 : ¬ kd P i = 37 := fun q => c (Or.inr q)
      have hs : ¬ ((kd P i = 36 ∨ kd P i = 37) ∧ ent (stk P i) 0 ≠ ent (stk P (nu P i)) 0) := fun q => c q.1
      rw [if_neg c6, if_neg c7, if_neg hs]
theorem mo_check44 (fu : Nat) (P : Nat → Int32) {m : Nat} (hm : m ≤ 256) (hf : 256 < fu) (fo po : Int32) : ∀ (j n : Nat), j ≤ m → j < n → (∀ a, j ≤ a → a ∉ stk P m) →
    pf_Mo_check_44 fu 768 P n (nI m) (nI j - 1) fo po = if stk P m = [] then pf_Mo_check_87 fu 768 P fu (nI m) 0 fo po else some (5, 5, ent (stk P m) 0) := by
  intro j
  induction j with
  | zero =>
    intro n h1 h2 h3
    obtain ⟨n, rfl⟩ : ∃ z, n = z + 1 := ⟨n - 1, by omega⟩
    have : stk P m = [] := by
      cases hs : stk P m with
      | nil => rfl
      | cons a l => exact absurd (by rw [hs]; exact List.mem_cons_self) (h3 a (Nat.zero_le _))
    rw [pf_Mo_check_44, if_pos (by decide), if_pos this]
  | succ j ih =>
    intro n h1 h2 h3
    obtain ⟨n, rfl⟩ : ∃ z, n = z + 1 := ⟨n - 1, by omega⟩
    have hk := kd_lt P j
    rw [nI_pred, pf_Mo_check_44, if_neg (nI_pos (by omega)), mo_kind P (by omega)]
    simp only [Option.bind_some]
    rw [ite_eqK (a := kd P j) (K := 34) 34 rfl (by omega) (by decide), m1]
    by_cases c : kd P j = 34
    · rw [if_pos c]
      obtain ⟨x, e1, e2⟩ := mo_closing fu P hm (show j < m by omega) c hf
      rw [e1]
      simp only [Option.bind_some, pf_Mo_no]
      by_cases e : j ∈ stk P m
      · rw [if_neg (fun q => (e2.mp q) e)]
        have hne : stk P m ≠ [] := fun q => by rw [q] at e; cases e
        rw [if_neg hne]
        cases hs : stk P m with
        | nil => exact absurd hs hne
        | cons a l =>
          have ha : a ∈ stk P m := by rw [hs]; exact List.mem_cons_self
          have hl := stk_cons m a l hs
          have haj : a ≤ j := Nat.le_of_not_lt fun q => h3 a (by omega) ha
          rw [hs] at e
          rcases List.mem_cons.mp e with q | q
          · rw [q]; rfl
          · rw [hl] at q
            have := stk_lt q
            omega
      · rw [if_pos (e2.mpr e)]
        refine ih n (by omega) (by omega) (fun a ha => ?_)
        by_cases q : a = j
        · subst q; exact e
        · exact h3 a (by omega)
    · rw [if_neg c]
      refine ih n (by omega) (by omega) (fun a ha => ?_)
      by_cases q : a = j
      · subst q; exact fun z => c (stk_kd z)
      · exact h3 a (by omega)
theorem mo_check3 (fu : Nat) (P : Nat → Int32) {m : Nat} (pl : Int32) (hm : m ≤ 256) (hf : 256 < fu) (fo po : Int32) : ∀ (r i n : Nat), i + r = m → r < n → okE P i →
    pf_Mo_check_3 fu 768 P n (nI m) pl (nI i) fo po = match ffrom P m pl i r with
      | some j => some (nI (flt P m pl j), nI (flt P m pl j), nI j)
      | none => pf_Mo_check_44 fu 768 P fu (nI m) (nI m - 1) fo po := by
  intro r
  induction r with
  | zero =>
    intro i n h1 h2 h3
    obtain ⟨n, rfl⟩ : ∃ z, n = z + 1 := ⟨n - 1, by omega⟩
    have : i = m := by omega
    subst this
    rw [pf_Mo_check_3, if_pos (nI_le (Nat.le_refl _) (by omega))]
    rfl
  | succ r ih =>
    intro i n h1 h2 h3
    obtain ⟨n, rfl⟩ : ∃ z, n = z + 1 := ⟨n - 1, by omega⟩
    have hl := flt_le P m pl i
    rw [pf_Mo_check_3, if_neg (nI_ge (by omega) (by omega)), mo_fault fu P (by omega) hm pl h3 hf]
    simp only [Option.bind_some, pf_Mo_no]
    rw [ite_leK (a := flt P m pl i) (K := 0) 0 rfl (by omega) (by decide), ffrom, p1n]
    by_cases c : flt P m pl i = 0
    · rw [if_pos (by omega), if_pos c]
      exact ih (i + 1) n (by omega) (by omega) (okE_succ h3 c)
    · rw [if_neg (by omega), if_neg c]
theorem mo_check (fu : Nat) (P : Nat → Int32) {m : Nat} (pl : Int32) (hm : m ≤ 256) (hf : 256 < fu) (fo po : Int32) : pf_Mo_check fu (nI m) pl 768 P fo po = some ((chk P m pl).1, (chk P m pl).1, (chk P m pl).2) := by
  unfold pf_Mo_check chk
  rw [show (0 : Int32) = nI 0 from rfl, mo_check3 fu P pl hm hf fo po m 0 fu (by omega) (by omega) (okE_0 P)]
  cases hff : ffrom P m pl 0 m with
  | some j => rfl
  | none =>
    have hall : ∀ k, k < m → flt P m pl k = 0 := fun k hk => ffrom_none m 0 hff k (Nat.zero_le _) (by omega)
    dsimp only
    rw [mo_check44 fu P hm hf fo po m fu (Nat.le_refl _) (by omega) (fun a ha q => by have := stk_lt q; omega)]
    by_cases c : stk P m = []
    · rw [if_pos c, if_pos c, show (0 : Int32) = nI 0 from rfl, mo_check87 fu P hm hf hall fo po m 0 fu (by omega) (by omega)]
      unfold endc
      cases sfrom P 0 m with
      | some j => rfl
      | none =>
        dsimp only
        by_cases e : sumw P 0 m ≤ 65536
        · rw [if_pos e, if_pos e]
        · rw [if_neg e, if_neg e]
    · rw [if_neg c, if_neg c]
