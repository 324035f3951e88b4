/-! PURE PART 2: the reference's depth, closing, steps; the class's Loops -/
theorem stk_len {P : Nat → Int32} : ∀ i : Nat, (stk P i).length ≤ i := by
  intro i
  induction i with
  | zero => exact Nat.le_refl 0
  | succ i ih =>
    by_cases h1 : kd P i = 34
    · rw [stk_L h1, List.length_cons]; omega
    · by_cases h2 : kd P i = 35
      · rw [stk_E h2, List.length_tail]; omega
      · rw [stk_N h1 h2]; omega
/-- no ENDLOOP without a LOOP before i -/
def okE (P : Nat → Int32) (i : Nat) : Prop := ∀ k, k < i → kd P k = 35 → stk P k ≠ []
theorem p1n (n : Nat) : nI n + (1 : Int32) = nI (n + 1) := nI_1 n
theorem mo_depth4 (fu : Nat) (P : Nat → Int32) (i : Nat) (hi : i ≤ 256) (ho : okE P i) : ∀ (r k n : Nat), k + r = i → r < n → pf_Mo_depth_4 fu 768 P n (nI i) (nI (stk P k).length) (nI k) = some (nI (stk P i).length) := by
  intro r
  induction r with
  | zero =>
    intro k n h1 h2
    obtain ⟨n, rfl⟩ : ∃ z, n = z + 1 := ⟨n - 1, by omega⟩
    have : k = i := by omega
    subst this
    rw [pf_Mo_depth_4, if_pos (nI_le (Nat.le_refl _) (by omega))]
  | succ r ih =>
    intro k n h1 h2
    obtain ⟨n, rfl⟩ : ∃ z, n = z + 1 := ⟨n - 1, by omega⟩
    rw [pf_Mo_depth_4, if_neg (nI_ge (by omega) (by omega)), mo_kind P (by omega)]
    simp only [Option.bind_some]
    have hk := kd_lt P k
    have hl := stk_len (P := P) k
    by_cases e1 : kd P k = 34
    · rw [e1, if_pos (by decide), p1n, p1n]
      have h := ih (k + 1) n (by omega) (by omega)
      rw [stk_L e1, List.length_cons] at h
      exact h
    · rw [if_neg (nIk (K := 34) 34 rfl (by omega) (by decide) e1)]
      by_cases e2 : kd P k = 35
      · rw [e2, if_pos (by decide), p1n]
        have hne := ho k (by omega) e2
        have h := ih (k + 1) n (by omega) (by omega)
        rw [stk_E e2, List.length_tail] at h
        have hp : 0 < (stk P k).length := List.length_pos_iff.mpr hne
        rw [m1, show (stk P k).length = ((stk P k).length - 1) + 1 by omega, nI_pred]
        exact h
      · rw [if_neg (nIk (K := 35) 35 rfl (by omega) (by decide) e2), p1n, Int32.add_zero]
        have h := ih (k + 1) n (by omega) (by omega)
        rw [stk_N e1 e2] at h
        exact h
theorem mo_depth (fu : Nat) (P : Nat → Int32) {i : Nat} (hi : i ≤ 256) (ho : okE P i) (hf : 256 < fu) : pf_Mo_depth fu (nI i) 768 P = some (nI (stk P i).length) := by
  unfold pf_Mo_depth
  exact mo_depth4 fu P i hi ho i 0 fu (by omega) (by omega)
/-- once closed, a loop stays closed -/
theorem stk_gone {P : Nat → Int32} {a : Nat} : ∀ (k m : Nat), k ≤ m → a < k → a ∉ stk P k → a ∉ stk P m := by
  intro k m hkm
  induction m with
  | zero => intro h1 h2; omega
  | succ m ih =>
    intro h1 h2
    by_cases e : k = m + 1
    · subst e; exact h2
    · have h := ih (by omega) h1 h2
      by_cases c1 : kd P m = 34
      · rw [stk_L c1]
        intro q
        rcases List.mem_cons.mp q with q | q
        · omega
        · exact h q
      · by_cases c2 : kd P m = 35
        · rw [stk_E c2]
          exact fun q => h (List.mem_of_mem_tail q)
        · rw [stk_N c1 c2]
          exact h
theorem mo_closing7 (fu : Nat) (P : Nat → Int32) (a m : Nat) (hm : m ≤ 256) : ∀ (r k o n : Nat), k + r = m → r < n → o ≤ k → (stk P k)[o]? = some a → ∃ x, pf_Mo_closing_7 fu 768 P n (nI m) (nI o) (nI k) = some x ∧ (0 ≤ x ↔ a ∉ stk P m) := by
  intro r
  induction r with
  | zero =>
    intro k o n h1 h2 h3 h4
    obtain ⟨n, rfl⟩ : ∃ z, n = z + 1 := ⟨n - 1, by omega⟩
    have : k = m := by omega
    subst this
    refine ⟨-1, by rw [pf_Mo_closing_7, if_pos (nI_le (Nat.le_refl _) (by omega))], ?_⟩
    constructor
    · intro h; exact absurd h (by decide)
    · intro h; exact absurd (List.mem_of_getElem? h4) h
  | succ r ih =>
    intro k o n h1 h2 h3 h4
    obtain ⟨n, rfl⟩ : ∃ z, n = z + 1 := ⟨n - 1, by omega⟩
    rw [pf_Mo_closing_7, if_neg (nI_ge (by omega) (by omega)), mo_kind P (by omega)]
    simp only [Option.bind_some]
    have hk := kd_lt P k
    by_cases e1 : kd P k = 34
    · rw [e1, if_pos (by decide), p1n, p1n]
      exact ih (k + 1) (o + 1) n (by omega) (by omega) (by omega) (by rw [stk_L e1]; simpa using h4)
    · rw [if_neg (nIk (K := 34) 34 rfl (by omega) (by decide) e1)]
      by_cases e2 : kd P k = 35
      · rw [e2, if_pos (by decide)]
        by_cases e3 : o = 0
        · subst e3
          rw [if_pos (by decide)]
          refine ⟨nI k, rfl, ?_⟩
          constructor
          · intro _
            cases hs : stk P k with
            | nil => rw [hs] at h4; cases h4
            | cons b t =>
              rw [hs] at h4
              have hb : b = a := by simpa using h4
              subst hb
              have ht := stk_cons k b t hs
              have hbk : b < k := stk_lt (by rw [hs]; exact List.mem_cons_self)
              refine stk_gone (k + 1) m (by omega) (by omega) ?_
              rw [stk_E e2, hs, List.tail_cons, ht]
              intro q
              have := stk_lt q
              omega
          · intro _; exact nI_pos' (by omega)
        · obtain ⟨d, rfl⟩ : ∃ d, o = d + 1 := ⟨o - 1, by omega⟩
          rw [if_neg (nI_ne0 (by omega) (by omega)), m1, nI_pred, p1n]
          refine ih (k + 1) d n (by omega) (by omega) (by omega) ?_
          rw [stk_E e2]
          cases hs : stk P k with
          | nil => rw [hs] at h4; cases h4
          | cons b t => rw [hs] at h4; simpa using h4
      · rw [if_neg (nIk (K := 35) 35 rfl (by omega) (by decide) e2), p1n]
        exact ih (k + 1) o n (by omega) (by omega) (by omega) (by rw [stk_N e1 e2]; exact h4)
theorem mo_closing (fu : Nat) (P : Nat → Int32) {i m : Nat} (hm : m ≤ 256) (him : i < m) (hk : kd P i = 34) (hf : 256 < fu) : ∃ x, pf_Mo_closing fu (nI i) (nI m) 768 P = some x ∧ (0 ≤ x ↔ i ∉ stk P m) := by
  unfold pf_Mo_closing
  rw [p1n]
  exact mo_closing7 fu P i m hm (m - (i + 1)) (i + 1) 0 fu (by omega) (by omega) (by omega) (by rw [stk_L hk]; rfl)
/-- how often: the product of the numbers of the loops of a list -/
def wt (P : Nat → Int32) : List Nat → Nat
  | [] => 1
  | a :: l => nu P a * wt P l
def sumw (P : Nat → Int32) : Nat → Nat → Nat
  | _, 0 => 0
  | i, r + 1 => wt P (stk P i) + sumw P (i + 1) r
theorem mo_steps22 (fu : Nat) (P : Nat → Int32) (hf : 256 < fu) (K5 : Int32 → Int64 → Int32 → Option Int64) (x1 : Int32) (x2 : Int64) (x4 : Int32) : ∀ (l : List Nat) (j n t : Nat), j ≤ 256 → stk P j = l → l.length < n → pf_Mo_steps_22 fu 768 P K5 n x1 x2 x4 (lN t) (ent l 0) = K5 x1 (x2 + lN (t * wt P l)) (x4 + 1) := by
  intro l
  induction l with
  | nil =>
    intro j n t h1 h2 h3
    obtain ⟨n, rfl⟩ : ∃ z, n = z + 1 := ⟨n - 1, by omega⟩
    rw [pf_Mo_steps_22, if_pos (by decide), wt, Nat.mul_one]
  | cons a l ih =>
    intro j n t h1 h2 h3
    obtain ⟨n, rfl⟩ : ∃ z, n = z + 1 := ⟨n - 1, by omega⟩
    have ha : a < j := stk_lt (by rw [h2]; exact List.mem_cons_self)
    have hl := stk_cons j a l h2
    rw [List.length_cons] at h3
    show pf_Mo_steps_22 fu 768 P K5 (n + 1) x1 x2 x4 (lN t) (nI a) = _
    rw [pf_Mo_steps_22, if_neg (nI_pos (by omega)), mo_num P (by omega)]
    simp only [Option.bind_some]
    rw [mo_around fu P (by omega) hf]
    simp only [Option.bind_some]
    have hn := nu_lt P a
    rw [nI_l (by omega), lN_mul, ← hl, ih a n (t * nu P a) (by omega) hl.symm (by omega), wt, Nat.mul_assoc]
theorem mo_steps5 (fu : Nat) (P : Nat → Int32) (hf : 256 < fu) (m : Nat) (hm : m ≤ 256) : ∀ (r i n acc : Nat), i + r = m → r < n → pf_Mo_steps_5 fu 768 P n (nI m) (lN acc) (nI i) = some (lN (acc + sumw P i r)) := by
  intro r
  induction r with
  | zero =>
    intro i n acc h1 h2
    obtain ⟨n, rfl⟩ : ∃ z, n = z + 1 := ⟨n - 1, by omega⟩
    have : i = m := by omega
    subst this
    rw [pf_Mo_steps_5, if_pos (nI_le (Nat.le_refl _) (by omega)), sumw, Nat.add_zero]
  | succ r ih =>
    intro i n acc h1 h2
    obtain ⟨n, rfl⟩ : ∃ z, n = z + 1 := ⟨n - 1, by omega⟩
    rw [pf_Mo_steps_5, if_neg (nI_ge (by omega) (by omega)), mo_around fu P (by omega) hf]
    simp only [Option.bind_some]
    have hl := stk_len (P := P) i
    rw [show (1 : Int64) = lN 1 from rfl, mo_steps22 fu P hf _ _ _ _ (stk P i) i fu 1 (by omega) rfl (by omega), Nat.one_mul, lN_add, p1n, ih (i + 1) n (acc + wt P (stk P i)) (by omega) (by omega), sumw, Nat.add_assoc]
theorem mo_steps (fu : Nat) (P : Nat → Int32) (hf : 256 < fu) {m : Nat} (hm : m ≤ 256) : pf_Mo_steps fu (nI m) 768 P = some (lN (sumw P 0 m)) := by
  unfold pf_Mo_steps
  have h := mo_steps5 fu P hf m hm m 0 fu 0 (by omega) (by omega)
  rw [Nat.zero_add] at h
  exact h
