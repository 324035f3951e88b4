/-! PURE PART 3: the class's Program and Loops -/
def b01 (b : Bool) : Int32 := if b then 1 else 0
theorem b01_t : b01 true = 1 := rfl
theorem b01_f : b01 false = 0 := rfl
theorem pr_has {i m : Nat} (hi : i < 2 ^ 31) (hm : m < 2 ^ 31) : pf_Pr_has (nI i) (nI m) = some (b01 (decide (i < m))) := by
  unfold pf_Pr_has
  rw [if_neg (nI_pos hi)]
  by_cases h : i < m
  · rw [if_neg (nI_ge h hm), decide_eq_true h]; rfl
  · rw [if_pos (nI_le (by omega) hi), decide_eq_false h]; rfl
theorem pr_first (P : Nat → Int32) {i m : Nat} (h : i < m) (hm : m ≤ 256) : pf_Pr_first (nI i) (nI m) 768 P = some (P (3 * i)) := by
  unfold pf_Pr_first
  rw [pr_has (by omega) (by omega), decide_eq_true h]
  simp only [Option.bind_some]
  rw [if_neg (by decide), if_pos (in3 (by omega) (by decide)), n3, nI_clamp (by omega)]
theorem pr_second (P : Nat → Int32) {i m : Nat} (h : i < m) (hm : m ≤ 256) : pf_Pr_second (nI i) (nI m) 768 P = some (P (3 * i + 1)) := by
  unfold pf_Pr_second
  rw [pr_has (by omega) (by omega), decide_eq_true h]
  simp only [Option.bind_some]
  rw [if_neg (by decide), n3, p1n, if_pos (inN (by omega) (by decide)), nI_clamp (by omega)]
theorem p2n (n : Nat) : nI n + (2 : Int32) = nI (n + 2) := nI_add n 2
theorem pr_third (P : Nat → Int32) {i m : Nat} (h : i < m) (hm : m ≤ 256) : pf_Pr_third (nI i) (nI m) 768 P = some (P (3 * i + 2)) := by
  unfold pf_Pr_third
  rw [pr_has (by omega) (by omega), decide_eq_true h]
  simp only [Option.bind_some]
  rw [if_neg (by decide), n3, p2n, if_pos (inN (by omega) (by decide)), nI_clamp (by omega)]
theorem pr_kind (P : Nat → Int32) {i m : Nat} (h : i < m) (hm : m ≤ 256) : pf_Pr_kind (nI i) (nI m) 768 P = some (nI (kd P i)) := by
  unfold pf_Pr_kind
  rw [pr_first P h hm]
  simp only [Option.bind_some]
  rw [un_and _ 6 (by decide)]
  rfl
theorem pr_number (P : Nat → Int32) {i m : Nat} (h : i < m) (hm : m ≤ 256) : pf_Pr_number (nI i) (nI m) 768 P = some (nI (nu P i)) := by
  unfold pf_Pr_number
  rw [pr_first P h hm]
  simp only [Option.bind_some]
  rw [un_us _ _ 17 (by decide)]
  rfl
/-- the class's stack of loops holds the places l and the counts cs, the innermost first -/
def Rep (d : Int32) (f : Nat → Int32) (g : Nat → Int64) (l : List Nat) (cs : List Nat) : Prop :=
  d = nI l.length ∧ cs.length = l.length ∧ l.length ≤ 4 ∧ (∀ j a, l[j]? = some a → f (l.length - 1 - j) = nI a) ∧ ∀ j c, cs[j]? = some c → g (l.length - 1 - j) = lN c
theorem Rep.nil (f : Nat → Int32) (g : Nat → Int64) : Rep 0 f g [] [] := ⟨rfl, rfl, by decide, fun j a h => by simp at h, fun j c h => by simp at h⟩
theorem lo_isEmpty {d : Int32} {f : Nat → Int32} {g : Nat → Int64} {l cs : List Nat} (h : Rep d f g l cs) : pf_Lo_isEmpty d = some (b01 (decide (l = []))) := by
  obtain ⟨rfl, -, hl, -, -⟩ := h
  unfold pf_Lo_isEmpty
  cases l with
  | nil => rfl
  | cons a l =>
    rw [List.length_cons] at hl ⊢
    rw [if_neg (nI_ne0 (by omega) (by omega))]
    simp [b01]
theorem lo_isFull {d : Int32} {f : Nat → Int32} {g : Nat → Int64} {l cs : List Nat} (h : Rep d f g l cs) : pf_Lo_isFull d = some (b01 (decide (4 ≤ l.length))) := by
  obtain ⟨rfl, -, hl, -, -⟩ := h
  unfold pf_Lo_isFull
  by_cases e : l.length = 4
  · rw [e]; rfl
  · rw [if_neg (nIk (K := 4) 4 rfl (by omega) (by decide) e), decide_eq_false (by omega)]; rfl
theorem lo_innermost {d : Int32} {f : Nat → Int32} {g : Nat → Int64} {l cs : List Nat} (h : Rep d f g l cs) : pf_Lo_innermost d 4 f = some (ent l 0) := by
  obtain ⟨rfl, -, hl, hf, -⟩ := h
  unfold pf_Lo_innermost
  cases l with
  | nil => rfl
  | cons a l =>
    have h0 := hf 0 a rfl
    rw [List.length_cons] at hl h0 ⊢
    rw [if_neg (nI_nle (by omega) (by omega)), if_neg (by rw [show (4 : Int32) = nI 4 from rfl]; exact nI_nlt (by omega) (by omega)), nI_pred, if_pos (inN (by omega) (by decide)), nI_clamp (by omega)]
    rw [show l.length + 1 - 1 - 0 = l.length by omega] at h0
    rw [h0]
    rfl
theorem lo_count {d : Int32} {f : Nat → Int32} {g : Nat → Int64} {l cs : List Nat} (h : Rep d f g l cs) : pf_Lo_count d 4 g = some (lN (cs.headD 1)) := by
  obtain ⟨rfl, hc, hl, -, hg⟩ := h
  unfold pf_Lo_count
  cases cs with
  | nil =>
    rw [← hc]
    rfl
  | cons c cs =>
    have h0 := hg 0 c rfl
    rw [← hc] at hl h0 ⊢
    rw [List.length_cons] at hl h0 ⊢
    rw [if_neg (nI_nle (by omega) (by omega)), if_neg (by rw [show (4 : Int32) = nI 4 from rfl]; exact nI_nlt (by omega) (by omega)), nI_pred, if_pos (inN (by omega) (by decide)), nI_clamp (by omega)]
    rw [show cs.length + 1 - 1 - 0 = cs.length by omega] at h0
    rw [h0]
    rfl
theorem lo_open {d : Int32} {f : Nat → Int32} {g : Nat → Int64} {l cs : List Nat} (h : Rep d f g l cs) (hl4 : l.length < 4) (a c : Nat) : ∃ d' f' g', pf_Lo_open (nI a) (lN c) d 4 f 4 g = some (d', f', g') ∧ Rep d' f' g' (a :: l) (c :: cs) := by
  obtain ⟨rfl, hc, hl, hf, hg⟩ := h
  refine ⟨nI (l.length + 1), upd f l.length (nI a), vp_updL g l.length (lN c), ?_, ?_⟩
  · unfold pf_Lo_open
    rw [if_neg (nI_pos (by omega)), if_neg (by rw [show (4 : Int32) = nI 4 from rfl]; exact nI_ge hl4 (by omega)), if_pos (inN hl4 (by decide)), if_pos (inN hl4 (by decide)), p1n, nI_clamp (by omega)]
  · refine ⟨rfl, by rw [List.length_cons, List.length_cons, hc], by rw [List.length_cons]; omega, fun j b hj => ?_, fun j b hj => ?_⟩
    · rw [List.length_cons]
      cases j with
      | zero =>
        have : a = b := by simpa using hj
        rw [this, show l.length + 1 - 1 - 0 = l.length by omega, pk_us]
      | succ j =>
        have hj' : l[j]? = some b := by simpa using hj
        have hlt := (List.getElem?_eq_some_iff.mp hj').1
        rw [pk_un (by omega), show l.length + 1 - 1 - (j + 1) = l.length - 1 - j by omega]
        exact hf j b hj'
    · rw [List.length_cons]
      cases j with
      | zero =>
        have : c = b := by simpa using hj
        rw [this, show l.length + 1 - 1 - 0 = l.length by omega, pk_uLs]
      | succ j =>
        have hj' : cs[j]? = some b := by simpa using hj
        have hlt := (List.getElem?_eq_some_iff.mp hj').1
        rw [pk_uLn (by omega), show l.length + 1 - 1 - (j + 1) = l.length - 1 - j by omega]
        exact hg j b hj'
theorem lo_close {d : Int32} {f : Nat → Int32} {g : Nat → Int64} {l cs : List Nat} (h : Rep d f g l cs) : ∃ d', pf_Lo_close d = some d' ∧ Rep d' f g l.tail cs.tail := by
  obtain ⟨rfl, hc, hl, hf, hg⟩ := h
  cases l with
  | nil =>
    cases cs with
    | nil => exact ⟨0, rfl, Rep.nil f g⟩
    | cons c cs => cases hc
  | cons a l =>
    cases cs with
    | nil => cases hc
    | cons c cs =>
      simp only [List.length_cons] at hc hl hf hg
      refine ⟨nI l.length, ?_, ?_⟩
      · unfold pf_Lo_close
        rw [List.length_cons, if_neg (nI_nle (by omega) (by omega)), nI_pred]
      · refine ⟨rfl, by simpa using hc, by simp only [List.tail_cons]; omega, fun j b hj => ?_, fun j b hj => ?_⟩
        · have := hf (j + 1) b (by simpa using hj)
          simp only [List.tail_cons]
          rw [show l.length + 1 - 1 - (j + 1) = l.length - 1 - j by omega] at this
          exact this
        · have := hg (j + 1) b (by simpa using hj)
          simp only [List.tail_cons]
          rw [show l.length + 1 - 1 - (j + 1) = l.length - 1 - j by omega] at this
          exact this
theorem lo_setCount {d : Int32} {f : Nat → Int32} {g : Nat → Int64} {a : Nat} {l : List Nat} {c : Nat} {cs : List Nat} (h : Rep d f g (a :: l) (c :: cs)) (c' : Nat) : ∃ g', pf_Lo_setCount (lN c') d 4 g = some g' ∧ Rep d f g' (a :: l) (c' :: cs) := by
  obtain ⟨rfl, hc, hl, hf, hg⟩ := h
  simp only [List.length_cons] at hc hl hf hg
  refine ⟨vp_updL g l.length (lN c'), ?_, ?_⟩
  · unfold pf_Lo_setCount
    rw [List.length_cons, if_neg (nI_nle (by omega) (by omega)), if_neg (by rw [show (4 : Int32) = nI 4 from rfl]; exact nI_nlt (by omega) (by omega)), nI_pred, if_pos (inN (by omega) (by decide)), nI_clamp (by omega)]
  · refine ⟨by rw [List.length_cons], by rw [List.length_cons, List.length_cons, Nat.succ.inj hc], by rw [List.length_cons]; omega, fun j b hj => by rw [List.length_cons]; exact hf j b hj, fun j b hj => ?_⟩
    rw [List.length_cons]
    cases j with
    | zero =>
      have : c' = b := by simpa using hj
      rw [this, show l.length + 1 - 1 - 0 = l.length by omega, pk_uLs]
    | succ j =>
      have hj' : cs[j]? = some b := by simpa using hj
      have hlt := (List.getElem?_eq_some_iff.mp hj').1
      rw [pk_uLn (by omega)]
      exact hg (j + 1) b (by simpa using hj')
