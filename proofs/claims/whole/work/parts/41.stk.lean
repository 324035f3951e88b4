/-! PURE PART 1: the words of a program, its open loops; the reference's searches -/
def kd (P : Nat → Int32) (i : Nat) : Nat := un (P (3 * i)) % 64
def nu (P : Nat → Int32) (i : Nat) : Nat := un (P (3 * i)) / 2 ^ 17
theorem kd_lt (P : Nat → Int32) (i : Nat) : kd P i < 64 := Nat.mod_lt _ (by decide)
theorem nu_lt (P : Nat → Int32) (i : Nat) : nu P i < 32768 := by
  have h := un_lt (P (3 * i))
  unfold nu
  omega
theorem n3 (i : Nat) : (3 : Int32) * nI i = nI (3 * i) := pk_mul 3 i
theorem nIe {a b : Nat} (ha : a < 2 ^ 31) (hb : b < 2 ^ 31) (h : a ≠ b) : ¬ nI a = nI b := fun e => h ((nI_eq ha hb).mp e)
theorem nIk {a : Nat} {K : Int32} (k : Nat) (hK : K = nI k) (ha : a < 2 ^ 31) (hk : k < 2 ^ 31) (h : a ≠ k) : ¬ nI a = K := by
  rw [hK]
  exact nIe ha hk h
theorem in3 {i n : Nat} (h : 3 * i < n) (hn : n < 2 ^ 31) : (0 : Int32) ≤ (3 : Int32) * nI i ∧ ((3 : Int32) * nI i).toNatClampNeg < n := by
  rw [n3, nI_clamp (by omega)]
  exact ⟨nI_pos' (by omega), h⟩
theorem inN {i n : Nat} (h : i < n) (hn : n < 2 ^ 31) : (0 : Int32) ≤ nI i ∧ (nI i).toNatClampNeg < n := by
  rw [nI_clamp (by omega)]
  exact ⟨nI_pos' (by omega), h⟩
theorem mo_kind (P : Nat → Int32) {i : Nat} (h : i < 256) : pf_Mo_kindOf (nI i) 768 P = some (nI (kd P i)) := by
  unfold pf_Mo_kindOf
  rw [if_pos (in3 (by omega) (by decide)), n3, nI_clamp (by omega), un_and _ 6 (by decide)]
  rfl
theorem mo_num (P : Nat → Int32) {i : Nat} (h : i < 256) : pf_Mo_numberOf (nI i) 768 P = some (nI (nu P i)) := by
  unfold pf_Mo_numberOf
  rw [if_pos (in3 (by omega) (by decide)), n3, nI_clamp (by omega), un_us _ _ 17 (by decide)]
  rfl
/-- the open loops before instruction i, the innermost first -/
def stk (P : Nat → Int32) : Nat → List Nat
  | 0 => []
  | i + 1 => if kd P i = 34 then i :: stk P i else if kd P i = 35 then (stk P i).tail else stk P i
theorem stk_0 (P : Nat → Int32) : stk P 0 = [] := rfl
theorem stk_L {P : Nat → Int32} {i : Nat} (h : kd P i = 34) : stk P (i + 1) = i :: stk P i := by simp [stk, h]
theorem stk_E {P : Nat → Int32} {i : Nat} (h : kd P i = 35) : stk P (i + 1) = (stk P i).tail := by simp [stk, h]
theorem stk_N {P : Nat → Int32} {i : Nat} (h : kd P i ≠ 34) (h2 : kd P i ≠ 35) : stk P (i + 1) = stk P i := by simp [stk, h, h2]
theorem stk_lt {P : Nat → Int32} : ∀ {i a : Nat}, a ∈ stk P i → a < i := by
  intro i
  induction i with
  | zero => intro a h; cases h
  | succ i ih =>
    intro a h
    by_cases h1 : kd P i = 34
    · rw [stk_L h1] at h
      rcases List.mem_cons.mp h with rfl | h
      · omega
      · have := ih h; omega
    · by_cases h2 : kd P i = 35
      · rw [stk_E h2] at h
        have := ih (List.mem_of_mem_tail h); omega
      · rw [stk_N h1 h2] at h
        have := ih h; omega
theorem stk_kd {P : Nat → Int32} : ∀ {i a : Nat}, a ∈ stk P i → kd P a = 34 := by
  intro i
  induction i with
  | zero => intro a h; cases h
  | succ i ih =>
    intro a h
    by_cases h1 : kd P i = 34
    · rw [stk_L h1] at h
      rcases List.mem_cons.mp h with rfl | h
      · exact h1
      · exact ih h
    · by_cases h2 : kd P i = 35
      · rw [stk_E h2] at h
        exact ih (List.mem_of_mem_tail h)
      · rw [stk_N h1 h2] at h
        exact ih h
/-- what stands below a loop in the list is the list at that loop -/
theorem stk_cons {P : Nat → Int32} : ∀ (i : Nat) (a : Nat) (r : List Nat), stk P i = a :: r → r = stk P a := by
  intro i
  induction i using Nat.strongRecOn with
  | ind i ih =>
    intro a r h
    match i, h, ih with
    | 0, h, ih => cases h
    | i + 1, h, ih =>
      by_cases h1 : kd P i = 34
      · rw [stk_L h1] at h
        injection h with e1 e2
        rw [← e1, e2]
      · by_cases h2 : kd P i = 35
        · rw [stk_E h2] at h
          cases hs : stk P i with
          | nil => rw [hs] at h; cases h
          | cons b t =>
            rw [hs] at h
            have ht := ih i (by omega) b t hs
            have hb : b < i := stk_lt (by rw [hs]; exact List.mem_cons_self)
            exact ih b (by omega) a r (by rw [← ht]; exact h)
        · rw [stk_N h1 h2] at h
          exact ih i (by omega) a r h
/-- an entry of the list as the programs give it -/
def ent (l : List Nat) (c : Nat) : Int32 := match l[c]? with
  | some a => nI a
  | none => -1
theorem m1 (x : Int32) : x + (-1) = x - 1 := by rw [Int32.sub_eq_add_neg]
theorem mo_around6 (fu : Nat) (P : Nat → Int32) : ∀ (j c n : Nat), j ≤ 256 → c + j ≤ 1024 → j < n → pf_Mo_around_6 fu 768 P n (nI c) (nI j - 1) = some (ent (stk P j) c) := by
  intro j
  induction j with
  | zero =>
    intro c n h1 h2 h3
    obtain ⟨n, rfl⟩ : ∃ k, n = k + 1 := ⟨n - 1, by omega⟩
    rw [pf_Mo_around_6, if_pos (by decide)]
    rfl
  | succ j ih =>
    intro c n h1 h2 h3
    obtain ⟨n, rfl⟩ : ∃ k, n = k + 1 := ⟨n - 1, by omega⟩
    rw [nI_pred, pf_Mo_around_6, if_neg (nI_pos (by omega)), mo_kind P (by omega)]
    simp only [Option.bind_some]
    have hk := kd_lt P j
    by_cases e1 : kd P j = 35
    · rw [e1, if_pos (by decide), m1, nI_1, ih (c + 1) n (by omega) (by omega) (by omega), stk_E e1]
      congr 1
      unfold ent
      cases stk P j <;> simp
    · rw [if_neg (nIk (K := 35) 35 rfl (by omega) (by decide) e1)]
      by_cases e2 : kd P j = 34
      · rw [e2, if_pos (by decide), stk_L e2]
        by_cases e3 : c = 0
        · subst e3
          rw [if_pos (by decide)]
          rfl
        · obtain ⟨d, rfl⟩ : ∃ d, c = d + 1 := ⟨c - 1, by omega⟩
          rw [if_neg (nI_ne0 (by omega) (by omega)), m1, nI_pred, m1, ih d n (by omega) (by omega) (by omega)]
          rfl
      · rw [if_neg (nIk (K := 34) 34 rfl (by omega) (by decide) e2), m1, ih c n (by omega) (by omega) (by omega), stk_N e2 e1]
theorem mo_around (fu : Nat) (P : Nat → Int32) {i : Nat} (h : i ≤ 256) (hf : 256 < fu) : pf_Mo_around fu (nI i) 768 P = some (ent (stk P i) 0) := by
  unfold pf_Mo_around
  exact mo_around6 fu P i 0 fu h (by omega) (by omega)
