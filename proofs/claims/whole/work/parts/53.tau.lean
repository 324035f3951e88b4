/-! PURE PART 11: a program's time: it rises with each step and stays below the program's steps -/
def wtu (P : Nat → Int32) (a : Nat) : List Nat → Nat
  | [] => 0
  | b :: l => if b = a then 1 else nu P b * wtu P a l
def wto (P : Nat → Int32) : Option Nat → List Nat → Nat
  | none, s => wt P s
  | some a, s => wtu P a s
def pq (P : Nat → Int32) (o : Option Nat) : Nat → Nat
  | 0 => 0
  | i + 1 => pq P o i + wto P o (stk P i)
theorem pq_S (P : Nat → Int32) (o : Option Nat) (i : Nat) : pq P o (i + 1) = pq P o i + wto P o (stk P i) := rfl
theorem pq_mono (P : Nat → Int32) (o : Option Nat) {i : Nat} : ∀ {j : Nat}, i ≤ j → pq P o i ≤ pq P o j := by
  intro j
  induction j with
  | zero => intro h; rw [show i = 0 by omega]; exact Nat.le_refl _
  | succ j ih =>
    intro h
    by_cases e : i = j + 1
    · rw [e]; exact Nat.le_refl _
    · have := ih (by omega)
      rw [pq_S]; omega
theorem wto_head (P : Nat → Int32) (l : List Nat) : wto P l.head? l = 1 := by
  cases l with
  | nil => rfl
  | cons a l => show wtu P a (a :: l) = 1; rw [wtu, if_pos rfl]
theorem wtu_0 (P : Nat → Int32) (a : Nat) : ∀ l : List Nat, a ∉ l → wtu P a l = 0 := by
  intro l
  induction l with
  | nil => intro _; rfl
  | cons b l ih =>
    intro h
    have h1 : b ≠ a := fun e => h (by rw [e]; exact List.mem_cons_self)
    rw [wtu, if_neg h1, ih fun q => h (List.mem_cons_of_mem _ q), Nat.mul_zero]
theorem pq_0 (P : Nat → Int32) (a : Nat) : ∀ i, i ≤ a + 1 → pq P (some a) i = 0 := by
  intro i
  induction i with
  | zero => intro _; rfl
  | succ i ih =>
    intro h
    rw [pq_S, ih (by omega)]
    show 0 + wtu P a (stk P i) = 0
    rw [wtu_0 P a _ fun q => by have := stk_lt q; omega]
/-- one instruction counts for the loops around as often as the loop has rounds -/
theorem wto_Z {P : Nat → Int32} {a : Nat} : ∀ k, nu P a * wtu P a (stk P k) ≤ wto P (stk P a).head? (stk P k) := by
  intro k
  induction k using Nat.strongRecOn with
  | ind k ih =>
    cases hs : stk P k with
    | nil => rw [wtu, Nat.mul_zero]; exact Nat.zero_le _
    | cons x r =>
      have hr := stk_cons k x r hs
      have hx : x < k := stk_lt (by rw [hs]; exact List.mem_cons_self)
      subst hr
      by_cases e : x = a
      · subst e
        rw [wtu, if_pos rfl, Nat.mul_one]
        cases hb : stk P x with
        | nil => show nu P x ≤ wt P [x]; rw [wt, wt, Nat.mul_one]; exact Nat.le_refl _
        | cons b t =>
          have hbx : b < x := stk_lt (by rw [hb]; exact List.mem_cons_self)
          have h1 : ¬ x = b := by omega
          show nu P x ≤ wtu P b (x :: b :: t)
          rw [wtu, if_neg h1, wtu, if_pos rfl, Nat.mul_one]
          exact Nat.le_refl _
      · rw [wtu, if_neg e]
        have h := ih x hx
        cases hb : stk P a with
        | nil =>
          rw [hb] at h
          show nu P a * (nu P x * wtu P a (stk P x)) ≤ wt P (x :: stk P x)
          rw [wt, Nat.mul_left_comm]
          exact Nat.mul_le_mul_left _ h
        | cons b t =>
          rw [hb] at h
          show nu P a * (nu P x * wtu P a (stk P x)) ≤ wtu P b (x :: stk P x)
          by_cases e2 : x = b
          · subst e2
            have hba : x < a := stk_lt (by rw [hb]; exact List.mem_cons_self)
            rw [wtu_0 P a _ fun q => by have := stk_lt q; omega, Nat.mul_zero, Nat.mul_zero]
            exact Nat.zero_le _
          · rw [wtu, if_neg e2, Nat.mul_left_comm]
            exact Nat.mul_le_mul_left _ h
theorem pq_Z {P : Nat → Int32} {a : Nat} : ∀ r, pq P (stk P a).head? a + 1 + nu P a * pq P (some a) (a + 1 + r) ≤ pq P (stk P a).head? (a + 1 + r) := by
  intro r
  induction r with
  | zero =>
    rw [Nat.add_zero, pq_0 P a (a + 1) (Nat.le_refl _), pq_S, wto_head, Nat.mul_zero]
    exact Nat.le_refl _
  | succ r ih =>
    have hz := wto_Z (P := P) (a := a) (a + 1 + r)
    rw [← Nat.add_assoc, pq_S, pq_S, Nat.mul_add]
    have : wto P (some a) (stk P (a + 1 + r)) = wtu P a (stk P (a + 1 + r)) := rfl
    rw [this]
    omega
/-- rounds that are over, of all open loops -/
def base (P : Nat → Int32) (m : Nat) : List Nat → List Nat → Nat
  | a :: l, c :: cs => base P m l cs + pq P l.head? a + 1 + (nu P a - c) * pq P (some a) m
  | _, _ => 0
def tau (P : Nat → Int32) (m : Nat) (l cs : List Nat) (i : Nat) : Nat := base P m l cs + pq P l.head? i
theorem tau_N {P : Nat → Int32} {m : Nat} {cs : List Nat} {i : Nat} (h1 : kd P i ≠ 34) (h2 : kd P i ≠ 35) : tau P m (stk P (i + 1)) cs (i + 1) = tau P m (stk P i) cs i + 1 := by
  unfold tau
  rw [stk_N h1 h2, pq_S, wto_head]
  omega
theorem tau_J {P : Nat → Int32} {m : Nat} {cs : List Nat} {i t : Nat} (ht : i < t) (h : stk P t = stk P i) : tau P m (stk P i) cs i + 1 ≤ tau P m (stk P t) cs t := by
  unfold tau
  rw [h]
  have h1 := pq_mono P (stk P i).head? (show i + 1 ≤ t by omega)
  rw [pq_S, wto_head] at h1
  omega
theorem tau_L {P : Nat → Int32} {m : Nat} {cs : List Nat} {i : Nat} (h1 : kd P i = 34) : tau P m (stk P (i + 1)) (nu P i :: cs) (i + 1) = tau P m (stk P i) cs i + 1 := by
  unfold tau
  rw [stk_L h1, base, Nat.sub_self, Nat.zero_mul]
  show base P m (stk P i) cs + pq P (stk P i).head? i + 1 + 0 + pq P (some i) (i + 1) = _
  rw [pq_0 P i (i + 1) (Nat.le_refl _)]
theorem pq_in {P : Nat → Int32} {m i a : Nat} {l : List Nat} (hs : stk P i = a :: l) (hi : i < m) : pq P (some a) i + 1 ≤ pq P (some a) m := by
  have h1 := pq_mono P (some a) (show i + 1 ≤ m by omega)
  have h2 := wto_head P (stk P i)
  rw [hs] at h2
  rw [pq_S, hs] at h1
  have h3 : wto P (some a) (a :: l) = 1 := h2
  omega
theorem tau_R {P : Nat → Int32} {m i a c : Nat} {l cs : List Nat} (hs : stk P i = a :: l) (hi : i < m) (hc : 2 ≤ c) (hn : c ≤ nu P a) : tau P m (a :: l) (c :: cs) i + 1 ≤ tau P m (a :: l) ((c - 1) :: cs) (a + 1) := by
  unfold tau
  have h1 := pq_in hs hi
  rw [base, base, show nu P a - (c - 1) = (nu P a - c) + 1 by omega, Nat.succ_mul]
  show base P m l cs + pq P l.head? a + 1 + (nu P a - c) * pq P (some a) m + pq P (some a) i + 1 ≤ base P m l cs + pq P l.head? a + 1 + ((nu P a - c) * pq P (some a) m + pq P (some a) m) + pq P (some a) (a + 1)
  omega
theorem pq_after {P : Nat → Int32} {a : Nat} : ∀ (r i : Nat), a < i → a ∉ stk P i → pq P (some a) (i + r) = pq P (some a) i := by
  intro r
  induction r with
  | zero => intro i _ _; rfl
  | succ r ih =>
    intro i h1 h2
    rw [← Nat.add_assoc, pq_S, ih i h1 h2]
    show _ + wtu P a (stk P (i + r)) = _
    rw [wtu_0 P a _ (stk_gone i (i + r) (by omega) h1 h2)]
    rfl
theorem tau_E {P : Nat → Int32} {m i a : Nat} {l cs : List Nat} (hs : stk P i = a :: l) (hi : i < m) (hk : kd P i = 35) (hn : 1 ≤ nu P a) : tau P m (a :: l) (1 :: cs) i + 1 ≤ tau P m (stk P (i + 1)) cs (i + 1) := by
  have hl := stk_cons i a l hs
  have ha : a < i := stk_lt (by rw [hs]; exact List.mem_cons_self)
  have hz := pq_Z (P := P) (a := a) (i - a)
  rw [show a + 1 + (i - a) = i + 1 by omega] at hz
  have hg : a ∉ stk P (i + 1) := by
    rw [stk_E hk, hs, List.tail_cons, hl]
    intro q
    have := stk_lt q
    omega
  have hm := pq_after (m - (i + 1)) (i + 1) (by omega) hg
  rw [show i + 1 + (m - (i + 1)) = m by omega] at hm
  have h2 := pq_S P (some a) i
  have h3 : wto P (some a) (stk P i) = 1 := by rw [hs]; exact wto_head P (a :: l)
  rw [h3] at h2
  have h4 : nu P a * pq P (some a) (i + 1) = (nu P a - 1) * pq P (some a) (i + 1) + pq P (some a) (i + 1) := by
    rw [← Nat.succ_mul, Nat.succ_eq_add_one, Nat.sub_add_cancel hn]
  unfold tau
  rw [stk_E hk, hs, List.tail_cons, base, hm]
  show base P m l cs + pq P l.head? a + 1 + (nu P a - 1) * pq P (some a) (i + 1) + pq P (some a) i + 1 ≤ base P m l cs + pq P l.head? (i + 1)
  rw [← hl] at hz
  omega
/-- counts: as many as loops, none above the loop's rounds -/
def okC (P : Nat → Int32) : List Nat → List Nat → Prop
  | [], [] => True
  | a :: l, c :: cs => 1 ≤ c ∧ c ≤ nu P a ∧ okC P l cs
  | _, _ => False
theorem base_Y {P : Nat → Int32} {m : Nat} : ∀ (l cs : List Nat) (a : Nat), stk P a = l → a < m → okC P l cs → base P m l cs + pq P l.head? a + 1 + nu P a * pq P (some a) m ≤ pq P none m := by
  intro l
  induction l with
  | nil =>
    intro cs a h1 h2 h3
    have hz := pq_Z (P := P) (a := a) (m - (a + 1))
    rw [show a + 1 + (m - (a + 1)) = m by omega, h1] at hz
    cases cs with
    | nil =>
      show 0 + pq P none a + 1 + nu P a * pq P (some a) m ≤ _
      have hz' : pq P none a + 1 + nu P a * pq P (some a) m ≤ pq P none m := hz
      omega
    | cons c cs => exact absurd h3 id
  | cons b l ih =>
    intro cs a h1 h2 h3
    have hz := pq_Z (P := P) (a := a) (m - (a + 1))
    rw [show a + 1 + (m - (a + 1)) = m by omega, h1] at hz
    have hba : b < a := stk_lt (by rw [h1]; exact List.mem_cons_self)
    have hl := stk_cons a b l h1
    cases cs with
    | nil => exact absurd h3 id
    | cons c cs =>
      obtain ⟨g1, g2, g3⟩ := h3
      have hb := ih cs b hl.symm (by omega) g3
      have hz' : pq P (some b) a + 1 + nu P a * pq P (some a) m ≤ pq P (some b) m := hz
      rw [base]
      show base P m l cs + pq P l.head? b + 1 + (nu P b - c) * pq P (some b) m + pq P (some b) a + 1 + nu P a * pq P (some a) m ≤ _
      have h4 : (nu P b - c) * pq P (some b) m + pq P (some b) m ≤ nu P b * pq P (some b) m := by
        rw [← Nat.succ_mul]
        exact Nat.mul_le_mul_right _ (by omega)
      omega
theorem tau_lt {P : Nat → Int32} {m : Nat} {cs : List Nat} {i : Nat} (hi : i < m) (hc : okC P (stk P i) cs) : tau P m (stk P i) cs i + 1 ≤ pq P none m := by
  unfold tau
  cases hs : stk P i with
  | nil =>
    rw [hs] at hc
    cases cs with
    | cons c cs => exact absurd hc id
    | nil =>
      show 0 + pq P none i + 1 ≤ _
      have h1 := pq_mono P none (show i + 1 ≤ m by omega)
      rw [pq_S, hs] at h1
      have : wto P none [] = 1 := rfl
      omega
  | cons a l =>
    rw [hs] at hc
    have hl := stk_cons i a l hs
    have ha : a < i := stk_lt (by rw [hs]; exact List.mem_cons_self)
    cases cs with
    | nil => exact absurd hc id
    | cons c cs =>
      obtain ⟨g1, g2, g3⟩ := hc
      have hb := base_Y (m := m) l cs a hl.symm (by omega) g3
      have h1 := pq_in hs hi
      rw [base]
      show base P m l cs + pq P l.head? a + 1 + (nu P a - c) * pq P (some a) m + pq P (some a) i + 1 ≤ _
      have h4 : (nu P a - c) * pq P (some a) m + pq P (some a) m ≤ nu P a * pq P (some a) m := by
        rw [← Nat.succ_mul]
        exact Nat.mul_le_mul_right _ (by omega)
      omega
theorem pq_sumw (P : Nat → Int32) : ∀ r i, pq P none i + sumw P i r = pq P none (i + r) := by
  intro r
  induction r with
  | zero => intro i; rfl
  | succ r ih =>
    intro i
    have h := ih (i + 1)
    rw [pq_S] at h
    rw [sumw, show i + (r + 1) = i + 1 + r by omega, ← h]
    show _ = pq P none i + wt P (stk P i) + _
    omega
