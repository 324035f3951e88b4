/-! PURE PART 17: one step of the run, both sides -/
/-- the counts that the reference keeps -/
def LR (left : Nat → Int32) : List Nat → List Nat → Prop
  | [], [] => True
  | a :: l, c :: cs => left a = nI c ∧ LR left l cs
  | _, _ => False
theorem LR_upd {left : Nat → Int32} {a : Nat} {x : Int32} : ∀ (l cs : List Nat), (∀ b ∈ l, b ≠ a) → LR left l cs → LR (upd left a x) l cs := by
  intro l
  induction l with
  | nil => intro cs _ h; cases cs with
    | nil => trivial
    | cons c cs => exact absurd h id
  | cons b l ih =>
    intro cs hb h
    cases cs with
    | nil => exact absurd h id
    | cons c cs => exact ⟨by rw [pk_un (hb b List.mem_cons_self)]; exact h.1, ih cs (fun q hq => hb q (List.mem_cons_of_mem _ hq)) h.2⟩
theorem sfrom_none {P : Nat → Int32} : ∀ (r i : Nat), sfrom P i r = none → ∀ k, i ≤ k → k < i + r → (kd P k = 36 ∨ kd P k = 37) → ent (stk P k) 0 = ent (stk P (nu P k)) 0 := by
  intro r
  induction r with
  | zero => intro i _ k h1 h2; omega
  | succ r ih =>
    intro i h k h1 h2 hk
    rw [sfrom] at h
    by_cases c : (kd P i = 36 ∨ kd P i = 37) ∧ ent (stk P i) 0 ≠ ent (stk P (nu P i)) 0
    · rw [if_pos c] at h; cases h
    · rw [if_neg c] at h
      by_cases e : k = i
      · subst e
        exact Classical.byContradiction fun q => c ⟨hk, q⟩
      · exact ih (i + 1) h k (by omega) (by omega) hk
theorem ent_stk {P : Nat → Int32} {i j : Nat} (hi : i ≤ 256) (hj : j ≤ 256) (h : ent (stk P i) 0 = ent (stk P j) 0) : stk P j = stk P i := by
  cases h1 : stk P i with
  | nil =>
    cases h2 : stk P j with
    | nil => rfl
    | cons b l =>
      rw [h1, h2] at h
      have hb : b < j := stk_lt (by rw [h2]; exact List.mem_cons_self)
      have h' : (-1 : Int32) = nI b := h
      exact absurd (show nI b < 0 by rw [← h']; decide) (nI_pos (by omega))
  | cons a l =>
    have ha : a < i := stk_lt (by rw [h1]; exact List.mem_cons_self)
    cases h2 : stk P j with
    | nil =>
      rw [h1, h2] at h
      have h' : nI a = (-1 : Int32) := h
      exact absurd (show nI a < 0 by rw [h']; decide) (nI_pos (by omega))
    | cons b l' =>
      have hb : b < j := stk_lt (by rw [h2]; exact List.mem_cons_self)
      rw [h1, h2] at h
      have h' : nI a = nI b := h
      have e := (nI_eq (by omega) (by omega)).mp h'
      subst e
      rw [stk_cons i a l h1, stk_cons j a l' h2]
def EndB (X : Option (Int32 × Int32 × Int32 × (Nat → Int32) × (Nat → Int32) × (Nat → Int32) × (Nat → Int32) × Int32 × (Nat → Int32) × (Nat → Int64) × (Nat → Int32) × (Nat → Int32))) (Yn : Nat → Option (Int32 × Int32 × Int32 × Int32 × (Nat → Int32) × (Nat → Int32) × (Nat → Int32) × (Nat → Int32) × (Nat → Int32))) (dn : Nat) (th : Int32) : Prop :=
  ∃ pl' kl' vc' T' vb' va' d' f' g' res' O' told' left' rd' rs', (kl' = 0 ∨ kl' = 1) ∧ X = some (0, pl', kl', vc', T', vb', va', d', f', g', res', O') ∧ ∀ n, Yn (n + 1) = some (nI (dn + 1), th, kl', told', T', O', left', rd', rs')
def GoB (P : (Nat → Int32)) (m : Nat) (X : Option (Int32 × Int32 × Int32 × (Nat → Int32) × (Nat → Int32) × (Nat → Int32) × (Nat → Int32) × Int32 × (Nat → Int32) × (Nat → Int64) × (Nat → Int32) × (Nat → Int32))) (Yn : Nat → Option (Int32 × Int32 × Int32 × Int32 × (Nat → Int32) × (Nat → Int32) × (Nat → Int32) × (Nat → Int32) × (Nat → Int32))) (Yf : Nat → Int32 → Int32 → Int32 → Int32 → Int32 → (Nat → Int32) → (Nat → Int32) → (Nat → Int32) → (Nat → Int32) → (Nat → Int32) → Option (Int32 × Int32 × Int32 × Int32 × (Nat → Int32) × (Nat → Int32) × (Nat → Int32) × (Nat → Int32) × (Nat → Int32))) (dn : Nat) (th : Int32) (t0 : Nat) : Prop :=
  ∃ i' cs' kl' vc' T' vb' va' d' f' g' res' O' told' left' rd' rs', (kl' = 0 ∨ kl' = 1) ∧ X = some (1, nI i', kl', vc', T', vb', va', d', f', g', res', O') ∧ (∀ n, Yn (n + 1) = Yf n (nI (dn + 1)) (nI i') th kl' told' T' O' left' rd' rs') ∧ i' < m ∧ Rep d' f' g' (stk P i') cs' ∧ LR left' (stk P i') cs' ∧ okC P (stk P i') cs' ∧ t0 + 1 ≤ tau P m (stk P i') cs' i'
section STEP
variable (fu : Nat) (P Q op N I U M Tx : Nat → Int32)
theorem rf_take (hf : 768 < fu) {i : Nat} (hi : i < 256) (ho : ∀ j, j < 3 → okS (src3 Q i j)) (T rd : Nat → Int32) :
    ∃ rd', (∀ t, t < 3 → ∀ j, j < 4 → rd' (4 * t + j) = val (src3 Q i t) T I U j) ∧ ∀ n (dn : Nat) (th kl told : Int32) (O left rs : Nat → Int32), (pf_Mo_run_61 fu 64 32 768 Q 256 256 op 12 16 Tx 128 U 1024 M 4 32 I) (n + 1) (nI dn) (nI i) th kl told T O left rd rs = pf_Mo_run_76 fu 64 32 768 Q 256 256 op 12 16 Tx 128 U 1024 M 4 32 I ((pf_Mo_run_61 fu 64 32 768 Q 256 256 op 12 16 Tx 128 U 1024 M 4 32 I) n) (fu - 3) (nI (dn + 1)) (nI i) (nI (kd Q i)) (nI 3) th kl told T O left rd' rs := by
  obtain ⟨z, rfl⟩ : ∃ z, fu = z + 4 := ⟨fu - 4, by omega⟩
  obtain ⟨r1, e1, v1, -⟩ := mo_take (z + 4) T I U rd (src3_lt Q i 0) (show 0 < 3 by decide) (ho 0 (by decide)) hf
  obtain ⟨r2, e2, v2, k2⟩ := mo_take (z + 4) T I U r1 (src3_lt Q i 1) (show 1 < 3 by decide) (ho 1 (by decide)) hf
  obtain ⟨r3, e3, v3, k3⟩ := mo_take (z + 4) T I U r2 (src3_lt Q i 2) (show 2 < 3 by decide) (ho 2 (by decide)) hf
  refine ⟨r3, fun t ht j hj => ?_, fun n dn th kl told O left rs => ?_⟩
  · have hq : t = 0 ∨ t = 1 ∨ t = 2 := by omega
    rcases hq with rfl | rfl | rfl
    · rw [k3 _ (by omega), k2 _ (by omega), v1 j hj]
    · rw [k3 _ (by omega), v2 j hj]
    · exact v3 j hj
  · rw [pf_Mo_run_61, mo_kind Q hi, p1n]
    simp only [Option.bind_some]
    rw [show (z + 4 - 3) = z + 1 by omega]
    show pf_Mo_run_76 (z + 4) 64 32 768 Q 256 256 op 12 16 Tx 128 U 1024 M 4 32 I _ (z + 3 + 1) _ _ _ (nI 0) th kl told T O left rd rs = _
    rw [pf_Mo_run_76, if_neg (by decide), mo_srcOf Q hi (show 0 < 3 by decide)]
    simp only [Option.bind_some]
    rw [e1]
    simp only [Option.bind_some]
    rw [p1n]
    show pf_Mo_run_76 (z + 4) 64 32 768 Q 256 256 op 12 16 Tx 128 U 1024 M 4 32 I _ (z + 2 + 1) _ _ _ (nI 1) th kl told T O left r1 rs = _
    rw [pf_Mo_run_76, if_neg (by decide), mo_srcOf Q hi (show 1 < 3 by decide)]
    simp only [Option.bind_some]
    rw [e2]
    simp only [Option.bind_some]
    rw [p1n]
    show pf_Mo_run_76 (z + 4) 64 32 768 Q 256 256 op 12 16 Tx 128 U 1024 M 4 32 I _ (z + 1 + 1) _ _ _ (nI 2) th kl told T O left r2 rs = _
    rw [pf_Mo_run_76, if_neg (by decide), mo_srcOf Q hi (show 2 < 3 by decide)]
    simp only [Option.bind_some]
    rw [e3]
    simp only [Option.bind_some]
    rw [p1n]
end STEP
