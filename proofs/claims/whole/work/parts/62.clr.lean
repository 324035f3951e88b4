/-! PURE PART 20: the run as a whole, both sides -/
/-- all zero below n -/
def clr (n : Nat) (F : Nat → Int32) : Nat → Int32 := fun k => if k < n then 0 else F k
theorem clr_upd (j : Nat) (F : Nat → Int32) : upd (clr j F) j 0 = clr (j + 1) F := by
  funext k
  by_cases h : k = j
  · subst h
    rw [pk_us]
    exact (if_pos (show k < k + 1 by omega)).symm
  · rw [pk_un h]
    unfold clr
    by_cases c : k < j
    · rw [if_pos c, if_pos (by omega)]
    · rw [if_neg c, if_neg (by omega)]
theorem clr_kept {j n : Nat} (h : j < n) (F : Nat → Int32) : upd (clr n F) j 0 = clr n F := by
  funext k
  by_cases c : k = j
  · subst c
    rw [pk_us]
    exact (if_pos h).symm
  · rw [pk_un c]
theorem clr_0 (F : Nat → Int32) : clr 0 F = F := by
  funext k
  exact if_neg (by omega)
theorem ar_fill5 (fu N : Nat) (hN : N < 2 ^ 31) (F : Nat → Int32) : ∀ (r j n : Nat), j + r = N → r < n → pf_Ar_fill_5 fu N n 0 (nI j) (nI N) (clr j F) = some (clr N F) := by
  intro r
  induction r with
  | zero =>
    intro j n h1 h2
    obtain ⟨n, rfl⟩ : ∃ z, n = z + 1 := ⟨n - 1, by omega⟩
    have : j = N := by omega
    subst this
    rw [pf_Ar_fill_5, if_pos (nI_le (Nat.le_refl _) hN)]
  | succ r ih =>
    intro j n h1 h2
    obtain ⟨n, rfl⟩ : ∃ z, n = z + 1 := ⟨n - 1, by omega⟩
    rw [pf_Ar_fill_5, if_neg (nI_ge (by omega) hN), if_pos (inN (by omega) hN), nI_clamp (by omega), clr_upd, p1n]
    exact ih (j + 1) n (by omega) (by omega)
theorem ve_clear (fu N : Nat) (hN : N < 2 ^ 31) (hf : N < fu) (F : Nat → Int32) : pf_Ve_clear fu N F = some (clr N F) := by
  have h := ar_fill5 fu N hN F N 0 fu (by omega) hf
  rw [clr_0] at h
  have h2 : pf_Ar_fill fu 0 N F = some (clr N F) := h
  unfold pf_Ve_clear
  rw [h2, Option.bind_some]
theorem m32 : ∀ j : Fin 64, nI j.1 - nI j.1 / (32 : Int32) * (32 : Int32) = nI (j.1 % 32) := by decide +kernel
theorem mo_clears (fu : Nat) (Q op I U M Tx left rd rs : Nat → Int32) (th kl told : Int32) (T O : Nat → Int32) : ∀ (r j n : Nat), j + r = 64 → r < n → pf_Mo_run_23 fu 64 32 768 Q 256 256 op 12 16 Tx 128 U 1024 M 4 32 I n (nI j) th kl told (clr j T) (clr (min j 32) O) left rd rs = pf_Mo_run_61 fu 64 32 768 Q 256 256 op 12 16 Tx 128 U 1024 M 4 32 I fu 0 0 th 0 told (clr 64 T) (clr 32 O) left rd rs := by
  intro r
  induction r with
  | zero =>
    intro j n h1 h2
    obtain ⟨n, rfl⟩ : ∃ z, n = z + 1 := ⟨n - 1, by omega⟩
    have : j = 64 := by omega
    subst this
    rw [pf_Mo_run_23, if_pos (show (64 : Int32) ≤ nI 64 from by decide), show min 64 32 = 32 from rfl]
  | succ r ih =>
    intro j n h1 h2
    obtain ⟨n, rfl⟩ : ∃ z, n = z + 1 := ⟨n - 1, by omega⟩
    have hj : j < 64 := by omega
    have hm := m32 ⟨j, hj⟩
    dsimp only at hm
    rw [pf_Mo_run_23, ite_Kle (a := j) (K := 64) 64 rfl (by omega) (by decide), if_neg (by omega), if_pos (inN (n := 64) hj (by decide)), hm, if_pos (inN (n := 32) (Nat.mod_lt _ (by decide)) (by decide)), nI_clamp (by omega), nI_clamp (by omega), clr_upd, p1n]
    have ho : upd (clr (min j 32) O) (j % 32) 0 = clr (min (j + 1) 32) O := by
      by_cases c : j < 32
      · rw [show min j 32 = j by omega, show j % 32 = j by omega, show min (j + 1) 32 = j + 1 by omega, clr_upd]
      · rw [show min j 32 = 32 by omega, show min (j + 1) 32 = 32 by omega, clr_kept (Nat.mod_lt _ (by decide))]
    rw [ho]
    exact ih (j + 1) n (by omega) (by omega)
section RUN
variable (fu : Nat) (P Q op N I U M Tx T O vc vb va f res left rd rs : Nat → Int32) (g f2 : Nat → Int64) (pl kl d told : Int32)
theorem rn_no : pf_La_run fu 0 pl kl 16 64 T 8 32 O d 768 P 0 4 vc 0 N 8 32 I 32 128 U 4 vb 4 va 4 f 4 g 4 res 1024 M 4 16 Tx 1 f2 = some (1, pl, kl, T, O, d, vc, vb, va, f, g, res, f2) ∧ pf_Mo_run fu 0 told kl 64 T 32 O 768 Q 256 left 256 op 12 rd 16 Tx 128 U 1024 M 4 rs 32 I = some (0, 1, kl, told, T, O, left, rd, rs) := by
  constructor
  · unfold pf_La_run pf_SM_run
    rw [show pf_Pr_isEmpty 0 = some 1 from rfl, Option.bind_some, if_neg (by decide)]
    rfl
  · unfold pf_Mo_run
    rw [if_pos rfl, mo_ref1]
    rfl
theorem rn_yes (hf : 70000 < fu) {m : Nat} (hG : Good P Q m op) : ∃ r pl' kl' T' O' d' vc' vb' va' f' g' res' told' left' rd' rs', (kl' = 0 ∨ kl' = 1) ∧ pf_La_run fu (nI m) pl kl 16 64 T 8 32 O d 768 P 0 4 vc 0 N 8 32 I 32 128 U 4 vb 4 va 4 f 4 g 4 res 1024 M 4 16 Tx 1 f2 = some (0, pl', kl', T', O', d', vc', vb', va', f', g', res', vp_updL f2 0 (Int32.toInt64 r)) ∧ pf_Mo_run fu 1 told kl 64 T 32 O 768 Q 256 left 256 op 12 rd 16 Tx 128 U 1024 M 4 rs 32 I = some (r, 0, kl', told', T', O', left', rd', rs') := by
  have hm1 := hG.1
  have hm := hG.2.1
  have h65 := hG.2.2.2.1
  have hps := pq_sumw P m 0
  rw [Nat.zero_add] at hps
  have hp0 : pq P none 0 = 0 := rfl
  have hs : stk P 0 = [] := rfl
  have hb := rn_both fu P Q op N I U M Tx (by omega) hG 0 (pq P none m) 0 0 fu fu [] (clr 64 T) (clr 32 O) vc vb va f res left rd rs g 0 0 told (Or.inl rfl) (by omega) (by rw [hs]; exact Rep.nil f g) (by rw [hs]; trivial) (by rw [hs]; trivial) (Nat.zero_le _) (Nat.le_add_left _ _) (by omega) (by omega)
  obtain ⟨dn', pl', kl', vc', T', vb', va', d', f', g', res', O', told', left', rd', rs', ek, e1, e2⟩ := hb
  refine ⟨nI dn', pl', kl', T', O', d', vc', vb', va', f', g', res', told', left', rd', rs', ek, ?_, ?_⟩
  · have h1 : pf_Pr_isEmpty (nI m) = some 0 := by
      unfold pf_Pr_isEmpty
      rw [if_neg (nI_ne0 hm1 (by omega))]
    have h2 : pf_Ru_perform fu 16 64 T 8 32 O (nI m) 768 P 0 4 vc 0 N 8 32 I 32 128 U 4 vb 4 va 4 f 4 g 4 res 1024 M 4 16 Tx = some (nI dn', pl', kl', T', O', d', vc', vb', va', f', g', res') := by
      unfold pf_Ru_perform
      rw [ve_clear fu 64 (by decide) (by omega), Option.bind_some, ve_clear fu 32 (by decide) (by omega), Option.bind_some]
      exact e1
    unfold pf_La_run pf_SM_run
    rw [h1, Option.bind_some, if_pos rfl, h2]
    rfl
  · have h3 := mo_clears fu Q op I U M Tx left rd rs 0 kl told T O 64 0 fu (by omega) (by omega)
    rw [show min 0 32 = 0 from rfl, clr_0, clr_0] at h3
    unfold pf_Mo_run
    rw [if_neg (by decide), mo_ref0]
    exact h3.trans e2
end RUN
