/-! PURE PART 9: programs that agree; reading and loading -/
section AG
variable {P Q : Nat → Int32} {m : Nat} (h : ∀ k, k < 3 * m → P k = Q k)
theorem ag_kd {i : Nat} (hi : i < m) (h : ∀ k, k < 3 * m → P k = Q k) : kd P i = kd Q i := by unfold kd; rw [h _ (by omega)]
theorem ag_nu {i : Nat} (hi : i < m) (h : ∀ k, k < 3 * m → P k = Q k) : nu P i = nu Q i := by unfold nu; rw [h _ (by omega)]
theorem ag_stk (h : ∀ k, k < 3 * m → P k = Q k) : ∀ i, i ≤ m → stk P i = stk Q i := by
  intro i
  induction i with
  | zero => intro _; rfl
  | succ i ih =>
    intro hi
    rw [stk, stk, ag_kd (by omega) h, ih (by omega)]
theorem ag_flt (h : ∀ k, k < 3 * m → P k = Q k) (pl : Int32) {i : Nat} (hi : i < m) : flt P m pl i = flt Q m pl i := by
  unfold flt
  rw [ag_kd hi h, ag_nu hi h, ag_stk h i (by omega), h _ (by omega), h _ (by omega), h _ (by omega)]
theorem ag_ffrom (h : ∀ k, k < 3 * m → P k = Q k) (pl : Int32) : ∀ r i, i + r = m → ffrom P m pl i r = ffrom Q m pl i r := by
  intro r
  induction r with
  | zero => intro i _; rfl
  | succ r ih =>
    intro i hi
    rw [ffrom, ffrom, ag_flt h pl (by omega), ih (i + 1) (by omega)]
theorem ag_wt (h : ∀ k, k < 3 * m → P k = Q k) : ∀ l : List Nat, (∀ a ∈ l, a < m) → wt P l = wt Q l := by
  intro l
  induction l with
  | nil => intro _; rfl
  | cons a l ih =>
    intro q
    rw [wt, wt, ag_nu (q a List.mem_cons_self) h, ih fun b hb => q b (List.mem_cons_of_mem _ hb)]
theorem ag_sumw (h : ∀ k, k < 3 * m → P k = Q k) : ∀ r i, i + r = m → sumw P i r = sumw Q i r := by
  intro r
  induction r with
  | zero => intro i _; rfl
  | succ r ih =>
    intro i hi
    rw [sumw, sumw, ih (i + 1) (by omega), ag_stk h i (by omega), ag_wt h _ fun a ha => by have := stk_lt ha; omega]
theorem ag_sfrom (h : ∀ k, k < 3 * m → P k = Q k) {pl : Int32} (h0 : ∀ k, k < m → flt P m pl k = 0) : ∀ r i, i + r = m → sfrom P i r = sfrom Q i r := by
  intro r
  induction r with
  | zero => intro i _; rfl
  | succ r ih =>
    intro i hi
    rw [sfrom, sfrom, ih (i + 1) (by omega), ← ag_kd (P := P) (show i < m by omega) h, ← ag_stk (P := P) h i (by omega)]
    by_cases c : kd P i = 36 ∨ kd P i = 37
    · have hg := goes_nu (h0 i (by omega)) c
      rw [← ag_nu (P := P) (show i < m by omega) h, ← ag_stk (P := P) h (nu P i) (by omega)]
    · rw [if_neg (fun q => c q.1), if_neg (fun q => c q.1)]
theorem ag_chk (h : ∀ k, k < 3 * m → P k = Q k) (pl : Int32) : chk P m pl = chk Q m pl := by
  unfold chk
  rw [ag_ffrom h pl m 0 (by omega), ag_stk h m (Nat.le_refl _)]
  cases hff : ffrom Q m pl 0 m with
  | some j =>
    have hj : j < m := by
      have : ∀ r i, ffrom Q m pl i r = some j → j < i + r := by
        intro r
        induction r with
        | zero => intro i q; cases q
        | succ r ih =>
          intro i q
          rw [ffrom] at q
          by_cases c : flt Q m pl i = 0
          · rw [if_pos c] at q; have := ih (i + 1) q; omega
          · rw [if_neg c] at q; cases q; omega
      have := this m 0 hff
      omega
    dsimp only
    rw [ag_flt h pl hj]
  | none =>
    have hall : ∀ k, k < m → flt P m pl k = 0 := fun k hk => by rw [ag_flt h pl hk]; exact ffrom_none m 0 hff k (Nat.zero_le _) (by omega)
    dsimp only
    unfold endc
    rw [ag_sfrom h hall m 0 (by omega), ag_sumw h m 0 (by omega)]
end AG
theorem st_word (M : Nat → Int32) {j : Nat} (hj : j < 1024) : pf_St_word (nI j) 1024 M = some (M j) := by
  unfold pf_St_word pf_St_hasWord
  rw [if_neg (nI_pos (by omega)), if_neg (by rw [show (1024 : Int32) = nI 1024 from rfl]; exact nI_ge hj (by omega))]
  simp only [Option.bind_some]
  rw [if_neg (by decide), if_pos (inN hj (by decide)), nI_clamp (by omega)]
theorem pr_read18 (fu : Nat) (M : Nat → Int32) {fr m : Nat} (hfm : fr + 3 * m ≤ 1024) (hm : m ≤ 256) : ∀ (r j n : Nat) (w : Nat → Int32), j + r = 3 * m → r < n → ∃ w', pf_Pr_read_18 fu 1024 M 768 n (nI fr) (nI j) (nI m) w = some (nI m, w') ∧ (∀ k, j ≤ k → k < 3 * m → w' k = M (fr + k)) ∧ ∀ k, k < j → w' k = w k := by
  intro r
  induction r with
  | zero =>
    intro j n w h1 h2
    obtain ⟨n, rfl⟩ : ∃ z, n = z + 1 := ⟨n - 1, by omega⟩
    refine ⟨w, ?_, fun k h3 h4 => by omega, fun k _ => rfl⟩
    rw [pf_Pr_read_18, n3, if_pos (nI_le (by omega) (by omega))]
  | succ r ih =>
    intro j n w h1 h2
    obtain ⟨n, rfl⟩ : ∃ z, n = z + 1 := ⟨n - 1, by omega⟩
    obtain ⟨w', e1, e2, e3⟩ := ih (j + 1) n (upd w j (M (fr + j))) (by omega) (by omega)
    refine ⟨w', ?_, fun k h3 h4 => ?_, fun k h3 => ?_⟩
    · rw [pf_Pr_read_18, n3, if_neg (nI_ge (by omega) (by omega)), nI_add, st_word M (by omega)]
      simp only [Option.bind_some]
      rw [if_pos (inN (by omega) (by decide)), nI_clamp (by omega), p1n]
      exact e1
    · by_cases c : k = j
      · subst c
        rw [e3 k (by omega), pk_us]
      · exact e2 k (by omega) h4
    · rw [e3 k (by omega), pk_un (by omega)]
theorem ma_minN {a b : Nat} (ha : a < 2 ^ 31) (hb : b < 2 ^ 31) (h : b ≤ a) : pf_Ma_min (nI a) (nI b) = some (nI b) := by
  unfold pf_Ma_min
  rw [ite_ltK (a := b) (K := nI a) a rfl hb ha]
  by_cases c : b < a
  · rw [if_pos c]
  · rw [if_neg c, show a = b by omega]
theorem ma_maxN {a b : Nat} (ha : a < 2 ^ 31) (hb : b < 2 ^ 31) (h : a ≤ b) : pf_Ma_max (nI a) (nI b) = some (nI b) := by
  unfold pf_Ma_max
  rw [ite_ltK (a := a) (K := nI b) b rfl ha hb]
  by_cases c : a < b
  · rw [if_pos c]
  · rw [if_neg c, show a = b by omega]
theorem pr_read (fu : Nat) (M : Nat → Int32) {fr m : Nat} (hfm : fr + 3 * m ≤ 1024) (hm : m ≤ 256) (hf : 768 < fu) (w : Nat → Int32) : ∃ w', pf_Pr_read fu (nI fr) (nI m) 1024 M 768 w = some (nI m, w') ∧ ∀ k, k < 3 * m → w' k = M (fr + k) := by
  obtain ⟨w', e1, e2, -⟩ := pr_read18 fu M hfm hm (3 * m) 0 fu w (by omega) (by omega)
  refine ⟨w', ?_, fun k hk => e2 k (Nat.zero_le _) hk⟩
  unfold pf_Pr_read
  have h1 : pf_Ma_min (256 : Int32) (nI m) = some (nI m) := ma_minN (a := 256) (by decide) (by omega) hm
  have h2 : pf_Ma_max (0 : Int32) (nI m) = some (nI m) := ma_maxN (a := 0) (by decide) (by omega) (Nat.zero_le _)
  rw [h1]
  simp only [Option.bind_some]
  rw [h2]
  simp only [Option.bind_some]
  exact e1
theorem mo_load128 (fu : Nat) (Q : Nat → Int32) {m : Nat} (hm : m ≤ 256) (hf : 768 < fu) (th hp fo po : Int32) (fresh : Nat → Int32) : ∀ (r i n : Nat) (op : Nat → Int32), i + r = m → r < n → ∃ op', pf_Mo_load_128 fu 768 256 n (nI m) (nI i) th hp fo po fresh Q op = some ((lN (sumw Q 0 m)).toInt32, th, 1, fo, po, fresh, Q, op') ∧ (∀ k, i ≤ k → k < m → op' k = ent (stk Q k) 0) ∧ ∀ k, k < i → op' k = op k := by
  intro r
  induction r with
  | zero =>
    intro i n op h1 h2
    obtain ⟨n, rfl⟩ : ∃ z, n = z + 1 := ⟨n - 1, by omega⟩
    have : i = m := by omega
    subst this
    refine ⟨op, ?_, fun k h3 h4 => by omega, fun k _ => rfl⟩
    rw [pf_Mo_load_128, if_pos (nI_le (Nat.le_refl _) (by omega)), mo_steps fu Q (by omega) hm]
    rfl
  | succ r ih =>
    intro i n op h1 h2
    obtain ⟨n, rfl⟩ : ∃ z, n = z + 1 := ⟨n - 1, by omega⟩
    obtain ⟨op', e1, e2, e3⟩ := ih (i + 1) n (upd op i (ent (stk Q i) 0)) (by omega) (by omega)
    refine ⟨op', ?_, fun k h3 h4 => ?_, fun k h3 => ?_⟩
    · rw [pf_Mo_load_128, if_neg (nI_ge (by omega) (by omega)), mo_around fu Q (by omega) (by omega)]
      simp only [Option.bind_some]
      rw [if_pos (inN (by omega) (by decide)), nI_clamp (by omega), p1n]
      exact e1
    · by_cases c : k = i
      · subst c; rw [e3 k (by omega), pk_us]
      · exact e2 k (by omega) h4
    · rw [e3 k (by omega), pk_un (by omega)]
theorem mo_load97 (fu : Nat) {m : Nat} (hm : m ≤ 256) (th hp fo po : Int32) (fresh op : Nat → Int32) : ∀ (r j n : Nat) (Q : Nat → Int32), j + r = 3 * m → r < n → ∃ Q', pf_Mo_load_97 fu 768 768 256 n (nI m) (nI j) th hp fo po fresh Q op = pf_Mo_load_128 fu 768 256 fu (nI m) 0 th hp fo po fresh Q' op ∧ (∀ k, j ≤ k → k < 3 * m → Q' k = fresh k) ∧ ∀ k, k < j → Q' k = Q k := by
  intro r
  induction r with
  | zero =>
    intro j n Q h1 h2
    obtain ⟨n, rfl⟩ : ∃ z, n = z + 1 := ⟨n - 1, by omega⟩
    refine ⟨Q, ?_, fun k h3 h4 => by omega, fun k _ => rfl⟩
    rw [pf_Mo_load_97, n3, if_pos (nI_le (by omega) (by omega))]
  | succ r ih =>
    intro j n Q h1 h2
    obtain ⟨n, rfl⟩ : ∃ z, n = z + 1 := ⟨n - 1, by omega⟩
    obtain ⟨Q', e1, e2, e3⟩ := ih (j + 1) n (upd Q j (fresh j)) (by omega) (by omega)
    refine ⟨Q', ?_, fun k h3 h4 => ?_, fun k h3 => ?_⟩
    · rw [pf_Mo_load_97, n3, if_neg (nI_ge (by omega) (by omega)), if_pos (inN (by omega) (by decide)), if_pos (inN (by omega) (by decide)), nI_clamp (by omega), p1n]
      exact e1
    · by_cases c : k = j
      · subst c; rw [e3 k (by omega), pk_us]
      · exact e2 k (by omega) h4
    · rw [e3 k (by omega), pk_un (by omega)]
theorem mo_load44 (fu : Nat) (M : Nat → Int32) {fr m : Nat} (pl : Int32) (hfm : fr + 3 * m ≤ 1024) (hm : m ≤ 256) (hf : 768 < fu) (th hp fo po : Int32) (Q op : Nat → Int32) : ∀ (r j n : Nat) (fresh : Nat → Int32), j + r = 3 * m → r < n → ∃ fresh', pf_Mo_load_44 fu 768 1024 M 768 256 n (nI fr) (nI m) pl (nI j) th hp fo po fresh Q op =
      (if (chk fresh' m pl).1 ≤ 0 then pf_Mo_load_97 fu 768 768 256 fu (nI m) 0 th hp (chk fresh' m pl).1 (chk fresh' m pl).2 fresh' Q op else some (0, 2, hp, (chk fresh' m pl).1, (chk fresh' m pl).2, fresh', Q, op)) ∧ (∀ k, j ≤ k → k < 3 * m → fresh' k = M (fr + k)) ∧ ∀ k, k < j → fresh' k = fresh k := by
  intro r
  induction r with
  | zero =>
    intro j n fresh h1 h2
    obtain ⟨n, rfl⟩ : ∃ z, n = z + 1 := ⟨n - 1, by omega⟩
    refine ⟨fresh, ?_, fun k h3 h4 => by omega, fun k _ => rfl⟩
    rw [pf_Mo_load_44, n3, if_pos (nI_le (by omega) (by omega)), mo_check fu fresh pl hm (by omega)]
    rfl
  | succ r ih =>
    intro j n fresh h1 h2
    obtain ⟨n, rfl⟩ : ∃ z, n = z + 1 := ⟨n - 1, by omega⟩
    obtain ⟨f', e1, e2, e3⟩ := ih (j + 1) n (upd fresh j (M (fr + j))) (by omega) (by omega)
    refine ⟨f', ?_, fun k h3 h4 => ?_, fun k h3 => ?_⟩
    · rw [pf_Mo_load_44, n3, if_neg (nI_ge (by omega) (by omega)), nI_add, if_pos (inN (by omega) (by decide)), if_pos (inN (by omega) (by decide)), nI_clamp (by omega), nI_clamp (by omega), p1n]
      exact e1
    · by_cases c : k = j
      · subst c; rw [e3 k (by omega), pk_us]
      · exact e2 k (by omega) h4
    · rw [e3 k (by omega), pk_un (by omega)]
