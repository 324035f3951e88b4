/-! PURE PART 18: one step of the run, kind by kind -/
theorem okS_all {P : Nat → Int32} {m i : Nat} {pl : Int32} (h0 : flt P m pl i = 0) : ∀ j, j < 3 → okS (src3 P i j) := by
  intro j hj
  have h := (flt_0 h0).2.2.1
  unfold badSs at h
  simp only [Bool.or_eq_false_iff] at h
  have hq : j = 0 ∨ j = 1 ∨ j = 2 := by omega
  rcases hq with rfl | rfl | rfl
  · exact okS_of h.1.1.1
  · exact okS_of h.1.1.2
  · exact okS_of h.1.2
theorem ag_src {P Q : Nat → Int32} {m i : Nat} (hi : i < m) (h : ∀ k, k < 3 * m → P k = Q k) (j : Nat) : src3 P i j = src3 Q i j := by
  unfold src3
  rw [h _ (by omega), h _ (by omega)]
theorem er_more {d : Int32} {f : Nat → Int32} {g : Nat → Int64} {a c : Nat} {l cs : List Nat} (hr : Rep d f g (a :: l) (c :: cs)) (hc : 2 ≤ c) (hb : c < 2 ^ 31) (x : Int32) : ∃ g', pf_Ru_endRound x d 4 g 4 f = some (nI (a + 1), d, g') ∧ Rep d f g' (a :: l) ((c - 1) :: cs) := by
  obtain ⟨g', e1, e2⟩ := lo_setCount hr (c - 1)
  refine ⟨g', ?_, e2⟩
  unfold pf_Ru_endRound
  rw [lo_count hr, Option.bind_some]
  have h1 : lN ((c :: cs).headD 1) - (1 : Int64) = lN (c - 1) := lN_sub (a := c) (b := 1) (by omega)
  have h2 : ¬ lg_cmp (lN (c - 1)) 0 ≤ 0 := fun h => by
    have := (lN_le (a := c - 1) (b := 0) (by omega) (by decide)).mp ((lg_cmp_le _ _).mp h)
    omega
  rw [h1, if_neg h2, e1, Option.bind_some, lo_innermost hr, Option.bind_some]
  show some (nI a + 1, d, g') = _
  rw [p1n]
theorem er_last {d : Int32} {f : Nat → Int32} {g : Nat → Int64} {a : Nat} {l cs : List Nat} (hr : Rep d f g (a :: l) (1 :: cs)) (x : Int32) : ∃ d', pf_Ru_endRound x d 4 g 4 f = some (x, d', g) ∧ Rep d' f g l cs := by
  obtain ⟨d', e1, e2⟩ := lo_close hr
  refine ⟨d', ?_, e2⟩
  unfold pf_Ru_endRound
  rw [lo_count hr, Option.bind_some]
  have h1 : lN ((1 :: cs).headD 1) - (1 : Int64) = lN 0 := by
    show lN 1 - (1 : Int64) = lN 0
    decide +kernel
  have h2 : lg_cmp (lN 0) 0 ≤ 0 := by decide +kernel
  rw [h1, if_pos h2, e1, Option.bind_some]
section STEP2
variable (fu : Nat) (P Q op N I U M Tx : Nat → Int32)
theorem st_end (hf : 768 < fu) {m i : Nat} {pl : Int32} (hi : i < m) (hm : m ≤ 256) (hPQ : ∀ k, k < 3 * m → P k = Q k) (h0 : flt P m pl i = 0) {T O vc vb va f res left rd rs : Nat → Int32} {g : Nat → Int64} {kl d th told : Int32} {dn : Nat} (e : kd P i = 0) (hkl : kl = 0 ∨ kl = 1) : EndB (pf_Ru_step fu (nI i) kl (nI m) 768 P 0 4 vc 0 N 16 64 T 8 32 I 32 128 U 4 vb 4 va d 4 f 4 g 4 res 1024 M 4 16 Tx 8 32 O) (fun n => (pf_Mo_run_61 fu 64 32 768 Q 256 256 op 12 16 Tx 128 U 1024 M 4 32 I) n (nI dn) (nI i) th kl told T O left rd rs) dn th := by
  have hk := kd_lt P i
  have hn := nu_lt P i
  have hkQ := ag_kd hi hPQ
  have hnQ := ag_nu hi hPQ
  obtain ⟨z, hz⟩ : ∃ z, fu - 3 = z + 1 := ⟨fu - 4, by omega⟩
  obtain ⟨vc', vb', va', es, ha, hb, hcc⟩ := ru_srcs fu P T I U N va vb vc hi hm (srcs_le _ hk) (okS_all h0) hf
  obtain ⟨rd', hrd, er⟩ := rf_take fu Q op I U M Tx hf (show i < 256 by omega) (fun j hj => by rw [← ag_src hi hPQ]; exact okS_all h0 j hj) T rd
  refine ⟨nI i + 1, kl, vc', T, vb', va', d, f, g, res, O, nI (nu P i), left, rd', rs, hkl, ?_, fun n => ?_⟩
  · unfold pf_Ru_step
    rw [pr_kind P hi hm, pr_number P hi hm]
    simp only [Option.bind_some]
    rw [ki_sources _ hk]
    simp only [Option.bind_some]
    rw [es]
    simp only [Option.bind_some]
    rw [e, if_pos (show nI 0 = 0 from rfl)]
  · show (pf_Mo_run_61 fu 64 32 768 Q 256 256 op 12 16 Tx 128 U 1024 M 4 32 I) (n + 1) (nI dn) (nI i) th kl told T O left rd rs = _
    rw [er, hz, pf_Mo_run_76, if_pos (by decide), mo_num Q (by omega), Option.bind_some, ← hkQ, e, if_pos (show nI 0 = 0 from rfl), hnQ]
theorem st_loop (hf : 768 < fu) {m i : Nat} {pl : Int32} (hi : i < m) (hm : m ≤ 256) (hPQ : ∀ k, k < 3 * m → P k = Q k) (h0 : flt P m pl i = 0) {T O vc vb va f res left rd rs : Nat → Int32} {g : Nat → Int64} {kl d th told : Int32} {dn : Nat} {cs : List Nat} (hr : Rep d f g (stk P i) cs) (hl : LR left (stk P i) cs) (hc : okC P (stk P i) cs) (hm2 : i + 1 < m) (e : kd P i = 34) (hkl : kl = 0 ∨ kl = 1) : GoB P m (pf_Ru_step fu (nI i) kl (nI m) 768 P 0 4 vc 0 N 16 64 T 8 32 I 32 128 U 4 vb 4 va d 4 f 4 g 4 res 1024 M 4 16 Tx 8 32 O) (fun n => (pf_Mo_run_61 fu 64 32 768 Q 256 256 op 12 16 Tx 128 U 1024 M 4 32 I) n (nI dn) (nI i) th kl told T O left rd rs) (pf_Mo_run_61 fu 64 32 768 Q 256 256 op 12 16 Tx 128 U 1024 M 4 32 I) dn th (tau P m (stk P i) cs i) := by
  have hk := kd_lt P i
  have hn := nu_lt P i
  have hkQ := ag_kd hi hPQ
  have hnQ := ag_nu hi hPQ
  obtain ⟨z, hz⟩ : ∃ z, fu - 3 = z + 1 := ⟨fu - 4, by omega⟩
  obtain ⟨vc', vb', va', es, ha, hb, hcc⟩ := ru_srcs fu P T I U N va vb vc hi hm (srcs_le _ hk) (okS_all h0) hf
  obtain ⟨rd', hrd, er⟩ := rf_take fu Q op I U M Tx hf (show i < 256 by omega) (fun j hj => by rw [← ag_src hi hPQ]; exact okS_all h0 j hj) T rd
  have hln := loop_nu h0 e
  obtain ⟨d', f', g', e1, e2⟩ := lo_open hr ((flt_0 h0).2.2.2.2.2.1 e) i (nu P i)
  refine ⟨i + 1, nu P i :: cs, kl, vc', T, vb', va', d', f', g', res, O, nI (nu P i), upd left i (nI (nu P i)), rd', rs, hkl, ?_, fun n => ?_, hm2, ?_, ?_, ?_, ?_⟩
  · unfold pf_Ru_step
    rw [pr_kind P hi hm, pr_number P hi hm]
    simp only [Option.bind_some]
    rw [ki_sources _ hk]
    simp only [Option.bind_some]
    rw [es]
    simp only [Option.bind_some]
    rw [e, if_neg (show ¬ nI 34 = 0 by decide), if_pos (show nI 34 = 34 from rfl), nI_l (by omega), e1]
    simp only [Option.bind_some]
    rw [p1n]
  · show (pf_Mo_run_61 fu 64 32 768 Q 256 256 op 12 16 Tx 128 U 1024 M 4 32 I) (n + 1) (nI dn) (nI i) th kl told T O left rd rs = _
    have ht : pf_Mo_hasTarget (nI 34) = some 0 := mo_hasTarget 34 (by decide)
    rw [er, hz, pf_Mo_run_76, if_pos (by decide), mo_num Q (by omega), Option.bind_some, ← hkQ, e, if_neg (show ¬ nI 34 = 0 by decide), ht, Option.bind_some, if_pos rfl, if_neg (show ¬ (nI 34 < 34 ∨ 38 < nI 34) by decide), if_pos (show nI 34 = 34 from rfl), if_pos (inN (by omega) (by decide)), nI_clamp (by omega), p1n, hnQ]
  · rw [stk_L e]; exact e2
  · rw [stk_L e]
    exact ⟨pk_us, LR_upd _ _ (fun b hb => by have := stk_lt hb; omega) hl⟩
  · rw [stk_L e]; exact ⟨hln.1, Nat.le_refl _, hc⟩
  · rw [tau_L e]; exact Nat.le_refl _
theorem st_go (hf : 768 < fu) {m i : Nat} {pl : Int32} (hi : i < m) (hm : m ≤ 256) (hPQ : ∀ k, k < 3 * m → P k = Q k) (h0 : flt P m pl i = 0) {T O vc vb va f res left rd rs : Nat → Int32} {g : Nat → Int64} {kl d th told : Int32} {dn : Nat} {cs : List Nat} (hr : Rep d f g (stk P i) cs) (hl : LR left (stk P i) cs) (hc : okC P (stk P i) cs) (e : kd P i = 37) (hj : stk P (nu P i) = stk P i) (hkl : kl = 0 ∨ kl = 1) : GoB P m (pf_Ru_step fu (nI i) kl (nI m) 768 P 0 4 vc 0 N 16 64 T 8 32 I 32 128 U 4 vb 4 va d 4 f 4 g 4 res 1024 M 4 16 Tx 8 32 O) (fun n => (pf_Mo_run_61 fu 64 32 768 Q 256 256 op 12 16 Tx 128 U 1024 M 4 32 I) n (nI dn) (nI i) th kl told T O left rd rs) (pf_Mo_run_61 fu 64 32 768 Q 256 256 op 12 16 Tx 128 U 1024 M 4 32 I) dn th (tau P m (stk P i) cs i) := by
  have hk := kd_lt P i
  have hn := nu_lt P i
  have hkQ := ag_kd hi hPQ
  have hnQ := ag_nu hi hPQ
  obtain ⟨z, hz⟩ : ∃ z, fu - 3 = z + 1 := ⟨fu - 4, by omega⟩
  obtain ⟨vc', vb', va', es, ha, hb, hcc⟩ := ru_srcs fu P T I U N va vb vc hi hm (srcs_le _ hk) (okS_all h0) hf
  obtain ⟨rd', hrd, er⟩ := rf_take fu Q op I U M Tx hf (show i < 256 by omega) (fun j hj => by rw [← ag_src hi hPQ]; exact okS_all h0 j hj) T rd
  have hg := goes_nu h0 (Or.inr e)
  refine ⟨nu P i, cs, kl, vc', T, vb', va', d, f, g, res, O, nI (nu P i), left, rd', rs, hkl, ?_, fun n => ?_, hg.2, ?_, ?_, ?_, ?_⟩
  · unfold pf_Ru_step
    rw [pr_kind P hi hm, pr_number P hi hm]
    simp only [Option.bind_some]
    rw [ki_sources _ hk]
    simp only [Option.bind_some]
    rw [es]
    simp only [Option.bind_some]
    rw [e, if_neg (show ¬ nI 37 = 0 by decide), if_neg (show ¬ nI 37 = 34 by decide), if_neg (show ¬ nI 37 = 35 by decide), if_neg (show ¬ nI 37 = 36 by decide), if_pos (show nI 37 = 37 from rfl)]
  · show (pf_Mo_run_61 fu 64 32 768 Q 256 256 op 12 16 Tx 128 U 1024 M 4 32 I) (n + 1) (nI dn) (nI i) th kl told T O left rd rs = _
    have ht : pf_Mo_hasTarget (nI 37) = some 0 := mo_hasTarget 37 (by decide)
    rw [er, hz, pf_Mo_run_76, if_pos (by decide), mo_num Q (by omega), Option.bind_some, ← hkQ, e, if_neg (show ¬ nI 37 = 0 by decide), ht, Option.bind_some, if_pos rfl, if_neg (show ¬ (nI 37 < 34 ∨ 38 < nI 37) by decide), if_neg (show ¬ nI 37 = 34 by decide), if_neg (show ¬ nI 37 = 35 by decide), if_neg (show ¬ nI 37 = 36 by decide), if_pos (show nI 37 = 37 from rfl), hnQ]
  · rw [hj]; exact hr
  · rw [hj]; exact hl
  · rw [hj]; exact hc
  · exact tau_J hg.1 hj
theorem st_if (hf : 768 < fu) {m i : Nat} {pl : Int32} (hi : i < m) (hm : m ≤ 256) (hPQ : ∀ k, k < 3 * m → P k = Q k) (h0 : flt P m pl i = 0) {T O vc vb va f res left rd rs : Nat → Int32} {g : Nat → Int64} {kl d th told : Int32} {dn : Nat} {cs : List Nat} (hr : Rep d f g (stk P i) cs) (hl : LR left (stk P i) cs) (hc : okC P (stk P i) cs) (hm2 : i + 1 < m) (e : kd P i = 36) (hj : stk P (nu P i) = stk P i) (hkl : kl = 0 ∨ kl = 1) : GoB P m (pf_Ru_step fu (nI i) kl (nI m) 768 P 0 4 vc 0 N 16 64 T 8 32 I 32 128 U 4 vb 4 va d 4 f 4 g 4 res 1024 M 4 16 Tx 8 32 O) (fun n => (pf_Mo_run_61 fu 64 32 768 Q 256 256 op 12 16 Tx 128 U 1024 M 4 32 I) n (nI dn) (nI i) th kl told T O left rd rs) (pf_Mo_run_61 fu 64 32 768 Q 256 256 op 12 16 Tx 128 U 1024 M 4 32 I) dn th (tau P m (stk P i) cs i) := by
  have hk := kd_lt P i
  have hn := nu_lt P i
  have hkQ := ag_kd hi hPQ
  have hnQ := ag_nu hi hPQ
  obtain ⟨z, hz⟩ : ∃ z, fu - 3 = z + 1 := ⟨fu - 4, by omega⟩
  obtain ⟨vc', vb', va', es, ha, hb, hcc⟩ := ru_srcs fu P T I U N va vb vc hi hm (srcs_le _ hk) (okS_all h0) hf
  obtain ⟨rd', hrd, er⟩ := rf_take fu Q op I U M Tx hf (show i < 256 by omega) (fun j hj => by rw [← ag_src hi hPQ]; exact okS_all h0 j hj) T rd
  have hg := goes_nu h0 (Or.inl e)
  have h00 : (0 : Int32).toNatClampNeg = 0 := rfl
  have hi4 : (0 : Int32) ≤ 0 ∧ (0 : Nat) < 4 := by decide
  have hi12 : (0 : Int32) ≤ 0 ∧ (0 : Nat) < 12 := by decide
  have h1s : 1 ≤ srcs (kd P i) := by rw [e]; decide
  have hv : rd' 0 = va' 0 := by rw [ha h1s 0 (by decide), ag_src hi hPQ]; exact hrd 0 (by decide) 0 (by decide)
  by_cases c : va' 0 ≤ 0
  · refine ⟨nu P i, cs, kl, vc', T, vb', va', d, f, g, res, O, nI (nu P i), left, rd', rs, hkl, ?_, fun n => ?_, hg.2, ?_, ?_, ?_, ?_⟩
    · unfold pf_Ru_step
      rw [pr_kind P hi hm, pr_number P hi hm]
      simp only [Option.bind_some]
      rw [ki_sources _ hk]
      simp only [Option.bind_some]
      rw [es]
      simp only [Option.bind_some]
      rw [e, if_neg (show ¬ nI 36 = 0 by decide), if_neg (show ¬ nI 36 = 34 by decide), if_neg (show ¬ nI 36 = 35 by decide), if_pos (show nI 36 = 36 from rfl), h00, if_pos hi4, if_pos c]
    · show (pf_Mo_run_61 fu 64 32 768 Q 256 256 op 12 16 Tx 128 U 1024 M 4 32 I) (n + 1) (nI dn) (nI i) th kl told T O left rd rs = _
      have ht : pf_Mo_hasTarget (nI 36) = some 0 := mo_hasTarget 36 (by decide)
      rw [er, hz, pf_Mo_run_76, if_pos (by decide), mo_num Q (by omega), Option.bind_some, ← hkQ, e, if_neg (show ¬ nI 36 = 0 by decide), ht, Option.bind_some, if_pos rfl, if_neg (show ¬ (nI 36 < 34 ∨ 38 < nI 36) by decide), if_neg (show ¬ nI 36 = 34 by decide), if_neg (show ¬ nI 36 = 35 by decide), if_pos (show nI 36 = 36 from rfl), h00, if_pos hi12, hv, if_neg (i32_nlt.mpr c), hnQ]
    · rw [hj]; exact hr
    · rw [hj]; exact hl
    · rw [hj]; exact hc
    · exact tau_J hg.1 hj
  · have hs : stk P (i + 1) = stk P i := stk_N (by omega) (by omega)
    refine ⟨i + 1, cs, kl, vc', T, vb', va', d, f, g, res, O, nI (nu P i), left, rd', rs, hkl, ?_, fun n => ?_, hm2, ?_, ?_, ?_, ?_⟩
    · unfold pf_Ru_step
      rw [pr_kind P hi hm, pr_number P hi hm]
      simp only [Option.bind_some]
      rw [ki_sources _ hk]
      simp only [Option.bind_some]
      rw [es]
      simp only [Option.bind_some]
      rw [e, if_neg (show ¬ nI 36 = 0 by decide), if_neg (show ¬ nI 36 = 34 by decide), if_neg (show ¬ nI 36 = 35 by decide), if_pos (show nI 36 = 36 from rfl), h00, if_pos hi4, if_neg c, p1n]
    · show (pf_Mo_run_61 fu 64 32 768 Q 256 256 op 12 16 Tx 128 U 1024 M 4 32 I) (n + 1) (nI dn) (nI i) th kl told T O left rd rs = _
      have ht : pf_Mo_hasTarget (nI 36) = some 0 := mo_hasTarget 36 (by decide)
      rw [er, hz, pf_Mo_run_76, if_pos (by decide), mo_num Q (by omega), Option.bind_some, ← hkQ, e, if_neg (show ¬ nI 36 = 0 by decide), ht, Option.bind_some, if_pos rfl, if_neg (show ¬ (nI 36 < 34 ∨ 38 < nI 36) by decide), if_neg (show ¬ nI 36 = 34 by decide), if_neg (show ¬ nI 36 = 35 by decide), if_pos (show nI 36 = 36 from rfl), h00, if_pos hi12, hv, if_pos (i32_nle.mp c), p1n, hnQ]
    · rw [hs]; exact hr
    · rw [hs]; exact hl
    · rw [hs]; exact hc
    · rw [tau_N (by omega) (by omega)]; exact Nat.le_refl _
theorem st_eloop (hf : 768 < fu) {m i : Nat} {pl : Int32} (hi : i < m) (hm : m ≤ 256) (hPQ : ∀ k, k < 3 * m → P k = Q k) (h0 : flt P m pl i = 0) {T O vc vb va f res left rd rs : Nat → Int32} {g : Nat → Int64} {kl d th told : Int32} {dn : Nat} {cs : List Nat} (hr : Rep d f g (stk P i) cs) (hl : LR left (stk P i) cs) (hc : okC P (stk P i) cs) (hm2 : i + 1 < m) (e : kd P i = 35) (hop : op i = ent (stk P i) 0) (hkl : kl = 0 ∨ kl = 1) : GoB P m (pf_Ru_step fu (nI i) kl (nI m) 768 P 0 4 vc 0 N 16 64 T 8 32 I 32 128 U 4 vb 4 va d 4 f 4 g 4 res 1024 M 4 16 Tx 8 32 O) (fun n => (pf_Mo_run_61 fu 64 32 768 Q 256 256 op 12 16 Tx 128 U 1024 M 4 32 I) n (nI dn) (nI i) th kl told T O left rd rs) (pf_Mo_run_61 fu 64 32 768 Q 256 256 op 12 16 Tx 128 U 1024 M 4 32 I) dn th (tau P m (stk P i) cs i) := by
  have hk := kd_lt P i
  have hn := nu_lt P i
  have hkQ := ag_kd hi hPQ
  have hnQ := ag_nu hi hPQ
  obtain ⟨z, hz⟩ : ∃ z, fu - 3 = z + 1 := ⟨fu - 4, by omega⟩
  obtain ⟨vc', vb', va', es, ha, hb, hcc⟩ := ru_srcs fu P T I U N va vb vc hi hm (srcs_le _ hk) (okS_all h0) hf
  obtain ⟨rd', hrd, er⟩ := rf_take fu Q op I U M Tx hf (show i < 256 by omega) (fun j hj => by rw [← ag_src hi hPQ]; exact okS_all h0 j hj) T rd
  cases hs : stk P i with
  | nil => exact absurd hs ((flt_0 h0).2.2.2.2.1 e)
  | cons a l =>
    rw [hs] at hr hl hc hop
    have hl2 := stk_cons i a l hs
    have ha2 : a < i := stk_lt (by rw [hs]; exact List.mem_cons_self)
    have hka : kd P a = 34 := stk_kd (i := i) (by rw [hs]; exact List.mem_cons_self)
    have hna := nu_lt P a
    have hop' : op i = nI a := hop
    have ht : pf_Mo_hasTarget (nI 35) = some 0 := mo_hasTarget 35 (by decide)
    cases cs with
    | nil => exact absurd hc id
    | cons c cs =>
      obtain ⟨c1, c2, c3⟩ := hc
      obtain ⟨l1, l2⟩ := hl
      have hpred : nI c - (1 : Int32) = nI (c - 1) := pk_sub (b := 1) (by omega)
      have hY : ∀ n, (pf_Mo_run_61 fu 64 32 768 Q 256 256 op 12 16 Tx 128 U 1024 M 4 32 I) (n + 1) (nI dn) (nI i) th kl told T O left rd rs = if nI (c - 1) ≤ 0 then (pf_Mo_run_61 fu 64 32 768 Q 256 256 op 12 16 Tx 128 U 1024 M 4 32 I) n (nI (dn + 1)) (nI (i + 1)) th kl (nI (nu P i)) T O (upd left a (nI (c - 1))) rd' rs else (pf_Mo_run_61 fu 64 32 768 Q 256 256 op 12 16 Tx 128 U 1024 M 4 32 I) n (nI (dn + 1)) (nI (a + 1)) th kl (nI (nu P i)) T O (upd left a (nI (c - 1))) rd' rs := by
        intro n
        rw [er, hz, pf_Mo_run_76, if_pos (by decide), mo_num Q (by omega), Option.bind_some, ← hkQ, e, if_neg (show ¬ nI 35 = 0 by decide), ht, Option.bind_some, if_pos rfl, if_neg (show ¬ (nI 35 < 34 ∨ 38 < nI 35) by decide), if_neg (show ¬ nI 35 = 34 by decide), if_pos (show nI 35 = 35 from rfl), if_pos (inN (show i < 256 by omega) (by decide)), nI_clamp (show i < 2 ^ 31 by omega), hop', if_pos (inN (show a < 256 by omega) (by decide)), nI_clamp (show a < 2 ^ 31 by omega), pk_us, l1, hpred, p1n, p1n, hnQ]
      by_cases hc2 : 2 ≤ c
      · obtain ⟨g', e1, e2⟩ := er_more hr hc2 (by omega) (nI i + 1)
        have hsa : stk P (a + 1) = a :: l := by rw [stk_L hka, hl2]
        refine ⟨a + 1, (c - 1) :: cs, kl, vc', T, vb', va', d, f, g', res, O, nI (nu P i), upd left a (nI (c - 1)), rd', rs, hkl, ?_, fun n => ?_, by omega, ?_, ?_, ?_, ?_⟩
        · unfold pf_Ru_step
          rw [pr_kind P hi hm, pr_number P hi hm]
          simp only [Option.bind_some]
          rw [ki_sources _ hk]
          simp only [Option.bind_some]
          rw [es]
          simp only [Option.bind_some]
          rw [e, if_neg (show ¬ nI 35 = 0 by decide), if_neg (show ¬ nI 35 = 34 by decide), if_pos (show nI 35 = 35 from rfl), e1]
          simp only [Option.bind_some]
        · refine (hY n).trans ?_
          rw [if_neg (nI_nle (by omega) (by omega))]
        · rw [hsa]; exact e2
        · rw [hsa]; exact ⟨pk_us, LR_upd _ _ (fun b hb => by rw [hl2] at hb; have := stk_lt hb; omega) l2⟩
        · rw [hsa]; exact ⟨by omega, by omega, c3⟩
        · rw [hsa]; exact tau_R hs hi hc2 c2
      · have hc1 : c = 1 := by omega
        subst hc1
        obtain ⟨d', e1, e2⟩ := er_last hr (nI i + 1)
        have hsa : stk P (i + 1) = l := by rw [stk_E e, hs]; rfl
        refine ⟨i + 1, cs, kl, vc', T, vb', va', d', f, g, res, O, nI (nu P i), upd left a (nI (1 - 1)), rd', rs, hkl, ?_, fun n => ?_, hm2, ?_, ?_, ?_, ?_⟩
        · unfold pf_Ru_step
          rw [pr_kind P hi hm, pr_number P hi hm]
          simp only [Option.bind_some]
          rw [ki_sources _ hk]
          simp only [Option.bind_some]
          rw [es]
          simp only [Option.bind_some]
          rw [e, if_neg (show ¬ nI 35 = 0 by decide), if_neg (show ¬ nI 35 = 34 by decide), if_pos (show nI 35 = 35 from rfl), e1]
          simp only [Option.bind_some]
          rw [p1n]
        · refine (hY n).trans ?_
          rw [if_pos (show nI (1 - 1) ≤ 0 by decide)]
        · rw [hsa]; exact e2
        · rw [hsa]; exact LR_upd _ _ (fun b hb => by rw [hl2] at hb; have := stk_lt hb; omega) l2
        · rw [hsa]; exact c3
        · exact tau_E hs hi e (by omega)
end STEP2
