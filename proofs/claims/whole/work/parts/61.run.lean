/-! PURE PART 19: kill, targets; the run in lockstep -/
section STEP3
variable (fu : Nat) (P Q op N I U M Tx : Nat → Int32)
theorem st_kill (hf : 768 < fu) {m i : Nat} {pl : Int32} (hi : i < m) (hm : m ≤ 256) (hPQ : ∀ k, k < 3 * m → P k = Q k) (h0 : flt P m pl i = 0) {T O vc vb va f res left rd rs : Nat → Int32} {g : Nat → Int64} {kl d th told : Int32} {dn : Nat} {cs : List Nat} (hr : Rep d f g (stk P i) cs) (hl : LR left (stk P i) cs) (hc : okC P (stk P i) cs) (hm2 : i + 1 < m) (e : kd P i = 38) (hkl : kl = 0 ∨ kl = 1) : EndB (pf_Ru_step fu (nI i) kl (nI m) 768 P 0 4 vc 0 N 16 64 T 8 32 I 32 128 U 4 vb 4 va d 4 f 4 g 4 res 1024 M 4 16 Tx 8 32 O) (fun n => (pf_Mo_run_61 fu 64 32 768 Q 256 256 op 12 16 Tx 128 U 1024 M 4 32 I) n (nI dn) (nI i) th kl told T O left rd rs) dn th ∨ GoB P m (pf_Ru_step fu (nI i) kl (nI m) 768 P 0 4 vc 0 N 16 64 T 8 32 I 32 128 U 4 vb 4 va d 4 f 4 g 4 res 1024 M 4 16 Tx 8 32 O) (fun n => (pf_Mo_run_61 fu 64 32 768 Q 256 256 op 12 16 Tx 128 U 1024 M 4 32 I) n (nI dn) (nI i) th kl told T O left rd rs) (pf_Mo_run_61 fu 64 32 768 Q 256 256 op 12 16 Tx 128 U 1024 M 4 32 I) dn th (tau P m (stk P i) cs i) := by
  have hk := kd_lt P i
  have hn := nu_lt P i
  have hkQ := ag_kd hi hPQ
  have hnQ := ag_nu hi hPQ
  obtain ⟨z, hz⟩ : ∃ z, fu - 3 = z + 1 := ⟨fu - 4, by omega⟩
  obtain ⟨vc', vb', va', es, ha, hb, hcc⟩ := ru_srcs fu P T I U N va vb vc hi hm (srcs_le _ hk) (okS_all h0) hf
  obtain ⟨rd', hrd, er⟩ := rf_take fu Q op I U M Tx hf (show i < 256 by omega) (fun j hj => by rw [← ag_src hi hPQ]; exact okS_all h0 j hj) T rd
  have h1s : 1 ≤ srcs (kd P i) := by rw [e]; decide
  have hv : ∀ j, j < 4 → rd' j = va' j := fun j hj => by
    rw [ha h1s j hj, ag_src hi hPQ]
    have := hrd 0 (by decide) j hj
    rw [show 4 * 0 + j = j by omega] at this
    exact this
  have v0 := hv 0 (by decide)
  have v1 := hv 1 (by decide)
  have v2 := hv 2 (by decide)
  have v3 := hv 3 (by decide)
  have k0 : (0 : Int32).toNatClampNeg = 0 := rfl
  have k1 : (1 : Int32).toNatClampNeg = 1 := rfl
  have k2 : (2 : Int32).toNatClampNeg = 2 := rfl
  have k3 : (3 : Int32).toNatClampNeg = 3 := rfl
  have hX : pf_Ru_step fu (nI i) kl (nI m) 768 P 0 4 vc 0 N 16 64 T 8 32 I 32 128 U 4 vb 4 va d 4 f 4 g 4 res 1024 M 4 16 Tx 8 32 O = if va' 0 < 0 then some (0, nI i + 1, 1, vc', T, vb', va', d, f, g, res, O) else if va' 1 < 0 then some (0, nI i + 1, 1, vc', T, vb', va', d, f, g, res, O) else if va' 2 < 0 then some (0, nI i + 1, 1, vc', T, vb', va', d, f, g, res, O) else if 0 ≤ va' 3 then some (1, nI i + 1, 0, vc', T, vb', va', d, f, g, res, O) else some (0, nI i + 1, 1, vc', T, vb', va', d, f, g, res, O) := by
    unfold pf_Ru_step
    rw [pr_kind P hi hm, pr_number P hi hm]
    simp only [Option.bind_some]
    rw [ki_sources _ hk]
    simp only [Option.bind_some]
    rw [es]
    simp only [Option.bind_some]
    rw [e, if_neg (show ¬ nI 38 = 0 by decide), if_neg (show ¬ nI 38 = 34 by decide), if_neg (show ¬ nI 38 = 35 by decide), if_neg (show ¬ nI 38 = 36 by decide), if_neg (show ¬ nI 38 = 37 by decide), if_pos (show nI 38 = 38 from rfl), k0, k1, k2, k3]
    rw [if_pos (show (0 : Int32) ≤ 0 ∧ 0 < 4 by decide), if_pos (show (0 : Int32) ≤ 1 ∧ 1 < 4 by decide), if_pos (show (0 : Int32) ≤ 2 ∧ 2 < 4 by decide), if_pos (show (0 : Int32) ≤ 3 ∧ 3 < 4 by decide)]
  have hY : ∀ n, (pf_Mo_run_61 fu 64 32 768 Q 256 256 op 12 16 Tx 128 U 1024 M 4 32 I) (n + 1) (nI dn) (nI i) th kl told T O left rd rs = if va' 0 < 0 then some (nI (dn + 1), th, 1, nI (nu P i), T, O, left, rd', rs) else if va' 1 < 0 then some (nI (dn + 1), th, 1, nI (nu P i), T, O, left, rd', rs) else if va' 2 < 0 then some (nI (dn + 1), th, 1, nI (nu P i), T, O, left, rd', rs) else if 0 ≤ va' 3 then (pf_Mo_run_61 fu 64 32 768 Q 256 256 op 12 16 Tx 128 U 1024 M 4 32 I) n (nI (dn + 1)) (nI i + 1) th 0 (nI (nu P i)) T O left rd' rs else some (nI (dn + 1), th, 1, nI (nu P i), T, O, left, rd', rs) := by
    intro n
    have ht : pf_Mo_hasTarget (nI 38) = some 0 := mo_hasTarget 38 (by decide)
    rw [er, hz, pf_Mo_run_76, if_pos (by decide), mo_num Q (by omega), Option.bind_some, ← hkQ, e, if_neg (show ¬ nI 38 = 0 by decide), ht, Option.bind_some, if_pos rfl, if_neg (show ¬ (nI 38 < 34 ∨ 38 < nI 38) by decide), if_neg (show ¬ nI 38 = 34 by decide), if_neg (show ¬ nI 38 = 35 by decide), if_neg (show ¬ nI 38 = 36 by decide), if_neg (show ¬ nI 38 = 37 by decide), if_pos (show nI 38 = 38 from rfl), k0, k1, k2, k3]
    rw [if_pos (show (0 : Int32) ≤ 0 ∧ 0 < 12 by decide), if_pos (show (0 : Int32) ≤ 1 ∧ 1 < 12 by decide), if_pos (show (0 : Int32) ≤ 2 ∧ 2 < 12 by decide), if_pos (show (0 : Int32) ≤ 3 ∧ 3 < 12 by decide), v0, v1, v2, v3, hnQ]
  have endc : (∀ n, (pf_Mo_run_61 fu 64 32 768 Q 256 256 op 12 16 Tx 128 U 1024 M 4 32 I) (n + 1) (nI dn) (nI i) th kl told T O left rd rs = some (nI (dn + 1), th, 1, nI (nu P i), T, O, left, rd', rs)) → pf_Ru_step fu (nI i) kl (nI m) 768 P 0 4 vc 0 N 16 64 T 8 32 I 32 128 U 4 vb 4 va d 4 f 4 g 4 res 1024 M 4 16 Tx 8 32 O = some (0, nI i + 1, 1, vc', T, vb', va', d, f, g, res, O) → EndB (pf_Ru_step fu (nI i) kl (nI m) 768 P 0 4 vc 0 N 16 64 T 8 32 I 32 128 U 4 vb 4 va d 4 f 4 g 4 res 1024 M 4 16 Tx 8 32 O) (fun n => (pf_Mo_run_61 fu 64 32 768 Q 256 256 op 12 16 Tx 128 U 1024 M 4 32 I) n (nI dn) (nI i) th kl told T O left rd rs) dn th :=
    fun q1 q2 => ⟨nI i + 1, 1, vc', T, vb', va', d, f, g, res, O, nI (nu P i), left, rd', rs, Or.inr rfl, q2, q1⟩
  by_cases c0 : va' 0 < 0
  · left
    rw [if_pos c0] at hX
    exact endc (fun n => by rw [hY n, if_pos c0]) hX
  by_cases c1 : va' 1 < 0
  · left
    rw [if_neg c0, if_pos c1] at hX
    exact endc (fun n => by rw [hY n, if_neg c0, if_pos c1]) hX
  by_cases c2 : va' 2 < 0
  · left
    rw [if_neg c0, if_neg c1, if_pos c2] at hX
    exact endc (fun n => by rw [hY n, if_neg c0, if_neg c1, if_pos c2]) hX
  by_cases c3 : 0 ≤ va' 3
  · right
    rw [if_neg c0, if_neg c1, if_neg c2, if_pos c3, p1n] at hX
    have hs : stk P (i + 1) = stk P i := stk_N (by omega) (by omega)
    refine ⟨i + 1, cs, 0, vc', T, vb', va', d, f, g, res, O, nI (nu P i), left, rd', rs, Or.inl rfl, hX, fun n => ?_, hm2, ?_, ?_, ?_, ?_⟩
    · refine (hY n).trans ?_
      rw [if_neg c0, if_neg c1, if_neg c2, if_pos c3, p1n]
    · rw [hs]; exact hr
    · rw [hs]; exact hl
    · rw [hs]; exact hc
    · rw [tau_N (by omega) (by omega)]; exact Nat.le_refl _
  · left
    rw [if_neg c0, if_neg c1, if_neg c2, if_neg c3] at hX
    exact endc (fun n => by rw [hY n, if_neg c0, if_neg c1, if_neg c2, if_neg c3]) hX
theorem st_tgt (hf : 768 < fu) {m i : Nat} {pl : Int32} (hi : i < m) (hm : m ≤ 256) (hPQ : ∀ k, k < 3 * m → P k = Q k) (h0 : flt P m pl i = 0) {T O vc vb va f res left rd rs : Nat → Int32} {g : Nat → Int64} {kl d th told : Int32} {dn : Nat} {cs : List Nat} (hr : Rep d f g (stk P i) cs) (hl : LR left (stk P i) cs) (hc : okC P (stk P i) cs) (hm2 : i + 1 < m) (e : hasT (kd P i) = true) (hkl : kl = 0 ∨ kl = 1) : GoB P m (pf_Ru_step fu (nI i) kl (nI m) 768 P 0 4 vc 0 N 16 64 T 8 32 I 32 128 U 4 vb 4 va d 4 f 4 g 4 res 1024 M 4 16 Tx 8 32 O) (fun n => (pf_Mo_run_61 fu 64 32 768 Q 256 256 op 12 16 Tx 128 U 1024 M 4 32 I) n (nI dn) (nI i) th kl told T O left rd rs) (pf_Mo_run_61 fu 64 32 768 Q 256 256 op 12 16 Tx 128 U 1024 M 4 32 I) dn th (tau P m (stk P i) cs i) := by
  have hk := kd_lt P i
  have hn := nu_lt P i
  have hkQ := ag_kd hi hPQ
  have hnQ := ag_nu hi hPQ
  obtain ⟨z, hz⟩ : ∃ z, fu - 3 = z + 1 := ⟨fu - 4, by omega⟩
  obtain ⟨vc', vb', va', es, ha, hb, hcc⟩ := ru_srcs fu P T I U N va vb vc hi hm (srcs_le _ hk) (okS_all h0) hf
  obtain ⟨rd', hrd, er⟩ := rf_take fu Q op I U M Tx hf (show i < 256 by omega) (fun j hj => by rw [← ag_src hi hPQ]; exact okS_all h0 j hj) T rd
  have hT := of_decide_eq_true e
  obtain ⟨f40, fT, -, fN, -, -, -, -⟩ := flt_0 h0
  have hs : stk P (i + 1) = stk P i := stk_N (by omega) (by omega)
  have hW : P (3 * i) = Q (3 * i) := hPQ _ (by omega)
  have htg : un (P (3 * i)) / 2 ^ 6 % 2 ^ 2 = 0 ∨ (un (P (3 * i)) / 2 ^ 6 % 2 ^ 2 = 1 ∧ un (P (3 * i)) / 2 ^ 8 % 2 ^ 4 < 8) := by
    unfold badT at fT
    have e' : hasT (un (P (3 * i)) % 64) = true := e
    rw [if_pos e'] at fT
    unfold tgtB at fT
    simp only [Bool.or_eq_false_iff, decide_eq_false_iff_not] at fT
    obtain ⟨⟨g1, g2⟩, -⟩ := fT
    by_cases q : un (P (3 * i)) / 2 ^ 6 % 2 ^ 2 = 0
    · exact Or.inl q
    · exact Or.inr ⟨by omega, Nat.lt_of_not_le fun y => g2 ⟨by omega, y⟩⟩
  have hnum : (kd P i = 32 ∨ kd P i = 33) → nu P i ≤ 3 := by
    intro q
    unfold badN at fN
    rw [if_neg (by omega), if_neg (by omega), if_pos q] at fN
    have := of_decide_eq_false fN
    omega
  have hR : ∀ t, t < 3 → ∀ j, j < 4 → rd' (4 * t + j) = val (src3 P i t) T I U j := fun t ht j hj => by rw [ag_src hi hPQ]; exact hrd t ht j hj
  obtain ⟨w', ec, ep⟩ := cp_both fu va' vb' vc' rd' res Tx U M hf f40 e hnum
    (fun q j hj => by rw [ha q j hj]; have := hR 0 (by decide) j hj; rw [show 4 * 0 + j = j by omega] at this; exact this.symm)
    (fun q j hj => by rw [hb q j hj]; exact (hR 1 (by decide) j hj).symm)
    (fun q j hj => by rw [hcc q j hj]; exact (hR 2 (by decide) j hj).symm)
  have hcl := ru_target fu hf w' O T (P (3 * i)) htg
  obtain ⟨rs', hre⟩ := mo_put fu rd' Tx U M (nI (nu P i)) (nI (kd P i)) hf O T rs w' (P (3 * i)) htg ep
  generalize (if un (P (3 * i)) / 2 ^ 6 % 2 ^ 2 = 0 then (O, st4 (un (P (3 * i))) (un (P (3 * i)) / 2 ^ 8 % 2 ^ 4) (fun j => kv (un (P (3 * i)) / 2 ^ 16 % 2 ^ 1) (w' j)) T) else (st4 (un (P (3 * i))) (un (P (3 * i)) / 2 ^ 8 % 2 ^ 4) (fun j => kv (un (P (3 * i)) / 2 ^ 16 % 2 ^ 1) (w' j)) O, T)) = OT at hcl hre
  obtain ⟨O', T'⟩ := OT
  have q0 : ¬ nI (kd P i) = 0 := nIk (K := 0) 0 rfl (by omega) (by decide) (by omega)
  have q34 : ¬ nI (kd P i) = 34 := nIk (K := 34) 34 rfl (by omega) (by decide) (by omega)
  have q35 : ¬ nI (kd P i) = 35 := nIk (K := 35) 35 rfl (by omega) (by decide) (by omega)
  have q36 : ¬ nI (kd P i) = 36 := nIk (K := 36) 36 rfl (by omega) (by decide) (by omega)
  have q37 : ¬ nI (kd P i) = 37 := nIk (K := 37) 37 rfl (by omega) (by decide) (by omega)
  have q38 : ¬ nI (kd P i) = 38 := nIk (K := 38) 38 rfl (by omega) (by decide) (by omega)
  have qo : nI (kd P i) < 34 ∨ 38 < nI (kd P i) := hT.2.elim (fun h => Or.inl ((nI_ltI (b := 34) (by omega) (by decide)).mpr h)) (fun h => Or.inr ((nI_ltI (a := 38) (by decide) (by omega)).mpr h))
  refine ⟨i + 1, cs, kl, vc', T', vb', va', d, f, g, w', O', nI (nu P i), left, rd', rs', hkl, ?_, fun n => ?_, hm2, ?_, ?_, ?_, ?_⟩
  · unfold pf_Ru_step
    rw [pr_kind P hi hm, pr_number P hi hm]
    simp only [Option.bind_some]
    rw [ki_sources _ hk]
    simp only [Option.bind_some]
    rw [es]
    simp only [Option.bind_some]
    rw [if_neg q0, if_neg q34, if_neg q35, if_neg q36, if_neg q37, if_neg q38, ec, Option.bind_some, pr_first P hi hm, Option.bind_some, hcl]
    simp only [Option.bind_some]
    rw [p1n]
  · show (pf_Mo_run_61 fu 64 32 768 Q 256 256 op 12 16 Tx 128 U 1024 M 4 32 I) (n + 1) (nI dn) (nI i) th kl told T O left rd rs = _
    have ht : pf_Mo_hasTarget (nI (kd P i)) = some 1 := by rw [mo_hasTarget _ hk, e]; rfl
    rw [er, hz, pf_Mo_run_76, if_pos (by decide), mo_num Q (by omega), Option.bind_some, ← hkQ, if_neg q0, ht, Option.bind_some, if_neg (show ¬ (1 : Int32) = 0 by decide), n3, if_pos (inN (by omega) (by decide)), nI_clamp (by omega), ← hW, ← hnQ, hre]
    simp only [Option.bind_some]
    rw [if_pos qo, p1n]
  · rw [hs]; exact hr
  · rw [hs]; exact hl
  · rw [hs]; exact hc
  · rw [tau_N (by omega) (by omega)]; exact Nat.le_refl _
theorem st_both (hf : 768 < fu) {m i : Nat} (hG : Good P Q m op) (hi : i < m) {T O vc vb va f res left rd rs : Nat → Int32} {g : Nat → Int64} {kl d th told : Int32} {dn : Nat} {cs : List Nat} (hr : Rep d f g (stk P i) cs) (hl : LR left (stk P i) cs) (hc : okC P (stk P i) cs) (hkl : kl = 0 ∨ kl = 1) : EndB (pf_Ru_step fu (nI i) kl (nI m) 768 P 0 4 vc 0 N 16 64 T 8 32 I 32 128 U 4 vb 4 va d 4 f 4 g 4 res 1024 M 4 16 Tx 8 32 O) (fun n => (pf_Mo_run_61 fu 64 32 768 Q 256 256 op 12 16 Tx 128 U 1024 M 4 32 I) n (nI dn) (nI i) th kl told T O left rd rs) dn th ∨ GoB P m (pf_Ru_step fu (nI i) kl (nI m) 768 P 0 4 vc 0 N 16 64 T 8 32 I 32 128 U 4 vb 4 va d 4 f 4 g 4 res 1024 M 4 16 Tx 8 32 O) (fun n => (pf_Mo_run_61 fu 64 32 768 Q 256 256 op 12 16 Tx 128 U 1024 M 4 32 I) n (nI dn) (nI i) th kl told T O left rd rs) (pf_Mo_run_61 fu 64 32 768 Q 256 256 op 12 16 Tx 128 U 1024 M 4 32 I) dn th (tau P m (stk P i) cs i) := by
  obtain ⟨-, hm, hPQ, -, ⟨pl, hall⟩, -, hsf, hop⟩ := hG
  have h0 := hall i hi
  have hz := (flt_0 h0).2.2.2.2.2.2.1
  have h40 := (flt_0 h0).1
  by_cases e0 : kd P i = 0
  · exact Or.inl (st_end fu P Q op N I U M Tx hf hi hm hPQ h0 e0 hkl)
  have hm2 : i + 1 < m := by
    have : ¬ i = m - 1 := fun q => e0 (hz.mpr q)
    omega
  by_cases e34 : kd P i = 34
  · exact Or.inr (st_loop fu P Q op N I U M Tx hf hi hm hPQ h0 hr hl hc hm2 e34 hkl)
  by_cases e35 : kd P i = 35
  · exact Or.inr (st_eloop fu P Q op N I U M Tx hf hi hm hPQ h0 hr hl hc hm2 e35 (hop i hi) hkl)
  have hjj : (kd P i = 36 ∨ kd P i = 37) → stk P (nu P i) = stk P i := fun q => by
    have hg := goes_nu h0 q
    exact ent_stk (by omega) (by omega) (sfrom_none m 0 hsf i (Nat.zero_le _) (by omega) q)
  by_cases e36 : kd P i = 36
  · exact Or.inr (st_if fu P Q op N I U M Tx hf hi hm hPQ h0 hr hl hc hm2 e36 (hjj (Or.inl e36)) hkl)
  by_cases e37 : kd P i = 37
  · exact Or.inr (st_go fu P Q op N I U M Tx hf hi hm hPQ h0 hr hl hc e37 (hjj (Or.inr e37)) hkl)
  by_cases e38 : kd P i = 38
  · exact st_kill fu P Q op N I U M Tx hf hi hm hPQ h0 hr hl hc hm2 e38 hkl
  · exact Or.inr (st_tgt fu P Q op N I U M Tx hf hi hm hPQ h0 hr hl hc hm2 (decide_eq_true ⟨e0, by omega⟩) hkl)
theorem rn_both (hf : 768 < fu) {m : Nat} (hG : Good P Q m op) (th : Int32) : ∀ (r i dn n1 n2 : Nat) (cs : List Nat) (T O vc vb va f res left rd rs : Nat → Int32) (g : Nat → Int64) (kl d told : Int32), (kl = 0 ∨ kl = 1) → i < m → Rep d f g (stk P i) cs → LR left (stk P i) cs → okC P (stk P i) cs → dn ≤ tau P m (stk P i) cs i → pq P none m ≤ tau P m (stk P i) cs i + r → r + 1 < n1 → r < n2 →
    ∃ dn' pl' kl' vc' T' vb' va' d' f' g' res' O' told' left' rd' rs', (kl' = 0 ∨ kl' = 1) ∧ pf_Ru_perform_41 fu 16 64 8 32 (nI m) 768 P 0 4 0 N 8 32 I 32 128 U 4 4 4 4 4 1024 M 4 16 Tx n1 (nI dn) 1 (nI i) kl T O d vc vb va f g res = some (nI dn', pl', kl', T', O', d', vc', vb', va', f', g', res') ∧ (pf_Mo_run_61 fu 64 32 768 Q 256 256 op 12 16 Tx 128 U 1024 M 4 32 I) n2 (nI dn) (nI i) th kl told T O left rd rs = some (nI dn', th, kl', told', T', O', left', rd', rs') := by
  have h65 := hG.2.2.2.1
  have hps := pq_sumw P m 0
  rw [Nat.zero_add] at hps
  have hp0 : pq P none 0 = 0 := rfl
  intro r
  induction r with
  | zero =>
    intro i dn n1 n2 cs T O vc vb va f res left rd rs g kl d told hkl hi hr hl hc h1 h2 h3 h4
    have := tau_lt hi hc
    omega
  | succ r ih =>
    intro i dn n1 n2 cs T O vc vb va f res left rd rs g kl d told hkl hi hr hl hc h1 h2 h3 h4
    have htl := tau_lt hi hc
    obtain ⟨n1, rfl⟩ : ∃ z, n1 = z + 2 := ⟨n1 - 2, by omega⟩
    obtain ⟨n2, rfl⟩ : ∃ z, n2 = z + 1 := ⟨n2 - 1, by omega⟩
    have hstep := st_both fu P Q op N I U M Tx hf hG hi (T := T) (O := O) (vc := vc) (vb := vb) (va := va) (res := res) (rd := rd) (rs := rs) (kl := kl) (th := th) (told := told) (dn := dn) hr hl hc hkl
    rw [pf_Ru_perform_41, if_neg (show ¬ (1 : Int32) = 0 by decide), ite_Kle (a := dn) (K := 65536) 65536 rfl (by omega) (by decide), if_neg (by omega), p1n]
    rcases hstep with ⟨pl', kl', vc', T', vb', va', d', f', g', res', O', told', left', rd', rs', ek, e1, e2⟩ | ⟨i', cs', kl', vc', T', vb', va', d', f', g', res', O', told', left', rd', rs', ek, e1, e2, e3, e4, e5, e6, e7⟩
    · refine ⟨dn + 1, pl', kl', vc', T', vb', va', d', f', g', res', O', told', left', rd', rs', ek, ?_, e2 n2⟩
      rw [e1]
      simp only [Option.bind_some]
      rw [pf_Ru_perform_41, if_pos rfl]
    · have h5 := ih i' (dn + 1) (n1 + 1) n2 cs' T' O' vc' vb' va' f' res' left' rd' rs' g' kl' d' told' ek e3 e4 e5 e6 (by omega) (by omega) (by omega) (by omega)
      obtain ⟨dn', pl'', kl'', vc'', T'', vb'', va'', d'', f'', g'', res'', O'', told'', left'', rd'', rs'', xk, x1, x2⟩ := h5
      refine ⟨dn', pl'', kl'', vc'', T'', vb'', va'', d'', f'', g'', res'', O'', told'', left'', rd'', rs'', xk, ?_, (e2 n2).trans x2⟩
      rw [e1]
      simp only [Option.bind_some]
      exact x1
end STEP3
