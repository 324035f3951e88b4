/-! PURE PART 10: load, both sides -/
/-- a program that was taken: the class's words P, the reference's words Q, its openings -/
def Good (P Q : Nat → Int32) (m : Nat) (op : Nat → Int32) : Prop :=
  1 ≤ m ∧ m ≤ 256 ∧ (∀ k, k < 3 * m → P k = Q k) ∧ sumw P 0 m ≤ 65536 ∧ (∃ pl : Int32, ∀ k, k < m → flt P m pl k = 0) ∧ stk P m = [] ∧ sfrom P 0 m = none ∧ ∀ k, k < m → op k = ent (stk P k) 0
theorem lt1_lt0 {x : Int32} (h : ¬ x < 1) : ¬ x < 0 := by
  intro q
  apply h
  rw [Int32.lt_iff_toInt_lt] at q ⊢
  have h1 : (0 : Int32).toInt = 0 := rfl
  have h2 : (1 : Int32).toInt = 1 := rfl
  omega
theorem chk_le {P : Nat → Int32} {m : Nat} {pl : Int32} : (chk P m pl).1 ≤ 0 ↔ (chk P m pl).1 = 0 := by
  constructor
  · intro h
    have h2 : ¬ (chk P m pl).1 < 0 := by
      unfold chk
      cases ffrom P m pl 0 m with
      | some i =>
        have := flt_le P m pl i
        exact nI_pos (by omega)
      | none =>
        dsimp only
        split
        · unfold endc
          cases sfrom P 0 m with
          | some j => dsimp only; decide
          | none => dsimp only; split <;> decide
        · dsimp only; decide
    rw [Int32.le_iff_toInt_le] at h
    rw [Int32.lt_iff_toInt_lt] at h2
    exact Int32.toInt_inj.mp (by omega)
  · intro h; rw [h]; decide
theorem mo_ref0 : pf_Mo_refuse 0 = some (0, 0) := rfl
theorem mo_ref1 : pf_Mo_refuse 1 = some (1, 1) := rfl
/-- what load does on both sides -/
theorem ld_both (fu : Nat) (hf : 768 < fu) (M : Nat → Int32) (p1 p2 p3 : Int32) (sm : Int32) (sw : Nat → Int32) (cf cp : Int32) (cst : Int64) (cd : Int32) (lo pl : Nat → Int32) (co f5 : Nat → Int64) (qc qs : Nat) (hp fo po : Int32) (fresh Q op : Nat → Int32) :
    (pf_La_load fu p1 p2 p3 sm 1024 M 768 sw cf cp cst cd 256 lo 4 pl 4 co 1 f5 qc qs = some (1, qc, qs, sm, sw, cf, cp, cst, cd, lo, pl, co, f5) ∧ pf_Mo_load fu p1 p2 p3 hp fo po 768 fresh 1024 M 768 Q 256 op = some (0, 1, hp, fo, po, fresh, Q, op)) ∨
    (∃ m' w' a b S D LF F G fresh', pf_La_load fu p1 p2 p3 sm 1024 M 768 sw cf cp cst cd 256 lo 4 pl 4 co 1 f5 qc qs = some (2, qc, qs, m', w', a, b, S, D, LF, F, G, f5) ∧ pf_Mo_load fu p1 p2 p3 hp fo po 768 fresh 1024 M 768 Q 256 op = some (0, 2, hp, a, b, fresh', Q, op)) ∨
    (∃ m r w' b S D LF F G fresh' Q' op', Good w' Q' m op' ∧ pf_La_load fu p1 p2 p3 sm 1024 M 768 sw cf cp cst cd 256 lo 4 pl 4 co 1 f5 qc qs = some (0, qs, qc, nI m, w', 0, b, S, D, LF, F, G, vp_updL f5 0 (Int32.toInt64 r)) ∧ pf_Mo_load fu p1 p2 p3 hp fo po 768 fresh 1024 M 768 Q 256 op = some (r, 0, 1, 0, b, fresh', Q', op')) := by
  unfold pf_La_load pf_SM_load pf_Mo_load
  rw [mo_ref0, mo_ref1]
  simp only [Option.bind_some]
  have n10 : ¬ (1 : Int32) = 0 := by decide
  have n01 : ¬ (1 : Nat) = 0 := by decide
  have n02 : ¬ (2 : Nat) = 0 := by decide
  have n12 : ¬ (2 : Nat) = 1 := by decide
  by_cases c1 : p2 < 1
  · left
    rw [if_pos c1, if_pos c1, if_neg n10]
    exact ⟨rfl, rfl⟩
  rw [if_neg c1, if_neg c1]
  by_cases c2 : p2 ≤ 256
  · have c2' : ¬ (256 : Int32) < p2 := by rw [Int32.le_iff_toInt_le] at c2; rw [Int32.lt_iff_toInt_lt]; omega
    rw [if_pos c2, if_neg c2']
    by_cases c3 : p1 < 0
    · left
      rw [if_pos c3, if_pos c3, if_neg n10]
      exact ⟨rfl, rfl⟩
    rw [if_neg c3, if_neg c3]
    obtain ⟨m, hm, rfl⟩ := nI_of2 (M := 256) (n := 256) rfl (lt1_lt0 c1) c2
    have hm1 : 1 ≤ m := Nat.le_of_not_lt fun q => c1 ((nI_ltI (b := 1) (by omega) (by decide)).mpr q)
    have hK : (1024 : Int32) - 3 * nI m = nI (1024 - 3 * m) := by rw [n3]; exact pk_sub (a := 1024) (by omega)
    rw [hK]
    by_cases c4 : p1 ≤ nI (1024 - 3 * m)
    · obtain ⟨fr, hfr, rfl⟩ := nI_of2 (M := nI (1024 - 3 * m)) (n := 1024 - 3 * m) (nI_toInt (by omega)) c3 c4
      rw [if_pos c4, if_pos c4, if_pos trivial]
      obtain ⟨w', e1, e2⟩ := pr_read fu M (show fr + 3 * m ≤ 1024 by omega) hm hf sw
      obtain ⟨S, D, LF, F, Gg, e3, e4⟩ := ch_examine fu w' p3 hm (by omega) lo pl co
      obtain ⟨fresh', e5, e6, -⟩ := mo_load44 fu M p3 (show fr + 3 * m ≤ 1024 by omega) hm hf 0 hp fo po Q op (3 * m) 0 fu fresh (by omega) (by omega)
      have e5' : pf_Mo_load_44 fu 768 1024 M 768 256 fu (nI fr) (nI m) p3 0 0 hp fo po fresh Q op = _ := e5
      have hag : ∀ k, k < 3 * m → w' k = fresh' k := fun k hk => by rw [e2 k hk, e6 k (Nat.zero_le _) hk]
      rw [e1, e5', ← ag_chk hag p3]
      simp only [Option.bind_some]
      rw [e3]
      simp only [Option.bind_some, pf_Ch_found]
      right
      by_cases c5 : (chk w' m p3).1 = 0
      · right
        obtain ⟨hS, h65, hall, hst, hsf⟩ := e4 c5
        rw [if_pos (chk_le.mpr c5), if_pos c5, c5]
        obtain ⟨Q', e7, e8, -⟩ := mo_load97 fu hm 0 hp 0 (chk w' m p3).2 fresh' op (3 * m) 0 fu Q (by omega) (by omega)
        have e7' : pf_Mo_load_97 fu 768 768 256 fu (nI m) 0 0 hp 0 (chk w' m p3).2 fresh' Q op = _ := e7
        rw [e7']
        obtain ⟨op', e9, e10, -⟩ := mo_load128 fu Q' hm hf 0 hp 0 (chk w' m p3).2 fresh' m 0 fu op (by omega) (by omega)
        have e9' : pf_Mo_load_128 fu 768 256 fu (nI m) 0 0 hp 0 (chk w' m p3).2 fresh' Q' op = _ := e9
        rw [e9']
        have hPQ : ∀ k, k < 3 * m → w' k = Q' k := fun k hk => by rw [hag k hk, e8 k (Nat.zero_le _) hk]
        have hsum : sumw w' 0 m = sumw Q' 0 m := ag_sumw hPQ m 0 (by omega)
        have hstep : pf_Ch_steps S = some (lN (sumw Q' 0 m)).toInt32 := by
          unfold pf_Ch_steps pf_Ma_min_JJJ
          rw [hS, hsum, show (65536 : Int64) = lN 65536 from rfl]
          rw [hsum] at h65
          by_cases c : 0 < lg_cmp (lN 65536) (lN (sumw Q' 0 m))
          · rw [if_pos c]; rfl
          · rw [if_neg c]
            have c' : ¬ sumw Q' 0 m < 65536 := fun q => c ((lg_cmp_gt _ _).mpr ((pk_lLT (by omega) (by decide)).mpr q))
            rw [show sumw Q' 0 m = 65536 by omega]
            rfl
        rw [hstep]
        simp only [Option.bind_some]
        rw [if_pos trivial, if_pos (by decide)]
        refine ⟨m, (lN (sumw Q' 0 m)).toInt32, w', (chk w' m p3).2, S, D, LF, F, Gg, fresh', Q', op', ⟨hm1, hm, hPQ, h65, ⟨p3, hall⟩, hst, hsf, fun k hk => ?_⟩, rfl, rfl⟩
        rw [e10 k (Nat.zero_le _) hk, ag_stk hPQ k (by omega)]
      · left
        rw [if_neg (fun q => c5 (chk_le.mp q)), if_neg c5]
        exact ⟨_, _, _, _, _, _, _, _, _, _, rfl, rfl⟩
    · left
      rw [if_neg c4, if_neg c4, if_neg n10]
      exact ⟨rfl, rfl⟩
  · left
    have c2' : (256 : Int32) < p2 := by rw [Int32.le_iff_toInt_le] at c2; rw [Int32.lt_iff_toInt_lt]; omega
    rw [if_neg c2, if_pos c2', if_neg n10]
    exact ⟨rfl, rfl⟩
