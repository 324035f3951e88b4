/-! PURE PART 12: reading a source, both sides -/
def up4 (w v : Nat → Int32) : Nat → Int32 := upd (upd (upd (upd w 0 (v 0)) 1 (v 1)) 2 (v 2)) 3 (v 3)
theorem up4_at (w v : Nat → Int32) {j : Nat} (h : j < 4) : up4 w v j = v j := by
  have hq : j = 0 ∨ j = 1 ∨ j = 2 ∨ j = 3 := by omega
  rcases hq with rfl | rfl | rfl | rfl <;> rfl
def fsel (f : Nat) (T I U : Nat → Int32) (x : Nat) : Int32 := if f = 0 then T x else if f = 1 then I x else if f = 2 then U x else 0
def val (s : Nat) (T I U : Nat → Int32) (j : Nat) : Int32 :=
  if s / 2 ^ 15 % 2 ^ 1 = 1 then 0 - fsel (s % 2 ^ 2) T I U (4 * (s / 2 ^ 2 % 2 ^ 5) + s / 2 ^ (7 + 2 * j) % 2 ^ 2) else fsel (s % 2 ^ 2) T I U (4 * (s / 2 ^ 2 % 2 ^ 5) + s / 2 ^ (7 + 2 * j) % 2 ^ 2)
def okS (s : Nat) : Prop := (s % 2 ^ 2 = 0 → s / 2 ^ 2 % 2 ^ 5 < 16) ∧ (s % 2 ^ 2 = 1 → s / 2 ^ 2 % 2 ^ 5 < 8)
theorem okS_of {s : Nat} {had : Bool} (h : badS s had = false) : okS s := by
  unfold badS at h
  cases had with
  | true =>
    rw [if_pos rfl] at h
    unfold srcB at h
    simp only [Bool.or_eq_false_iff, decide_eq_false_iff_not] at h
    exact ⟨fun e => Nat.lt_of_not_le fun q => h.1.1 ⟨e, by omega⟩, fun e => Nat.lt_of_not_le fun q => h.1.2 ⟨e, by omega⟩⟩
  | false =>
    rw [if_neg (by decide)] at h
    have h0 : s = 0 := Classical.byContradiction fun q => by rw [decide_eq_true q] at h; cases h
    subst h0
    exact ⟨fun _ => by decide, fun _ => by decide⟩
theorem n4 (i : Nat) : (4 : Int32) * nI i = nI (4 * i) := pk_mul 4 i
theorem n2 (i : Nat) : (2 : Int32) * nI i = nI (2 * i) := pk_mul 2 i
theorem sh_7 {s j : Nat} (hs : s < 65536) (hj : j < 4) : (nI s >>> (((7 : Int32) + (2 : Int32) * nI j) &&& 31)) &&& 3 = nI (s / 2 ^ (7 + 2 * j) % 2 ^ 2) := by
  have hq : j = 0 ∨ j = 1 ∨ j = 2 ∨ j = 3 := by omega
  have hu := un_nI (n := s) (by omega)
  rcases hq with rfl | rfl | rfl | rfl
  · rw [un_sm (nI s) _ 7 2 (by decide) (by decide) (by decide), hu]
  · rw [un_sm (nI s) _ 9 2 (by decide) (by decide) (by decide), hu]
  · rw [un_sm (nI s) _ 11 2 (by decide) (by decide) (by decide), hu]
  · rw [un_sm (nI s) _ 13 2 (by decide) (by decide) (by decide), hu]
theorem sh_0 {s j : Nat} (hs : s < 65536) (hj : j < 4) : (nI s >>> (((2 : Int32) * nI j) &&& 31)) &&& 3 = nI (s / 2 ^ (2 * j) % 2 ^ 2) := by
  have hq : j = 0 ∨ j = 1 ∨ j = 2 ∨ j = 3 := by omega
  have hu := un_nI (n := s) (by omega)
  rcases hq with rfl | rfl | rfl | rfl
  · rw [un_sm (nI s) _ 0 2 (by decide) (by decide) (by decide), hu]
  · rw [un_sm (nI s) _ 2 2 (by decide) (by decide) (by decide), hu]
  · rw [un_sm (nI s) _ 4 2 (by decide) (by decide) (by decide), hu]
  · rw [un_sm (nI s) _ 6 2 (by decide) (by decide) (by decide), hu]
theorem mo_take_step (fu : Nat) (T I U R : Nat → Int32) {s t j n : Nat} (hs : s < 65536) (ht : t < 3) (hj : j < 4) (ho : okS s) :
    pf_Mo_take_10 fu 12 64 T 32 I 128 U (n + 1) (nI s) (nI t) (nI (s / 2 ^ 2 % 2 ^ 5)) (nI j) R = pf_Mo_take_10 fu 12 64 T 32 I 128 U n (nI s) (nI t) (nI (s / 2 ^ 2 % 2 ^ 5)) (nI (j + 1)) (upd R (4 * t + j) (val s T I U j)) := by
  have hu := un_nI (n := s) (by omega)
  have hn : s / 2 ^ 2 % 2 ^ 5 < 32 := Nat.mod_lt _ (by decide)
  have hp : s / 2 ^ (7 + 2 * j) % 2 ^ 2 < 4 := Nat.mod_lt _ (by decide)
  have hf : s % 2 ^ 2 < 4 := Nat.mod_lt _ (by decide)
  have hb : s / 2 ^ 15 % 2 ^ 1 < 2 := Nat.mod_lt _ (by decide)
  obtain ⟨ho0, ho1⟩ := ho
  rw [pf_Mo_take_10, ite_Kle (a := j) (K := 4) 4 rfl (by omega) (by decide), if_neg (by omega), sh_7 hs hj, an_3, hu, sm_15, hu, n4, n4, nI_add, nI_add, p1n]
  rw [ite_eqK (a := s / 2 ^ 15 % 2 ^ 1) (K := 1) 1 rfl (by omega) (by decide)]
  rw [ite_eqK (a := s / 2 ^ 15 % 2 ^ 1) (K := 1) 1 rfl (by omega) (by decide)]
  rw [ite_eqK (a := s / 2 ^ 15 % 2 ^ 1) (K := 1) 1 rfl (by omega) (by decide)]
  rw [ite_eqK (a := s / 2 ^ 15 % 2 ^ 1) (K := 1) 1 rfl (by omega) (by decide)]
  have hin : (0 : Int32) ≤ nI (4 * t + j) ∧ 4 * t + j < 12 := ⟨nI_pos' (by omega), by omega⟩
  simp only [nI_clamp (show 4 * t + j < 2 ^ 31 by omega), if_pos hin, nI_clamp (show 4 * (s / 2 ^ 2 % 2 ^ 5) + s / 2 ^ (7 + 2 * j) % 2 ^ 2 < 2 ^ 31 by omega)]
  unfold val fsel
  generalize s / 2 ^ (7 + 2 * j) % 2 ^ 2 = p at *
  generalize s / 2 ^ 15 % 2 ^ 1 = b at *
  generalize s / 2 ^ 2 % 2 ^ 5 = q at *
  have hq : s % 2 ^ 2 = 0 ∨ s % 2 ^ 2 = 1 ∨ s % 2 ^ 2 = 2 ∨ s % 2 ^ 2 = 3 := by omega
  rcases hq with e | e | e | e
  · have h1 := ho0 e
    rw [e, if_neg (by decide), if_pos (by decide), if_pos ⟨nI_pos' (by omega), by omega⟩]
    by_cases c : b = 1
    · rw [if_pos c, if_pos c]; rfl
    · rw [if_neg c, if_neg c]; rfl
  · have h1 := ho1 e
    rw [e, if_neg (by decide), if_neg (by decide), if_pos (by decide), if_pos ⟨nI_pos' (by omega), by omega⟩]
    by_cases c : b = 1
    · rw [if_pos c, if_pos c]; rfl
    · rw [if_neg c, if_neg c]; rfl
  · rw [e, if_neg (by decide), if_neg (by decide), if_neg (by decide), if_pos (by decide), if_pos ⟨nI_pos' (by omega), by omega⟩]
    by_cases c : b = 1
    · rw [if_pos c, if_pos c]; rfl
    · rw [if_neg c, if_neg c]; rfl
  · rw [e, if_pos (by decide)]
    by_cases c : b = 1
    · rw [if_pos c, if_pos c]; rfl
    · rw [if_neg c, if_neg c]; rfl
theorem mo_take (fu : Nat) (T I U R : Nat → Int32) {s t : Nat} (hs : s < 65536) (ht : t < 3) (ho : okS s) (hf : 768 < fu) :
    ∃ R', pf_Mo_take fu (nI s) (nI t) 12 R 64 T 32 I 128 U = some R' ∧ (∀ j, j < 4 → R' (4 * t + j) = val s T I U j) ∧ ∀ k, (k < 4 * t ∨ 4 * t + 4 ≤ k) → R' k = R k := by
  obtain ⟨z, rfl⟩ : ∃ z, fu = z + 5 := ⟨fu - 5, by omega⟩
  refine ⟨upd (upd (upd (upd R (4 * t + 0) (val s T I U 0)) (4 * t + 1) (val s T I U 1)) (4 * t + 2) (val s T I U 2)) (4 * t + 3) (val s T I U 3), ?_, fun j hj => ?_, fun k hk => ?_⟩
  · unfold pf_Mo_take
    rw [sm_2, un_nI (n := s) (by omega)]
    have h0 := mo_take_step (z + 5) T I U R (n := z + 4) hs ht (show 0 < 4 by decide) ho
    have h1 := fun R => mo_take_step (z + 5) T I U R (n := z + 3) hs ht (show 1 < 4 by decide) ho
    have h2 := fun R => mo_take_step (z + 5) T I U R (n := z + 2) hs ht (show 2 < 4 by decide) ho
    have h3 := fun R => mo_take_step (z + 5) T I U R (n := z + 1) hs ht (show 3 < 4 by decide) ho
    refine h0.trans ((h1 _).trans ((h2 _).trans ((h3 _).trans ?_)))
    rw [pf_Mo_take_10, if_pos (by decide)]
  · have hq : j = 0 ∨ j = 1 ∨ j = 2 ∨ j = 3 := by omega
    rcases hq with rfl | rfl | rfl | rfl
    · rw [pk_un (by omega), pk_un (by omega), pk_un (by omega), pk_us]
    · rw [pk_un (by omega), pk_un (by omega), pk_us]
    · rw [pk_un (by omega), pk_us]
    · rw [pk_us]
  · rw [pk_un (by omega), pk_un (by omega), pk_un (by omega), pk_un (by omega)]
theorem ve_has {k many : Nat} (hk : k < 2 ^ 31) (hm : many < 2 ^ 31) : pf_Ve_has (nI k) (nI many) = some (b01 (decide (k < many))) := by
  unfold pf_Ve_has
  rw [if_neg (nI_pos hk)]
  by_cases h : k < many
  · rw [if_neg (nI_ge h hm), decide_eq_true h]; rfl
  · rw [if_pos (nI_le (by omega) hk), decide_eq_false h]; rfl
theorem pick_no (fu : Nat) (np : Nat) (F w : Nat → Int32) (x p : Int32) (hf : 4 < fu) : pf_Ve_pick_10 fu 4 np F fu x p 0 0 w = some (up4 w fun _ => 0) := by
  obtain ⟨z, rfl⟩ : ∃ z, fu = z + 5 := ⟨fu - 5, by omega⟩
  rfl
theorem pick_step (fu : Nat) {np : Nat} (F w : Nat → Int32) {k p j n : Nat} (hk : 4 * k + 3 < np) (hnp : np < 2 ^ 30) (hp : p < 65536) (hj : j < 4) :
    pf_Ve_pick_10 fu 4 np F (n + 1) (nI k) (nI p) 1 (nI j) w = pf_Ve_pick_10 fu 4 np F n (nI k) (nI p) 1 (nI (j + 1)) (upd w j (F (4 * k + p / 2 ^ (2 * j) % 2 ^ 2))) := by
  have h2 : p / 2 ^ (2 * j) % 2 ^ 2 < 4 := Nat.mod_lt _ (by decide)
  rw [pf_Ve_pick_10, ite_Kle (a := j) (K := Int32.ofNat 4) 4 rfl (by omega) (by decide), if_neg (by omega), if_neg (by decide), sh_0 hp hj, n4, nI_add, if_pos (inN (by omega) (by omega)), if_pos (inN (by omega) (by decide)), nI_clamp (by omega), nI_clamp (by omega), p1n]
theorem pick_yes (fu : Nat) {np : Nat} (F w : Nat → Int32) {k p : Nat} (hk : 4 * k + 3 < np) (hnp : np < 2 ^ 30) (hp : p < 65536) (hf : 4 < fu) : pf_Ve_pick_10 fu 4 np F fu (nI k) (nI p) 1 0 w = some (up4 w fun j => F (4 * k + p / 2 ^ (2 * j) % 2 ^ 2)) := by
  obtain ⟨z, rfl⟩ : ∃ z, fu = z + 5 := ⟨fu - 5, by omega⟩
  have h0 := pick_step (z + 5) F w (n := z + 4) hk hnp hp (show 0 < 4 by decide)
  have h1 := fun w => pick_step (z + 5) F w (n := z + 3) hk hnp hp (show 1 < 4 by decide)
  have h2 := fun w => pick_step (z + 5) F w (n := z + 2) hk hnp hp (show 2 < 4 by decide)
  have h3 := fun w => pick_step (z + 5) F w (n := z + 1) hk hnp hp (show 3 < 4 by decide)
  refine h0.trans ((h1 _).trans ((h2 _).trans ((h3 _).trans ?_)))
  rw [pf_Ve_pick_10, if_pos (by decide)]
  rfl
theorem ru_neg (fu : Nat) (w : Nat → Int32) (hf : 4 < fu) : pf_Ru_negate fu 4 w = some (up4 w fun j => -(w j)) := by
  obtain ⟨z, rfl⟩ : ∃ z, fu = z + 5 := ⟨fu - 5, by omega⟩
  rfl
theorem pick_all (fu : Nat) {np many : Nat} (F w : Nat → Int32) {k p : Nat} (hk : k < 32) (hm : 4 * many ≤ np) (hnp : np < 2 ^ 30) (hp : p < 65536) (hf : 4 < fu) : pf_Ve_pick fu (nI k) (nI p) (nI many) 4 w np F = some (up4 w fun j => if k < many then F (4 * k + p / 2 ^ (2 * j) % 2 ^ 2) else 0) := by
  unfold pf_Ve_pick
  rw [ve_has (by omega) (by omega)]
  simp only [Option.bind_some]
  by_cases c : k < many
  · rw [decide_eq_true c]
    simp only [if_pos c]
    exact pick_yes fu F w (by omega) hnp hp hf
  · rw [decide_eq_false c]
    simp only [if_neg c]
    exact pick_no fu np F w _ _ hf
theorem ru_src (fu : Nat) (T I U N w : Nat → Int32) {s : Nat} (hs : s < 65536) (ho : okS s) (hf : 768 < fu) :
    ∃ w', pf_Ru_readSource fu (nI s) 0 4 w 0 N 16 64 T 8 32 I 32 128 U = some w' ∧ ∀ j, j < 4 → w' j = val s T I U j := by
  have hu := un_nI (n := s) (by omega)
  have hn : s / 2 ^ 2 % 2 ^ 5 < 32 := Nat.mod_lt _ (by decide)
  have hp : s / 2 ^ 7 % 2 ^ 8 < 256 := Nat.mod_lt _ (by decide)
  have hf' : s % 2 ^ 2 < 4 := Nat.mod_lt _ (by decide)
  have hb : s / 2 ^ 15 % 2 ^ 1 < 2 := Nat.mod_lt _ (by decide)
  have hsh : ∀ j, j < 4 → s / 2 ^ 7 % 2 ^ 8 / 2 ^ (2 * j) % 2 ^ 2 = s / 2 ^ (7 + 2 * j) % 2 ^ 2 := by
    intro j hj
    have hq : j = 0 ∨ j = 1 ∨ j = 2 ∨ j = 3 := by omega
    rcases hq with rfl | rfl | rfl | rfl <;> omega
  obtain ⟨ho0, ho1⟩ := ho
  unfold pf_Ru_readSource pf_So_file pf_So_number pf_So_picks pf_So_isNegated
  rw [an_3, sm_2, sm_7, sm_15, hu]
  simp only [Option.bind_some]
  have key : ∀ (F : Nat → Int32) (many np : Nat), 4 * many ≤ np → np < 2 ^ 30 → (∀ j, j < 4 → (if s / 2 ^ 2 % 2 ^ 5 < many then F (4 * (s / 2 ^ 2 % 2 ^ 5) + s / 2 ^ (7 + 2 * j) % 2 ^ 2) else 0) = fsel (s % 2 ^ 2) T I U (4 * (s / 2 ^ 2 % 2 ^ 5) + s / 2 ^ (7 + 2 * j) % 2 ^ 2)) →
      ∃ w', (Option.bind (pf_Ve_pick fu (nI (s / 2 ^ 2 % 2 ^ 5)) (nI (s / 2 ^ 7 % 2 ^ 8)) (nI many) 4 w np F) fun w_11 => Option.bind (if nI (s / 2 ^ 15 % 2 ^ 1) = 0 then some (0 : Int32) else some 1) fun r_13 => if r_13 = 0 then some w_11 else Option.bind (pf_Ru_negate fu 4 w_11) fun w_16 => some w_16) = some w' ∧ ∀ j, j < 4 → w' j = val s T I U j := by
    intro F many np h1 h2 h3
    rw [pick_all fu F w hn h1 h2 (by omega) (by omega)]
    simp only [Option.bind_some]
    rw [ite_eqK (a := s / 2 ^ 15 % 2 ^ 1) (K := 0) 0 rfl (by omega) (by decide)]
    by_cases c : s / 2 ^ 15 % 2 ^ 1 = 0
    · rw [if_pos c]
      refine ⟨_, rfl, fun j hj => ?_⟩
      rw [up4_at _ _ hj, hsh j hj, h3 j hj]
      unfold val
      rw [if_neg (by omega)]
    · rw [if_neg c]
      simp only [Option.bind_some]
      rw [if_neg (by decide), ru_neg fu _ (by omega)]
      refine ⟨_, rfl, fun j hj => ?_⟩
      rw [up4_at _ _ hj, up4_at _ _ hj, hsh j hj, h3 j hj]
      unfold val
      rw [if_pos (by omega), Int32.zero_sub]
  have hq : s % 2 ^ 2 = 0 ∨ s % 2 ^ 2 = 1 ∨ s % 2 ^ 2 = 2 ∨ s % 2 ^ 2 = 3 := by omega
  rcases hq with e | e | e | e
  · rw [e]
    refine key T 16 64 (by decide) (by decide) (fun j hj => ?_)
    rw [if_pos (ho0 e), e]; rfl
  · rw [e]
    refine key I 8 32 (by decide) (by decide) (fun j hj => ?_)
    rw [if_pos (ho1 e), e]; rfl
  · rw [e]
    refine key U 32 128 (by decide) (by decide) (fun j hj => ?_)
    rw [if_pos hn, e]; rfl
  · rw [e]
    refine key N 0 0 (by decide) (by decide) (fun j hj => ?_)
    rw [if_neg (by omega), e]; rfl
