/-! PURE PART 16: writing the target, both sides -/
def kv (kb : Nat) (x : Int32) : Int32 := if kb = 0 then x else if 0 ≤ x then (if x ≤ 65536 then x else 65536) else 0
def st (W num : Nat) (v : Nat → Int32) (j : Nat) (F : Nat → Int32) : Nat → Int32 := if W / 2 ^ (12 + j) % 2 ^ 1 = 1 then upd F (4 * num + j) (v j) else F
theorem fi_kept (x : Int32) : pf_Fi_keptWithin x = some (kv 1 x) := by
  unfold pf_Fi_keptWithin pf_Ma_min pf_Ma_max kv
  rw [if_neg (show ¬ (1 : Nat) = 0 by decide)]
  by_cases c : x < 65536
  · rw [if_pos c]
    simp only [Option.bind_some]
    by_cases d : 0 < x
    · rw [if_pos d, if_pos (Int32.le_of_lt d), if_pos (Int32.le_of_lt c)]; rfl
    · rw [if_neg d]
      by_cases e : 0 ≤ x
      · rw [if_pos e, if_pos (Int32.le_of_lt c), i32_eq (i32_nlt.mp d) e]; rfl
      · rw [if_neg e]; rfl
  · rw [if_neg c]
    simp only [Option.bind_some]
    have c' := i32_nlt.mp c
    rw [if_pos (by decide), if_pos (Int32.le_trans (by decide) c')]
    by_cases e : x ≤ 65536
    · rw [if_pos e, i32_eq e c']; rfl
    · rw [if_neg e]; rfl
theorem sh_12 (w : Int32) {j : Nat} (hj : j < 4) : (w >>> (((12 : Int32) + nI j) &&& 31)) &&& 1 = nI (un w / 2 ^ (12 + j) % 2 ^ 1) := by
  rcases four hj with rfl | rfl | rfl | rfl
  · rw [un_sm w _ 12 1 (by decide) (by decide) (by decide)]
  · rw [un_sm w _ 13 1 (by decide) (by decide) (by decide)]
  · rw [un_sm w _ 14 1 (by decide) (by decide) (by decide)]
  · rw [un_sm w _ 15 1 (by decide) (by decide) (by decide)]
theorem ve_hasPart {k j many : Nat} (hk : k < many) (hj : j < 4) (hm : many < 2 ^ 31) : pf_Ve_hasPart (nI k) (nI j) (nI many) = some 1 := by
  unfold pf_Ve_hasPart
  rw [if_neg (nI_pos (by omega)), if_neg (nI_ge hk hm), if_neg (nI_pos (by omega)), ite_Kle (a := j) (K := 4) 4 rfl (by omega) (by decide), if_neg (by omega)]
theorem ve_setPart {k j many np : Nat} (hk : k < many) (hj : j < 4) (hm : 4 * many ≤ np) (hnp : np < 2 ^ 31) (v : Int32) (F : Nat → Int32) : pf_Ve_setPart (nI k) (nI j) v (nI many) np F = some (upd F (4 * k + j) v) := by
  unfold pf_Ve_setPart
  rw [ve_hasPart hk hj (by omega)]
  simp only [Option.bind_some]
  rw [if_neg (by decide), n4, nI_add, if_pos (inN (by omega) hnp), nI_clamp (by omega)]
theorem ve_sp16 {k j : Nat} (hk : k < 16) (hj : j < 4) (v : Int32) (F : Nat → Int32) : pf_Ve_setPart (nI k) (nI j) v 16 64 F = some (upd F (4 * k + j) v) := ve_setPart (many := 16) (np := 64) hk hj (by decide) (by decide) v F
theorem ve_sp8 {k j : Nat} (hk : k < 8) (hj : j < 4) (v : Int32) (F : Nat → Int32) : pf_Ve_setPart (nI k) (nI j) v 8 32 F = some (upd F (4 * k + j) v) := ve_setPart (many := 8) (np := 32) hk hj (by decide) (by decide) v F
theorem ta_sets (w : Int32) {j : Nat} (hj : j < 4) : pf_Ta_sets w (nI j) = some (if un w / 2 ^ (12 + j) % 2 ^ 1 = 1 then 1 else 0) := by
  have h2 : un w / 2 ^ (12 + j) % 2 ^ 1 < 2 := Nat.mod_lt _ (by decide)
  unfold pf_Ta_sets
  rw [sh_12 w hj, ite_eqK (a := un w / 2 ^ (12 + j) % 2 ^ 1) (K := 0) 0 rfl (by omega) (by decide)]
  by_cases c : un w / 2 ^ (12 + j) % 2 ^ 1 = 1
  · rw [if_pos c, if_neg (by omega)]
  · rw [if_neg c, if_pos (by omega)]
/-- whether kept within 0 and one, as the class holds it -/
def kz (kb : Nat) : Int32 := if kb = 0 then 0 else 1
theorem tg_step (fu : Nat) (res O T : Nat → Int32) (w : Int32) {num kb j n : Nat} (hn : num < 16) (hb : kb < 2) (hj : j < 4) : pf_Ru_setTarget_26 fu 4 res 16 64 (n + 1) w (nI num) (kz kb) (nI j) O T = pf_Ru_setTarget_26 fu 4 res 16 64 n w (nI num) (kz kb) (nI (j + 1)) O (st (un w) num (fun j => kv kb (res j)) j T) := by
  rw [pf_Ru_setTarget_26, ite_Kle (a := j) (K := 4) 4 rfl (by omega) (by decide), if_neg (by omega), ta_sets w hj]
  simp only [Option.bind_some]
  unfold st
  by_cases c : un w / 2 ^ (12 + j) % 2 ^ 1 = 1
  · rw [if_pos c, if_pos c, if_neg (by decide), if_pos (inN (by omega) (by decide)), if_pos (inN (by omega) (by decide)), nI_clamp (by omega), fi_kept]
    simp only [Option.bind_some]
    rw [ve_sp16 hn hj, ve_sp16 hn hj, p1n]
    simp only [Option.bind_some]
    have hq : kb = 0 ∨ kb = 1 := by omega
    rcases hq with rfl | rfl <;> rfl
  · rw [if_neg c, if_neg c, if_pos rfl, p1n]
theorem tg_step1 (fu : Nat) (res O T : Nat → Int32) (w : Int32) {num kb j n : Nat} (hn : num < 8) (hb : kb < 2) (hj : j < 4) : pf_Ru_setTarget_26v1 fu 4 res 8 32 (n + 1) w (nI num) (kz kb) (nI j) O T = pf_Ru_setTarget_26v1 fu 4 res 8 32 n w (nI num) (kz kb) (nI (j + 1)) (st (un w) num (fun j => kv kb (res j)) j O) T := by
  rw [pf_Ru_setTarget_26v1, ite_Kle (a := j) (K := 4) 4 rfl (by omega) (by decide), if_neg (by omega), ta_sets w hj]
  simp only [Option.bind_some]
  unfold st
  by_cases c : un w / 2 ^ (12 + j) % 2 ^ 1 = 1
  · rw [if_pos c, if_pos c, if_neg (by decide), if_pos (inN (by omega) (by decide)), if_pos (inN (by omega) (by decide)), nI_clamp (by omega), fi_kept]
    simp only [Option.bind_some]
    rw [ve_sp8 hn hj, ve_sp8 hn hj, p1n]
    simp only [Option.bind_some]
    have hq : kb = 0 ∨ kb = 1 := by omega
    rcases hq with rfl | rfl <;> rfl
  · rw [if_neg c, if_neg c, if_pos rfl, p1n]
def st4 (W num : Nat) (v F : Nat → Int32) : Nat → Int32 := st W num v 3 (st W num v 2 (st W num v 1 (st W num v 0 F)))
theorem st4_congr (W num : Nat) (v v' F : Nat → Int32) (h : ∀ j, j < 4 → v j = v' j) : st4 W num v F = st4 W num v' F := by
  unfold st4 st
  rw [h 0 (by decide), h 1 (by decide), h 2 (by decide), h 3 (by decide)]
theorem ru_target (fu : Nat) (hf : 768 < fu) (res O T : Nat → Int32) (w : Int32) (h0 : un w / 2 ^ 6 % 2 ^ 2 = 0 ∨ (un w / 2 ^ 6 % 2 ^ 2 = 1 ∧ un w / 2 ^ 8 % 2 ^ 4 < 8)) :
    pf_Ru_setTarget fu w 4 res 8 32 O 16 64 T = some (if un w / 2 ^ 6 % 2 ^ 2 = 0 then (O, st4 (un w) (un w / 2 ^ 8 % 2 ^ 4) (fun j => kv (un w / 2 ^ 16 % 2 ^ 1) (res j)) T) else (st4 (un w) (un w / 2 ^ 8 % 2 ^ 4) (fun j => kv (un w / 2 ^ 16 % 2 ^ 1) (res j)) O, T)) := by
  obtain ⟨z, rfl⟩ : ∃ z, fu = z + 5 := ⟨fu - 5, by omega⟩
  have hn : un w / 2 ^ 8 % 2 ^ 4 < 16 := Nat.mod_lt _ (by decide)
  have hb : un w / 2 ^ 16 % 2 ^ 1 < 2 := Nat.mod_lt _ (by decide)
  unfold pf_Ru_setTarget pf_Ta_file pf_Ta_number pf_Ta_isKeptWithin
  rw [sm_6, sm_8, sm_16]
  simp only [Option.bind_some]
  have hkz : (if nI (un w / 2 ^ 16 % 2 ^ 1) = 0 then some (0 : Int32) else some 1) = some (kz (un w / 2 ^ 16 % 2 ^ 1)) := by
    rw [ite_eqK (a := un w / 2 ^ 16 % 2 ^ 1) (K := 0) 0 rfl (by omega) (by decide)]
    unfold kz
    split <;> rfl
  rw [hkz]
  simp only [Option.bind_some]
  rcases h0 with e | ⟨e, hn8⟩
  · rw [e, if_pos rfl]
    have h0 := tg_step (z + 5) res O T w (n := z + 4) hn hb (show 0 < 4 by decide)
    have h1 := fun T => tg_step (z + 5) res O T w (n := z + 3) hn hb (show 1 < 4 by decide)
    have h2 := fun T => tg_step (z + 5) res O T w (n := z + 2) hn hb (show 2 < 4 by decide)
    have h3 := fun T => tg_step (z + 5) res O T w (n := z + 1) hn hb (show 3 < 4 by decide)
    refine h0.trans ((h1 _).trans ((h2 _).trans ((h3 _).trans ?_)))
    rw [pf_Ru_setTarget_26, if_pos (by decide)]
    rfl
  · rw [e, if_neg (by decide)]
    have h0 := tg_step1 (z + 5) res O T w (n := z + 4) hn8 hb (show 0 < 4 by decide)
    have h1 := fun O => tg_step1 (z + 5) res O T w (n := z + 3) hn8 hb (show 1 < 4 by decide)
    have h2 := fun O => tg_step1 (z + 5) res O T w (n := z + 2) hn8 hb (show 2 < 4 by decide)
    have h3 := fun O => tg_step1 (z + 5) res O T w (n := z + 1) hn8 hb (show 3 < 4 by decide)
    refine h0.trans ((h1 _).trans ((h2 _).trans ((h3 _).trans ?_)))
    rw [pf_Ru_setTarget_26v1, if_pos (by decide)]
    rfl
section PUT
variable (fu : Nat) (R Tx U M : Nat → Int32) (told kd' : Int32)
theorem pu_step (O T rs v : Nat → Int32) (w : Int32) {j n : Nat} (hj : j < 4) (h : pf_Mo_part fu kd' (nI j) told 12 R 16 Tx 128 U 1024 M = some (v j)) :
    pf_Mo_put_2 fu told 12 R 16 Tx 128 U 1024 M 4 32 64 (n + 1) w kd' (nI j) rs O T = pf_Mo_put_2 fu told 12 R 16 Tx 128 U 1024 M 4 32 64 n w kd' (nI (j + 1)) (upd rs j (kv (un w / 2 ^ 16 % 2 ^ 1) (v j))) O T := by
  have hb : un w / 2 ^ 16 % 2 ^ 1 < 2 := Nat.mod_lt _ (by decide)
  rw [pf_Mo_put_2, ite_Kle (a := j) (K := 4) 4 rfl (by omega) (by decide), if_neg (by omega), h]
  simp only [Option.bind_some]
  rw [sm_16, ite_eqK (a := un w / 2 ^ 16 % 2 ^ 1) (K := 0) 0 rfl (by omega) (by decide)]
  rw [if_pos (inN (by omega) (by decide)), if_pos (inN (by omega) (by decide)), if_pos (inN (by omega) (by decide)), nI_clamp (by omega), p1n]
  unfold kv
  by_cases c : un w / 2 ^ 16 % 2 ^ 1 = 0
  · rw [if_pos c, if_pos c]
  · rw [if_neg c, if_neg c]
    by_cases d : 0 ≤ v j
    · rw [if_pos d, if_pos d]
      by_cases e : v j ≤ 65536
      · rw [if_pos e, if_pos e]
      · rw [if_neg e, if_neg e]
    · rw [if_neg d, if_neg d]
theorem pv_step (O T rs : Nat → Int32) (w : Int32) {j n : Nat} (hj : j < 4) (h0 : un w / 2 ^ 6 % 2 ^ 2 = 0 ∨ (un w / 2 ^ 6 % 2 ^ 2 = 1 ∧ un w / 2 ^ 8 % 2 ^ 4 < 8)) :
    pf_Mo_put_66 fu 4 32 64 (n + 1) w (nI j) rs O T = pf_Mo_put_66 fu 4 32 64 n w (nI (j + 1)) rs (if un w / 2 ^ 6 % 2 ^ 2 = 0 then O else st (un w) (un w / 2 ^ 8 % 2 ^ 4) rs j O) (if un w / 2 ^ 6 % 2 ^ 2 = 0 then st (un w) (un w / 2 ^ 8 % 2 ^ 4) rs j T else T) := by
  have hn : un w / 2 ^ 8 % 2 ^ 4 < 16 := Nat.mod_lt _ (by decide)
  have h2 : un w / 2 ^ (12 + j) % 2 ^ 1 < 2 := Nat.mod_lt _ (by decide)
  have h6 : un w / 2 ^ 6 % 2 ^ 2 < 4 := Nat.mod_lt _ (by decide)
  rw [pf_Mo_put_66, ite_Kle (a := j) (K := 4) 4 rfl (by omega) (by decide), if_neg (by omega), sh_12 w hj, ite_eqK (a := un w / 2 ^ (12 + j) % 2 ^ 1) (K := 1) 1 rfl (by omega) (by decide), sm_6, ite_eqK (a := un w / 2 ^ 6 % 2 ^ 2) (K := 0) 0 rfl (by omega) (by decide), sm_8, n4, nI_add, p1n]
  rw [if_pos (inN (show j < 4 by omega) (by decide)), if_pos (inN (show j < 4 by omega) (by decide)), nI_clamp (show j < 2 ^ 31 by omega)]
  unfold st
  rcases h0 with e | ⟨e, hn8⟩
  · rw [e, if_pos rfl, if_pos rfl, if_pos rfl]
    by_cases c : un w / 2 ^ (12 + j) % 2 ^ 1 = 1
    · rw [if_pos c, if_pos c, if_pos (inN (by omega) (by decide)), nI_clamp (by omega)]
    · rw [if_neg c, if_neg c]
  · have n10 : ¬ (1 : Nat) = 0 := by decide
    rw [e, if_neg n10, if_neg n10, if_neg n10]
    by_cases c : un w / 2 ^ (12 + j) % 2 ^ 1 = 1
    · rw [if_pos c, if_pos c, if_pos (inN (by omega) (by decide)), nI_clamp (by omega)]
    · rw [if_neg c, if_neg c]
theorem mo_put (hf : 768 < fu) (O T rs v : Nat → Int32) (w : Int32) (h0 : un w / 2 ^ 6 % 2 ^ 2 = 0 ∨ (un w / 2 ^ 6 % 2 ^ 2 = 1 ∧ un w / 2 ^ 8 % 2 ^ 4 < 8)) (h : ∀ j, j < 4 → pf_Mo_part fu kd' (nI j) told 12 R 16 Tx 128 U 1024 M = some (v j)) :
    ∃ rs', pf_Mo_put fu w kd' told 12 R 16 Tx 128 U 1024 M 4 rs 32 O 64 T = some (rs', if un w / 2 ^ 6 % 2 ^ 2 = 0 then (O, st4 (un w) (un w / 2 ^ 8 % 2 ^ 4) (fun j => kv (un w / 2 ^ 16 % 2 ^ 1) (v j)) T) else (st4 (un w) (un w / 2 ^ 8 % 2 ^ 4) (fun j => kv (un w / 2 ^ 16 % 2 ^ 1) (v j)) O, T)) := by
  obtain ⟨z, rfl⟩ : ∃ z, fu = z + 5 := ⟨fu - 5, by omega⟩
  refine ⟨up4 rs (fun j => kv (un w / 2 ^ 16 % 2 ^ 1) (v j)), ?_⟩
  have h0' := pu_step (z + 5) R Tx U M told kd' O T rs v w (n := z + 4) (show 0 < 4 by decide) (h 0 (by decide))
  have h1 := fun rs => pu_step (z + 5) R Tx U M told kd' O T rs v w (n := z + 3) (show 1 < 4 by decide) (h 1 (by decide))
  have h2 := fun rs => pu_step (z + 5) R Tx U M told kd' O T rs v w (n := z + 2) (show 2 < 4 by decide) (h 2 (by decide))
  have h3 := fun rs => pu_step (z + 5) R Tx U M told kd' O T rs v w (n := z + 1) (show 3 < 4 by decide) (h 3 (by decide))
  refine h0'.trans ((h1 _).trans ((h2 _).trans ((h3 _).trans ?_)))
  rw [pf_Mo_put_2, if_pos (by decide)]
  have e0 := fun O T rs => pv_step (z + 5) O T rs w (n := z + 4) (show 0 < 4 by decide) h0
  have e1 := fun O T rs => pv_step (z + 5) O T rs w (n := z + 3) (show 1 < 4 by decide) h0
  have e2 := fun O T rs => pv_step (z + 5) O T rs w (n := z + 2) (show 2 < 4 by decide) h0
  have e3 := fun O T rs => pv_step (z + 5) O T rs w (n := z + 1) (show 3 < 4 by decide) h0
  refine (e0 _ _ _).trans ((e1 _ _ _).trans ((e2 _ _ _).trans ((e3 _ _ _).trans ?_)))
  rw [pf_Mo_put_66, if_pos (by decide)]
  have hst := fun F => st4_congr (un w) (un w / 2 ^ 8 % 2 ^ 4) (up4 rs fun j => kv (un w / 2 ^ 16 % 2 ^ 1) (v j)) (fun j => kv (un w / 2 ^ 16 % 2 ^ 1) (v j)) F (fun j hj => up4_at _ _ hj)
  rw [← hst, ← hst]
  rcases h0 with e | ⟨e, -⟩
  · rw [e]; rfl
  · rw [e]; rfl
end PUT
