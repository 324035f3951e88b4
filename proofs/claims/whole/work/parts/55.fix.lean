/-! PURE PART 13: the arithmetic, both sides -/
theorem ru_srcs (fu : Nat) (P T I U N a b c : Nat → Int32) {i m q : Nat} (hi : i < m) (hm : m ≤ 256) (hq : q ≤ 3) (ho : ∀ j, j < 3 → okS (src3 P i j)) (hf : 768 < fu) :
    ∃ c' b' a', pf_Ru_readSources fu (nI i) (nI q) (nI m) 768 P 0 4 c 0 N 16 64 T 8 32 I 32 128 U 4 b 4 a = some (c', b', a') ∧ (1 ≤ q → ∀ j, j < 4 → a' j = val (src3 P i 0) T I U j) ∧ (2 ≤ q → ∀ j, j < 4 → b' j = val (src3 P i 1) T I U j) ∧ (3 ≤ q → ∀ j, j < 4 → c' j = val (src3 P i 2) T I U j) := by
  obtain ⟨a', ea, ha⟩ := ru_src fu T I U N a (src3_lt P i 0) (ho 0 (by decide)) hf
  obtain ⟨b', eb, hb⟩ := ru_src fu T I U N b (src3_lt P i 1) (ho 1 (by decide)) hf
  obtain ⟨c', ec, hc⟩ := ru_src fu T I U N c (src3_lt P i 2) (ho 2 (by decide)) hf
  have ea' : pf_Ru_readSource fu (nI (un (P (3 * i + 1)) % 2 ^ 16)) 0 4 a 0 N 16 64 T 8 32 I 32 128 U = some a' := ea
  have eb' : pf_Ru_readSource fu (nI (un (P (3 * i + 1)) / 2 ^ 16)) 0 4 b 0 N 16 64 T 8 32 I 32 128 U = some b' := eb
  have ec' : pf_Ru_readSource fu (nI (un (P (3 * i + 2)) % 2 ^ 16)) 0 4 c 0 N 16 64 T 8 32 I 32 128 U = some c' := ec
  unfold pf_Ru_readSources
  rw [pr_second P hi hm, pr_third P hi hm]
  simp only [Option.bind_some, an_16, us_16]
  rw [ea', eb', ec']
  simp only [Option.bind_some]
  have hqq : q = 0 ∨ q = 1 ∨ q = 2 ∨ q = 3 := by omega
  rcases hqq with rfl | rfl | rfl | rfl
  · exact ⟨c, b, a, rfl, fun h => by omega, fun h => by omega, fun h => by omega⟩
  · exact ⟨c, b, a', rfl, fun _ => ha, fun h => by omega, fun h => by omega⟩
  · exact ⟨c, b', a', rfl, fun _ => ha, fun _ => hb, fun h => by omega⟩
  · exact ⟨c', b', a', rfl, fun _ => ha, fun _ => hb, fun _ => hc⟩
/-! roots -/
theorem root_eq (fu : Nat) : ∀ (n : Nat) (x0 x2 x4 : Int64), pf_Fi_root_7 fu n x0 x2 x4 = pf_Mo_greatest_7 fu n x0 x2 x4 := by
  intro n
  induction n with
  | zero => intro x0 x2 x4; rfl
  | succ n ih =>
    intro x0 x2 x4
    rw [pf_Fi_root_7, pf_Mo_greatest_7, ih, ih]
theorem root_sh : ∀ k, k < 25 → (lN (2 ^ (k + 1)) >>> ((1 : Int32).toInt64 &&& 63)) = lN (2 ^ k) := by decide +kernel
theorem root_pos : ∀ k, k < 25 → ¬ lg_cmp (lN (2 ^ k)) 0 ≤ 0 := by decide +kernel
theorem root_some (fu : Nat) : ∀ (k n : Nat) (x0 x2 : Int64), k < 25 → k + 1 < n → ∃ v, pf_Mo_greatest_7 fu n x0 x2 (lN (2 ^ k)) = some v := by
  intro k
  induction k with
  | zero =>
    intro n x0 x2 _ h
    obtain ⟨n, rfl⟩ : ∃ z, n = z + 2 := ⟨n - 2, by omega⟩
    have h0 : (lN (2 ^ 0) >>> ((1 : Int32).toInt64 &&& 63)) = 0 := by decide +kernel
    have h1 : lg_cmp (0 : Int64) 0 ≤ 0 := by decide +kernel
    rw [pf_Mo_greatest_7, if_neg (root_pos 0 (by decide)), h0, pf_Mo_greatest_7, if_pos h1, pf_Mo_greatest_7, if_pos h1]
    split
    · exact ⟨_, rfl⟩
    · exact ⟨_, rfl⟩
  | succ k ih =>
    intro n x0 x2 hk h
    obtain ⟨n, rfl⟩ : ∃ z, n = z + 1 := ⟨n - 1, by omega⟩
    rw [pf_Mo_greatest_7, if_neg (root_pos (k + 1) (by omega)), root_sh k (by omega)]
    split
    · exact ih n x0 x2 (by omega) (by omega)
    · exact ih n x0 _ (by omega) (by omega)
theorem root_both (fu : Nat) (x : Int64) (hf : 768 < fu) : ∃ v, pf_Fi_root fu x = some v ∧ pf_Mo_greatest fu x = some v := by
  obtain ⟨v, hv⟩ := root_some fu 24 fu x 0 (by decide) (by omega)
  exact ⟨v, (root_eq fu fu x 0 16777216).trans hv, hv⟩
theorem root_0 (fu : Nat) (hf : 768 < fu) : pf_Mo_greatest fu 0 = some 0 := by
  have key : ∀ (k n : Nat), k < 25 → k + 1 < n → pf_Mo_greatest_7 fu n 0 0 (lN (2 ^ k)) = some 0 := by
    have hc : ∀ k, k < 25 → 0 < lg_cmp (((0 : Int64) + lN (2 ^ k)) * (0 + lN (2 ^ k))) 0 := by decide +kernel
    intro k
    induction k with
    | zero =>
      intro n _ h
      obtain ⟨n, rfl⟩ : ∃ z, n = z + 2 := ⟨n - 2, by omega⟩
      have h0 : (lN (2 ^ 0) >>> ((1 : Int32).toInt64 &&& 63)) = 0 := by decide +kernel
      have h1 : lg_cmp (0 : Int64) 0 ≤ 0 := by decide +kernel
      rw [pf_Mo_greatest_7, if_neg (root_pos 0 (by decide)), if_pos (hc 0 (by decide)), h0, pf_Mo_greatest_7, if_pos h1]
      rfl
    | succ k ih =>
      intro n hk h
      obtain ⟨n, rfl⟩ : ∃ z, n = z + 1 := ⟨n - 1, by omega⟩
      rw [pf_Mo_greatest_7, if_neg (root_pos (k + 1) (by omega)), if_pos (hc (k + 1) hk), root_sh k (by omega)]
      exact ih n (by omega) (by omega)
  exact key 24 fu (by decide) (by omega)
theorem i32_le_or {x y : Int32} : x ≤ y ∨ y < x := by
  rw [Int32.le_iff_toInt_le, Int32.lt_iff_toInt_lt]; omega
theorem i32_nle {x y : Int32} : ¬ x ≤ y ↔ y < x := by
  rw [Int32.le_iff_toInt_le, Int32.lt_iff_toInt_lt]; omega
theorem i32_nlt {x y : Int32} : ¬ x < y ↔ y ≤ x := by
  rw [Int32.le_iff_toInt_le, Int32.lt_iff_toInt_lt]; omega
theorem i32_eq {x y : Int32} (h1 : x ≤ y) (h2 : y ≤ x) : x = y := by
  rw [Int32.le_iff_toInt_le] at h1 h2
  exact Int32.toInt_inj.mp (by omega)
theorem i64_nle {x y : Int64} : ¬ x ≤ y ↔ y < x := by
  rw [Int64.le_iff_toInt_le, Int64.lt_iff_toInt_lt]; omega
theorem i64_nlt {x y : Int64} : ¬ x < y ↔ y ≤ x := by
  rw [Int64.le_iff_toInt_le, Int64.lt_iff_toInt_lt]; omega
theorem rr_both (fu : Nat) (x : Int32) (hf : 768 < fu) : ∃ v, pf_Fi_rootOfReciprocal fu x = some v ∧ (if 0 < x then (if ¬ x.toInt64 = 0 then Option.bind (pf_Mo_greatest fu ((281474976710656 : Int64) / x.toInt64)) (fun r_61 => some r_61) else none) else some (2147483647 : Int32)) = some v := by
  unfold pf_Fi_rootOfReciprocal
  by_cases c : x ≤ 0
  · rw [if_pos c, if_neg (i32_nlt.mpr c)]
    exact ⟨_, rfl, rfl⟩
  · rw [if_neg c, if_pos (i32_nle.mp c)]
    have hx : ¬ x.toInt64 = 0 := by
      intro e
      have h1 := Int32.toInt_toInt64 x
      rw [e] at h1
      rw [Int32.le_iff_toInt_le] at c
      have h2 : (0 : Int32).toInt = 0 := rfl
      have h3 : (0 : Int64).toInt = 0 := rfl
      omega
    rw [if_pos hx, if_pos hx]
    obtain ⟨v, e1, e2⟩ := root_both fu ((281474976710656 : Int64) / x.toInt64) hf
    rw [e1, e2]
    exact ⟨v, rfl, rfl⟩
theorem ro_both (fu : Nat) (x : Int32) (hf : 768 < fu) : ∃ v, pf_Fi_rootOf fu x = some v ∧ (if 0 ≤ x then Option.bind (pf_Mo_greatest fu ((65536 : Int64) * x.toInt64)) (fun r_65 => some r_65) else some (0 : Int32)) = some v := by
  unfold pf_Fi_rootOf
  by_cases c : x ≤ 0
  · rw [if_pos c]
    refine ⟨0, rfl, ?_⟩
    by_cases c2 : 0 ≤ x
    · rw [if_pos c2, i32_eq c c2]
      have : (65536 : Int64) * (0 : Int32).toInt64 = 0 := by decide +kernel
      rw [this, root_0 fu hf]
      rfl
    · rw [if_neg c2]
  · rw [if_neg c, if_pos (Int32.le_of_lt (i32_nle.mp c)), Int64.mul_comm x.toInt64]
    obtain ⟨v, e1, e2⟩ := root_both fu ((65536 : Int64) * x.toInt64) hf
    rw [e1, e2]
    exact ⟨v, rfl, rfl⟩
/-! the reciprocal -/
theorem xor_neg (x y : Int64) (hx : ¬ x < 0) : (x ^^^ y < 0) ↔ y < 0 := by
  have key : ∀ z : Int64, (z < 0) ↔ z.toBitVec.msb = true := by
    intro z
    rw [Int64.lt_iff_toInt_lt, BitVec.msb_eq_toInt]
    show z.toBitVec.toInt < 0 ↔ _
    simp
  rw [key, key, Int64.toBitVec_xor, BitVec.msb_xor]
  rw [key] at hx
  have : x.toBitVec.msb = false := by simpa using hx
  rw [this]
  simp
/-- the quotient, kept within 32 bits -/
def kp (q : Int64) : Int32 := if q ≤ 2147483647 then (if (-2147483648 : Int64) ≤ q then q.toInt32 else -2147483648) else 2147483647
theorem kp_cls (q : Int64) : (Option.bind (pf_Ma_min_JJJ (2147483647 : Int64) q) fun r_5 => Option.bind (pf_Ma_max_JJJ (-2147483648 : Int64) r_5) fun r_7 => some r_7.toInt32) = some (kp q) := by
  unfold pf_Ma_min_JJJ pf_Ma_max_JJJ kp
  have hM : (2147483647 : Int64).toInt = 2147483647 := by decide +kernel
  have hL : (-2147483648 : Int64).toInt = -2147483648 := by decide +kernel
  by_cases c : q < 2147483647
  · rw [if_pos ((lg_cmp_gt _ _).mpr c), if_pos (Int64.le_of_lt c)]
    simp only [Option.bind_some]
    by_cases c2 : (-2147483648 : Int64) < q
    · rw [if_pos ((lg_cmp_lt _ _).mpr c2), if_pos (Int64.le_of_lt c2)]; rfl
    · rw [if_neg (fun h => c2 ((lg_cmp_lt _ _).mp h))]
      by_cases c3 : (-2147483648 : Int64) ≤ q
      · have : q = -2147483648 := by
          rw [Int64.lt_iff_toInt_lt] at c2
          rw [Int64.le_iff_toInt_le] at c3
          exact Int64.toInt_inj.mp (by omega)
        rw [this, if_pos (by decide +kernel)]
        rfl
      · rw [if_neg c3]; rfl
  · rw [if_neg (fun h => c ((lg_cmp_gt _ _).mp h))]
    simp only [Option.bind_some]
    rw [if_pos (by decide +kernel)]
    by_cases c2 : q ≤ 2147483647
    · have : q = 2147483647 := by
        rw [Int64.lt_iff_toInt_lt] at c
        rw [Int64.le_iff_toInt_le] at c2
        exact Int64.toInt_inj.mp (by omega)
      rw [this]
      decide +kernel
    · rw [if_neg c2]; rfl
theorem kp_ref (q : Int64) : (if (lg_cmp q (2147483647 : Int64)) ≤ 0 then (if 0 ≤ (lg_cmp q (-2147483648 : Int64)) then some q.toInt32 else some (-2147483648 : Int32)) else some (2147483647 : Int32)) = some (kp q) := by
  unfold kp
  simp only [lg_cmp_le, lg_cmp_ge]
  split
  · split <;> rfl
  · rfl
theorem rec_both (x : Int32) : ∃ v, pf_Fi_reciprocal x = some v ∧ pf_Mo_oneBy x = some v := by
  unfold pf_Fi_reciprocal pf_Mo_oneBy
  by_cases c : x = 0
  · rw [if_pos c, if_pos c]; exact ⟨_, rfl, rfl⟩
  rw [if_neg c, if_neg c]
  have h1 := Int32.toInt_toInt64 x
  have h3 : (0 : Int64).toInt = 0 := rfl
  have h2 : (0 : Int32).toInt = 0 := rfl
  have hx : ¬ x.toInt64 = 0 := by
    intro e
    rw [e] at h1
    exact c (Int32.toInt_inj.mp (by omega))
  rw [if_pos hx, if_pos hx]
  simp only [kp_ref]
  unfold pf_Ma_floorDiv
  rw [if_pos hx]
  have hs : (0 ≤ lg_cmp ((4294967296 : Int64) ^^^ x.toInt64) 0) ↔ 0 ≤ x := by
    rw [lg_cmp_ge, ← i64_nlt, xor_neg _ _ (by decide +kernel), ← i32_nlt, Int64.lt_iff_toInt_lt, Int32.lt_iff_toInt_lt, h1, h2, h3]
  have hz : (lg_cmp ((4294967296 : Int64) - (4294967296 : Int64) / x.toInt64 * x.toInt64) (0 : Int64)) = 0 ↔ (lg_cmp ((4294967296 : Int64) / x.toInt64 * x.toInt64) 4294967296) = 0 := by
    rw [lg_cmp_eq, lg_cmp_eq]
    constructor
    · intro h
      have h4 := Int64.sub_add_cancel (4294967296 : Int64) ((4294967296 : Int64) / x.toInt64 * x.toInt64)
      rw [h, Int64.zero_add] at h4
      exact h4
    · intro h
      rw [h, Int64.sub_self]
  by_cases d : 0 ≤ x
  · rw [if_pos (hs.mpr d), if_pos d]
    simp only [Option.bind_some]
    rw [kp_cls]
    refine ⟨_, rfl, ?_⟩
    split <;> rfl
  · rw [if_neg (fun h => d (hs.mp h)), if_neg d]
    by_cases e : (lg_cmp ((4294967296 : Int64) / x.toInt64 * x.toInt64) 4294967296) = 0
    · rw [if_pos e, if_pos (hz.mpr e)]
      simp only [Option.bind_some]
      rw [kp_cls]
      exact ⟨_, rfl, rfl⟩
    · rw [if_neg e, if_neg (fun h => e (hz.mp h))]
      simp only [Option.bind_some]
      rw [kp_cls]
      exact ⟨_, rfl, rfl⟩
