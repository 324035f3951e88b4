/-! PURE PART 4: the faults of one instruction -/
section ITE
variable {α : Type} {x y : α} {a : Nat} {K : Int32}
theorem ite_leK (b : Nat) (hK : K = nI b) (ha : a < 2 ^ 31) (hb : b < 2 ^ 31) : (if nI a ≤ K then x else y) = if a ≤ b then x else y := by
  subst hK
  by_cases h : a ≤ b
  · rw [if_pos h, if_pos ((nI_leI ha hb).mpr h)]
  · rw [if_neg h, if_neg (fun q => h ((nI_leI ha hb).mp q))]
theorem ite_Kle (b : Nat) (hK : K = nI b) (ha : a < 2 ^ 31) (hb : b < 2 ^ 31) : (if K ≤ nI a then x else y) = if b ≤ a then x else y := by
  subst hK
  by_cases h : b ≤ a
  · rw [if_pos h, if_pos ((nI_leI hb ha).mpr h)]
  · rw [if_neg h, if_neg (fun q => h ((nI_leI hb ha).mp q))]
theorem ite_ltK (b : Nat) (hK : K = nI b) (ha : a < 2 ^ 31) (hb : b < 2 ^ 31) : (if nI a < K then x else y) = if a < b then x else y := by
  subst hK
  by_cases h : a < b
  · rw [if_pos h, if_pos ((nI_ltI ha hb).mpr h)]
  · rw [if_neg h, if_neg (fun q => h ((nI_ltI ha hb).mp q))]
theorem ite_Klt (b : Nat) (hK : K = nI b) (ha : a < 2 ^ 31) (hb : b < 2 ^ 31) : (if K < nI a then x else y) = if b < a then x else y := by
  subst hK
  by_cases h : b < a
  · rw [if_pos h, if_pos ((nI_ltI hb ha).mpr h)]
  · rw [if_neg h, if_neg (fun q => h ((nI_ltI hb ha).mp q))]
theorem ite_eqK (b : Nat) (hK : K = nI b) (ha : a < 2 ^ 31) (hb : b < 2 ^ 31) : (if nI a = K then x else y) = if a = b then x else y := by
  subst hK
  by_cases h : a = b
  · rw [if_pos h, if_pos ((nI_eq ha hb).mpr h)]
  · rw [if_neg h, if_neg (fun q => h ((nI_eq ha hb).mp q))]
end ITE
theorem ite_b {α : Type} {x y : α} (b : Bool) : (if b01 b = 0 then x else y) = if b then y else x := by cases b <;> rfl
theorem sm_6 (w : Int32) : (w >>> ((6 : Int32) &&& 31)) &&& 3 = nI (un w / 2 ^ 6 % 2 ^ 2) := un_sm w _ 6 2 (by decide) (by decide) (by decide)
theorem sm_8 (w : Int32) : (w >>> ((8 : Int32) &&& 31)) &&& 15 = nI (un w / 2 ^ 8 % 2 ^ 4) := un_sm w _ 8 4 (by decide) (by decide) (by decide)
theorem sm_12 (w : Int32) : (w >>> ((12 : Int32) &&& 31)) &&& 15 = nI (un w / 2 ^ 12 % 2 ^ 4) := un_sm w _ 12 4 (by decide) (by decide) (by decide)
theorem sm_6b (w : Int32) : (w >>> ((6 : Int32) &&& 31)) &&& 2047 = nI (un w / 2 ^ 6 % 2 ^ 11) := un_sm w _ 6 11 (by decide) (by decide) (by decide)
theorem sm_16 (w : Int32) : (w >>> ((16 : Int32) &&& 31)) &&& 1 = nI (un w / 2 ^ 16 % 2 ^ 1) := un_sm w _ 16 1 (by decide) (by decide) (by decide)
theorem sm_2 (w : Int32) : (w >>> ((2 : Int32) &&& 31)) &&& 31 = nI (un w / 2 ^ 2 % 2 ^ 5) := un_sm w _ 2 5 (by decide) (by decide) (by decide)
theorem sm_7 (w : Int32) : (w >>> ((7 : Int32) &&& 31)) &&& 255 = nI (un w / 2 ^ 7 % 2 ^ 8) := un_sm w _ 7 8 (by decide) (by decide) (by decide)
theorem sm_15 (w : Int32) : (w >>> ((15 : Int32) &&& 31)) &&& 1 = nI (un w / 2 ^ 15 % 2 ^ 1) := un_sm w _ 15 1 (by decide) (by decide) (by decide)
theorem an_3 (w : Int32) : w &&& 3 = nI (un w % 2 ^ 2) := un_and w 2 (by decide)
theorem an_63 (w : Int32) : w &&& 63 = nI (un w % 2 ^ 6) := un_and w 6 (by decide)
theorem an_16 (w : Int32) : w &&& 65535 = nI (un w % 2 ^ 16) := un_and w 16 (by decide)
theorem us_16 (w : Int32) : (w.toUInt32 >>> ((16 : Int32).toUInt32 &&& Int32.toUInt32 31)).toInt32 = nI (un w / 2 ^ 16) := un_us w _ 16 (by decide)
theorem us_17 (w : Int32) : (w.toUInt32 >>> ((17 : Int32).toUInt32 &&& Int32.toUInt32 31)).toInt32 = nI (un w / 2 ^ 17) := un_us w _ 17 (by decide)
def hasT (k : Nat) : Bool := decide (k ≠ 0 ∧ (k < 34 ∨ 38 < k))
theorem ki_hasTarget : ∀ k, k < 64 → pf_Ki_hasTarget (nI k) = some (b01 (hasT k)) := by decide +kernel
theorem mo_hasTarget : ∀ k, k < 64 → pf_Mo_hasTarget (nI k) = some (b01 (hasT k)) := by decide +kernel
theorem ki_goes : ∀ k, k < 64 → pf_Ki_goes (nI k) = some (b01 (decide (k = 36 ∨ k = 37))) := by decide +kernel
theorem ki_reads : ∀ k, k < 64 → pf_Ki_readsTexture (nI k) = some (b01 (decide (k = 32 ∨ k = 33))) := by decide +kernel
def srcs (k : Nat) : Nat := ([0, 1, 2, 2, 2, 3, 2, 2, 2, 2, 1, 1, 1, 1, 1, 1, 2, 2, 2, 2, 3, 3, 2, 2, 2, 2, 1, 2, 2, 2, 1, 1, 1, 1, 0, 0, 1, 0, 1, 1, 1] : List Nat).getD k 0
theorem ki_sources : ∀ k, k < 64 → pf_Ki_sources (nI k) = some (nI (srcs k)) := by decide +kernel
theorem mo_sources : ∀ k, k < 41 → pf_Mo_sources (nI k) = some (nI (srcs k)) := by decide +kernel
theorem srcs_le : ∀ k, k < 64 → srcs k ≤ 3 := by decide +kernel
/-- a wrong target, of the first word's value n -/
def tgtB (f t p : Nat) : Bool := decide (1 < f) || decide (f = 1 ∧ 8 ≤ t) || decide (p = 0)
def badT (n : Nat) : Bool := if hasT (n % 64) then tgtB (n / 2 ^ 6 % 2 ^ 2) (n / 2 ^ 8 % 2 ^ 4) (n / 2 ^ 12 % 2 ^ 4) else decide (n / 2 ^ 6 % 2 ^ 11 ≠ 0)
theorem un_tmask (w : Int32) : (w &&& 131008) = 0 ↔ un w / 2 ^ 6 % 2 ^ 11 = 0 := by
  have h1 : un (w &&& 131008) = un w &&& 131008 := by
    show (w &&& 131008).toBitVec.toNat = _
    rw [Int32.toBitVec_and, BitVec.toNat_and]
    rfl
  have h2 : un w &&& 131008 = (un w / 2 ^ 6 % 2 ^ 11) * 2 ^ 6 := by
    apply Nat.eq_of_testBit_eq
    intro i
    rw [Nat.testBit_and, show (131008 : Nat) = (2 ^ 11 - 1) * 2 ^ 6 from rfl, Nat.testBit_mul_two_pow, Nat.testBit_mul_two_pow, Nat.testBit_two_pow_sub_one, Nat.testBit_mod_two_pow, Nat.testBit_div_two_pow]
    by_cases c : 6 ≤ i
    · rw [show i - 6 + 6 = i by omega]
      simp [c, Bool.and_comm]
    · simp [c]
  constructor
  · intro h
    have h3 : un (w &&& 131008) = 0 := by rw [h]; rfl
    rw [h1, h2] at h3
    omega
  · intro h
    apply un_eq
    rw [h1, h2, h]
    rfl
theorem tgt_ch : ∀ f, f < 4 → ∀ t, t < 16 → ∀ p, p < 16 → (if nI p = 0 then some (1 : Int32) else if nI f = 0 then (if nI t < (16 : Int32) then some (0 : Int32) else some (1 : Int32)) else if nI f = 1 then (if nI t < (8 : Int32) then some (0 : Int32) else some (1 : Int32)) else some (1 : Int32)) = some (b01 (tgtB f t p)) := by decide +kernel
theorem tgt_mo : ∀ f, f < 4 → ∀ t, t < 16 → ∀ p, p < 16 → (if (1 : Int32) < nI f then some (1 : Int32) else if nI f = (1 : Int32) then (if (8 : Int32) ≤ nI t then some (1 : Int32) else if nI p = 0 then some (1 : Int32) else some (0 : Int32)) else if nI p = 0 then some (1 : Int32) else some (0 : Int32)) = some (b01 (tgtB f t p)) := by decide +kernel
theorem ch_target (w : Int32) : pf_Ch_isTargetWrong (nI (un w % 64)) w = some (b01 (badT (un w))) := by
  unfold pf_Ch_isTargetWrong
  rw [ki_hasTarget _ (Nat.mod_lt _ (by decide))]
  simp only [Option.bind_some]
  unfold badT
  rw [ite_b]
  by_cases h : hasT (un w % 64) = true
  · rw [if_pos h, if_pos h, ← tgt_ch _ (Nat.mod_lt _ (by decide)) _ (Nat.mod_lt _ (by decide)) _ (Nat.mod_lt _ (by decide))]
    unfold pf_Ta_setsAny pf_Ta_file pf_Ta_number
    rw [sm_12]
    simp only [Option.bind_some]
    rw [sm_6, sm_8]
    by_cases c : nI (un w / 2 ^ 12 % 2 ^ 4) = 0
    · rw [if_pos c, if_pos c]
      rfl
    · rw [if_neg c, if_neg c]
      rfl
  · rw [if_neg h, if_neg h]
    by_cases c : (w &&& 131008) = 0
    · rw [if_pos c, decide_eq_false (show ¬ (un w / 2 ^ 6 % 2 ^ 11 ≠ 0) from fun q => q ((un_tmask w).mp c))]; rfl
    · rw [if_neg c, decide_eq_true (show un w / 2 ^ 6 % 2 ^ 11 ≠ 0 from fun q => c ((un_tmask w).mpr q))]; rfl
theorem mo_target (P : Nat → Int32) {i : Nat} (hi : i < 256) : pf_Mo_badTarget (nI i) 768 P = some (b01 (badT (un (P (3 * i))))) := by
  unfold pf_Mo_badTarget
  rw [if_pos (in3 (by omega) (by decide)), n3, nI_clamp (by omega), un_and _ 6 (by decide), mo_hasTarget _ (Nat.mod_lt _ (by decide))]
  simp only [Option.bind_some]
  unfold badT
  rw [ite_b]
  by_cases h : hasT (un (P (3 * i)) % 64) = true
  · rw [if_pos h, if_pos h, ← tgt_mo _ (Nat.mod_lt _ (by decide)) _ (Nat.mod_lt _ (by decide)) _ (Nat.mod_lt _ (by decide))]
    rw [sm_12, sm_6, sm_8]
  · rw [if_neg h, if_neg h, sm_6b]
    have hlt : un (P (3 * i)) / 2 ^ 6 % 2 ^ 11 < 2 ^ 31 := Nat.lt_of_lt_of_le (Nat.mod_lt _ (by decide)) (by decide)
    rw [ite_eqK (K := 0) 0 rfl hlt (by decide)]
    by_cases c : un (P (3 * i)) / 2 ^ 6 % 2 ^ 11 = 0
    · rw [if_pos c, c]; rfl
    · rw [if_neg c, decide_eq_true (show un (P (3 * i)) / 2 ^ 6 % 2 ^ 11 ≠ 0 from c)]; rfl
/-- a wrong source -/
def srcB (f n : Nat) : Bool := decide (f = 0 ∧ 15 < n) || decide (f = 1 ∧ 7 < n) || decide (f = 3 ∧ 0 < n)
def badS (s : Nat) (had : Bool) : Bool := if had then srcB (s % 2 ^ 2) (s / 2 ^ 2 % 2 ^ 5) else decide (s ≠ 0)
theorem src_ch : ∀ f, f < 4 → ∀ n, n < 32 → (if nI f < 0 ∨ 2 < nI f then (if nI n = 0 then some (0 : Int32) else some (1 : Int32)) else if nI f = 0 then (if nI n < (16 : Int32) then some (0 : Int32) else some (1 : Int32)) else if nI f = 1 then (if nI n < (8 : Int32) then some (0 : Int32) else some (1 : Int32)) else if nI f = 2 then (if nI n < (32 : Int32) then some (0 : Int32) else some (1 : Int32)) else none) = some (b01 (srcB f n)) := by decide +kernel
theorem ch_source {s : Nat} (hs : s < 65536) (had : Bool) : pf_Ch_isSourceWrong (nI s) (b01 had) = some (b01 (badS s had)) := by
  unfold pf_Ch_isSourceWrong badS
  rw [ite_b]
  cases had with
  | true =>
    simp only [if_true]
    unfold pf_So_number pf_So_file
    simp only [Option.bind_some]
    rw [sm_2, an_3, un_nI (by omega)]
    exact src_ch _ (Nat.mod_lt _ (by decide)) _ (Nat.mod_lt _ (by decide))
  | false =>
    simp only [Bool.false_eq_true, if_false]
    rw [ite_eqK (a := s) (K := 0) 0 rfl (by omega) (by decide)]
    by_cases c : s = 0
    · rw [if_pos c, c]; rfl
    · rw [if_neg c, decide_eq_true (show s ≠ 0 from c)]; rfl
theorem src_mo : ∀ f, f < 4 → ∀ n, n < 32 → pf_Mo_badSource (nI (4 * n + f)) 1 = some (b01 (srcB f n)) := by decide +kernel
theorem mo_source {s : Nat} (hs : s < 65536) (had : Bool) : pf_Mo_badSource (nI s) (b01 had) = some (b01 (badS s had)) := by
  cases had with
  | true =>
    have h := src_mo (s % 2 ^ 2) (Nat.mod_lt _ (by decide)) (s / 2 ^ 2 % 2 ^ 5) (Nat.mod_lt _ (by decide))
    show pf_Mo_badSource (nI s) 1 = some (b01 (srcB (s % 2 ^ 2) (s / 2 ^ 2 % 2 ^ 5)))
    rw [← h]
    unfold pf_Mo_badSource
    have t1 : ¬ (1 : Int32) = 0 := by decide
    rw [if_neg t1, if_neg t1]
    simp only [sm_2, an_3]
    rw [un_nI (n := s) (by omega), un_nI (n := 4 * (s / 2 ^ 2 % 2 ^ 5) + s % 2 ^ 2) (by omega)]
    rw [show (4 * (s / 2 ^ 2 % 2 ^ 5) + s % 2 ^ 2) % 2 ^ 2 = s % 2 ^ 2 by omega, show (4 * (s / 2 ^ 2 % 2 ^ 5) + s % 2 ^ 2) / 2 ^ 2 % 2 ^ 5 = s / 2 ^ 2 % 2 ^ 5 by omega]
  | false =>
    show pf_Mo_badSource (nI s) 0 = some (b01 (decide (s ≠ 0)))
    unfold pf_Mo_badSource
    rw [if_pos rfl, ite_eqK (a := s) (K := 0) 0 rfl (by omega) (by decide)]
    by_cases c : s = 0
    · rw [if_pos c, c]; rfl
    · rw [if_neg c, decide_eq_true (show s ≠ 0 from c)]; rfl
/-- wrong sources, of the kind k and the values of the second and third word -/
def badSs (k a b : Nat) : Bool := badS (a % 2 ^ 16) (decide (1 ≤ srcs k)) || badS (a / 2 ^ 16) (decide (2 ≤ srcs k)) || badS (b % 2 ^ 16) (decide (3 ≤ srcs k)) || decide (b / 2 ^ 16 ≠ 0)
theorem b01_1 : (1 : Int32) = b01 true := rfl
theorem b01_0 : (0 : Int32) = b01 false := rfl
theorem ch_src1 (s : Nat) (hs : s < 65536) : pf_Ch_isSourceWrong (nI s) 1 = some (b01 (badS s true)) := ch_source hs true
theorem ch_src0 (s : Nat) (hs : s < 65536) : pf_Ch_isSourceWrong (nI s) 0 = some (b01 (badS s false)) := ch_source hs false
theorem mo_src1 (s : Nat) (hs : s < 65536) : pf_Mo_badSource (nI s) 1 = some (b01 (badS s true)) := mo_source hs true
theorem mo_src0 (s : Nat) (hs : s < 65536) : pf_Mo_badSource (nI s) 0 = some (b01 (badS s false)) := mo_source hs false
theorem dbb {x : Bool} : (if x then some (1 : Int32) else some (0 : Int32)) = some (b01 x) := by cases x <;> rfl
theorem ch_sources {k : Nat} (hk : k < 64) (v w : Int32) : pf_Ch_areSourcesWrong (nI k) v w = some (b01 (badSs k (un v) (un w))) := by
  have l1 := un_lt v
  have l2 := un_lt w
  have h0 : un v % 2 ^ 16 < 65536 := by omega
  have h1 : un v / 2 ^ 16 < 65536 := by omega
  have h2 : un w % 2 ^ 16 < 65536 := by omega
  have h3 : un w / 2 ^ 16 < 65536 := by omega
  have h4 := srcs_le k hk
  unfold pf_Ch_areSourcesWrong badSs
  rw [ki_sources k hk]
  simp only [Option.bind_some, an_16, us_16]
  rw [ch_src0 _ h0, ch_src1 _ h0, ch_src0 _ h1, ch_src1 _ h1, ch_src0 _ h2, ch_src1 _ h2]
  simp only [Option.bind_some, ite_b]
  rw [ite_eqK (a := un w / 2 ^ 16) (K := 0) 0 rfl (by omega) (by decide)]
  have e : (if un w / 2 ^ 16 = 0 then some (0 : Int32) else some (1 : Int32)) = some (b01 (decide (un w / 2 ^ 16 ≠ 0))) := by
    by_cases c : un w / 2 ^ 16 = 0
    · rw [if_pos c, c]; rfl
    · rw [if_neg c, decide_eq_true (show un w / 2 ^ 16 ≠ 0 from c)]; rfl
  rw [e]
  generalize decide (un w / 2 ^ 16 ≠ 0) = z
  have e1 : ∀ {x y : Option Int32}, (if nI (srcs k) < (1 : Int32) then x else y) = if srcs k < 1 then x else y := fun {x y} => ite_ltK 1 rfl (by omega) (by decide)
  have e2 : ∀ {x y : Option Int32}, (if nI (srcs k) < (2 : Int32) then x else y) = if srcs k < 2 then x else y := fun {x y} => ite_ltK 2 rfl (by omega) (by decide)
  have e3 : ∀ {x y : Option Int32}, (if nI (srcs k) < (3 : Int32) then x else y) = if srcs k < 3 then x else y := fun {x y} => ite_ltK 3 rfl (by omega) (by decide)
  simp only [e1, e2, e3]
  generalize srcs k = q at *
  have hq : q = 0 ∨ q = 1 ∨ q = 2 ∨ q = 3 := by omega
  rcases hq with rfl | rfl | rfl | rfl <;> simp only [Nat.reduceLT, if_true, if_false, Nat.reduceLeDiff, decide_true, decide_false]
  all_goals
    generalize badS (un v % 2 ^ 16) _ = z1
    generalize badS (un v / 2 ^ 16) _ = z2
    generalize badS (un w % 2 ^ 16) _ = z3
    cases z1 <;> cases z2 <;> cases z3 <;> cases z <;> rfl
/-- a wrong number -/
def badN (k n i m : Nat) : Bool := if k = 36 ∨ k = 37 then decide (n ≤ i ∨ m ≤ n) else if k = 34 then decide (n < 1 ∨ 255 < n) else if k = 32 ∨ k = 33 then decide (3 < n) else decide (n ≠ 0)
theorem num0 {n : Nat} (hn : n < 32768) : (if nI n = 0 then some (0 : Int32) else some (1 : Int32)) = some (b01 (decide (n ≠ 0))) := by
  rw [ite_eqK (a := n) (K := 0) 0 rfl (by omega) (by decide)]
  by_cases c : n = 0
  · rw [if_pos c, c]; rfl
  · rw [if_neg c, decide_eq_true (show n ≠ 0 from c)]; rfl
theorem numL {n : Nat} (hn : n < 32768) : (if nI n < (1 : Int32) then some (1 : Int32) else if nI n ≤ (255 : Int32) then some (0 : Int32) else some (1 : Int32)) = some (b01 (decide (n < 1 ∨ 255 < n))) := by
  rw [ite_ltK (a := n) (K := 1) 1 rfl (by omega) (by decide), ite_leK (a := n) (K := 255) 255 rfl (by omega) (by decide)]
  by_cases c : n < 1
  · rw [if_pos c, decide_eq_true (Or.inl c)]; rfl
  · rw [if_neg c]
    by_cases c2 : n ≤ 255
    · rw [if_pos c2, decide_eq_false (by omega)]; rfl
    · rw [if_neg c2, decide_eq_true (by omega)]; rfl
theorem numG {n i m : Nat} (hn : n < 32768) (hi : i < 256) (hm : m ≤ 256) : (if nI n ≤ nI i then some (1 : Int32) else if nI n < nI m then some (0 : Int32) else some (1 : Int32)) = some (b01 (decide (n ≤ i ∨ m ≤ n))) := by
  rw [ite_leK (a := n) (K := nI i) i rfl (by omega) (by omega), ite_ltK (a := n) (K := nI m) m rfl (by omega) (by omega)]
  by_cases c : n ≤ i
  · rw [if_pos c, decide_eq_true (Or.inl c)]; rfl
  · rw [if_neg c]
    by_cases c2 : n < m
    · rw [if_pos c2, decide_eq_false (by omega)]; rfl
    · rw [if_neg c2, decide_eq_true (by omega)]; rfl
theorem num4 {n : Nat} (hn : n < 32768) : (if nI n < (4 : Int32) then some (0 : Int32) else some (1 : Int32)) = some (b01 (decide (3 < n))) := by
  rw [ite_ltK (a := n) (K := 4) 4 rfl (by omega) (by decide)]
  by_cases c : n < 4
  · rw [if_pos c, decide_eq_false (by omega)]; rfl
  · rw [if_neg c, decide_eq_true (by omega)]; rfl
theorem num3 {n : Nat} (hn : n < 32768) : (if nI n ≤ (3 : Int32) then some (0 : Int32) else some (1 : Int32)) = some (b01 (decide (3 < n))) := by
  rw [ite_leK (a := n) (K := 3) 3 rfl (by omega) (by decide)]
  by_cases c : n ≤ 3
  · rw [if_pos c, decide_eq_false (by omega)]; rfl
  · rw [if_neg c, decide_eq_true (by omega)]; rfl
theorem ch_number {k n i m : Nat} (hk : k < 64) (hn : n < 32768) (hi : i < 256) (hm : m ≤ 256) : pf_Ch_isNumberWrong (nI k) (nI n) (nI i) (nI m) = some (b01 (badN k n i m)) := by
  unfold pf_Ch_isNumberWrong badN
  rw [ki_goes k hk]
  simp only [Option.bind_some, ite_b]
  by_cases c1 : k = 36 ∨ k = 37
  · rw [decide_eq_true c1, if_pos rfl, if_pos c1]
    exact numG hn hi hm
  · rw [decide_eq_false c1, if_neg (by decide), if_neg c1, ite_eqK (a := k) (K := 34) 34 rfl (by omega) (by decide)]
    by_cases c2 : k = 34
    · rw [if_pos c2, if_pos c2]
      exact numL hn
    · rw [if_neg c2, if_neg c2, ki_reads k hk]
      simp only [Option.bind_some, ite_b]
      by_cases c3 : k = 32 ∨ k = 33
      · rw [decide_eq_true c3, if_pos rfl, if_pos c3]
        exact num4 hn
      · rw [decide_eq_false c3, if_neg (by decide), if_neg c3]
        exact num0 hn
theorem mo_number (P : Nat → Int32) {i m : Nat} (hi : i < 256) (hm : m ≤ 256) : pf_Mo_badNumber (nI i) (nI m) 768 P = some (b01 (badN (kd P i) (nu P i) i m)) := by
  unfold pf_Mo_badNumber badN
  rw [mo_num P hi, mo_kind P hi]
  simp only [Option.bind_some]
  have hk := kd_lt P i
  have hn := nu_lt P i
  rw [num0 hn, num3 hn, numL hn, numG hn hi hm]
  generalize kd P i = k at *
  by_cases c0 : nI k < 32 ∨ 37 < nI k
  · rw [if_pos c0]
    have c1 : k < 32 ∨ 37 < k := c0.elim (fun h => Or.inl ((nI_ltI (b := 32) (by omega) (by decide)).mp h)) (fun h => Or.inr ((nI_ltI (a := 37) (by decide) (by omega)).mp h))
    rw [if_neg (by omega), if_neg (by omega), if_neg (by omega)]
  · rw [if_neg c0]
    have c1 : ¬ (k < 32 ∨ 37 < k) := fun h => c0 (h.elim (fun h => Or.inl ((nI_ltI (b := 32) (by omega) (by decide)).mpr h)) (fun h => Or.inr ((nI_ltI (a := 37) (by decide) (by omega)).mpr h)))
    have hq : k = 32 ∨ k = 33 ∨ k = 34 ∨ k = 35 ∨ k = 36 ∨ k = 37 := by omega
    rcases hq with rfl | rfl | rfl | rfl | rfl | rfl <;> rfl
