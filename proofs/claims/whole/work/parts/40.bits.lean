/-! PURE PART 0: numbers and bits -/
def un (w : Int32) : Nat := w.toBitVec.toNat
theorem un_lt (w : Int32) : un w < 2 ^ 32 := w.toBitVec.isLt
theorem un_toInt (w : Int32) : w.toInt = if 2 * un w < 2 ^ 32 then (un w : Int) else (un w : Int) - 2 ^ 32 := by
  show w.toBitVec.toInt = _
  rw [BitVec.toInt_eq_toNat_cond]
  rfl
theorem un_nI {n : Nat} (h : n < 2 ^ 32) : un (nI n) = n := pk_tn h
theorem un_and (x : Int32) {m : Int32} (k : Nat) (hm : m.toBitVec.toNat = 2 ^ k - 1) : x &&& m = nI (un x % 2 ^ k) := pk_and x k hm
theorem un_eq {a b : Int32} (h : un a = un b) : a = b := by
  have h1 : a.toBitVec = b.toBitVec := BitVec.eq_of_toNat_eq h
  exact Int32.toBitVec_inj.mp h1
/-- a shift down with the sign, then a mask that the sign doesn't reach -/
theorem un_sm (x s : Int32) {m : Int32} (j k : Nat) (hs : (s.toBitVec.smod 32).toNat = j) (hm : m.toBitVec.toNat = 2 ^ k - 1) (hjk : j + k ≤ 32) : (x >>> s) &&& m = nI (un x / 2 ^ j % 2 ^ k) := by
  rw [un_and _ k hm]
  congr 1
  have h1 : (x >>> s).toInt = x.toInt >>> j := pk_shr x s j hs
  have h2 := un_toInt (x >>> s)
  have h3 := un_toInt x
  rw [Int.shiftRight_eq_div_pow] at h1
  have l1 := un_lt (x >>> s)
  have l2 := un_lt x
  generalize un (x >>> s) = a at *
  generalize un x = b at *
  rw [h1] at h2
  rw [h3] at h2
  have hp : (2 : Nat) ^ 32 = 2 ^ j * (2 ^ k * 2 ^ (32 - j - k)) := by rw [← Nat.pow_add, ← Nat.pow_add]; congr 1; omega
  have hj : 0 < 2 ^ j := Nat.two_pow_pos j
  have key : ((a : Int)) % (2 ^ k : Nat) = ((b / 2 ^ j : Nat) : Int) % (2 ^ k : Nat) := by
    have e1 : ∃ u : Int, (a : Int) = (if 2 * b < 2 ^ 32 then (b : Int) else (b : Int) - 2 ^ 32) / (2 ^ j : Nat) + u * 2 ^ 32 := by
      by_cases c : 2 * a < 2 ^ 32
      · rw [if_pos c] at h2; exact ⟨0, by rw [← h2]; simp⟩
      · rw [if_neg c] at h2; exact ⟨1, by rw [h2]; omega⟩
    have e2 : ∃ v : Int, (if 2 * b < 2 ^ 32 then (b : Int) else (b : Int) - 2 ^ 32) / (2 ^ j : Nat) = ((b / 2 ^ j : Nat) : Int) + v * ((2 ^ k * 2 ^ (32 - j - k) : Nat) : Int) := by
      by_cases c : 2 * b < 2 ^ 32
      · rw [if_pos c]; exact ⟨0, by simp⟩
      · rw [if_neg c]
        refine ⟨-1, ?_⟩
        have : ((b : Int) - 2 ^ 32) = (b : Int) + (-((2 ^ k * 2 ^ (32 - j - k) : Nat) : Int)) * ((2 ^ j : Nat) : Int) := by
          have hp' : (2 : Int) ^ 32 = ((2 ^ j * (2 ^ k * 2 ^ (32 - j - k)) : Nat) : Int) := by exact_mod_cast hp
          rw [hp']
          push_cast
          rw [Int.neg_mul, Int.mul_comm ((2:Int) ^ j)]
          omega
        rw [this, Int.add_mul_ediv_right _ _ (by exact_mod_cast (Nat.ne_of_gt hj))]
        simp [Int.sub_eq_add_neg]
    obtain ⟨u, e1⟩ := e1
    obtain ⟨v, e2⟩ := e2
    rw [e1, e2]
    have hp' : (2 : Int) ^ 32 = ((2 ^ k : Nat) : Int) * ((2 ^ j * 2 ^ (32 - j - k) : Nat) : Int) := by
      have : (2 : Nat) ^ 32 = 2 ^ k * (2 ^ j * 2 ^ (32 - j - k)) := by rw [← Nat.pow_add, ← Nat.pow_add]; congr 1; omega
      exact_mod_cast this
    rw [hp']
    have e3 : ((b / 2 ^ j : Nat) : Int) + v * ((2 ^ k * 2 ^ (32 - j - k) : Nat) : Int) + u * (((2 ^ k : Nat) : Int) * ((2 ^ j * 2 ^ (32 - j - k) : Nat) : Int)) = ((b / 2 ^ j : Nat) : Int) + ((2 ^ k : Nat) : Int) * (v * ((2 ^ (32 - j - k) : Nat) : Int) + u * ((2 ^ j * 2 ^ (32 - j - k) : Nat) : Int)) := by
      push_cast
      rw [Int.mul_add, Int.add_assoc]
      congr 1
      rw [Int.mul_left_comm v, Int.mul_left_comm u]
    rw [e3, Int.add_mul_emod_self_left]
  exact_mod_cast key
theorem un_us (x s : Int32) (k : Nat) (hs : ((s.toUInt32 &&& Int32.toUInt32 31).toBitVec % 32).toNat = k) : (x.toUInt32 >>> (s.toUInt32 &&& Int32.toUInt32 31)).toInt32 = nI (un x / 2 ^ k) := by
  refine un_eq ?_
  rw [un_nI (Nat.lt_of_le_of_lt (Nat.div_le_self _ _) (un_lt x))]
  exact pk_ushr x s k hs
