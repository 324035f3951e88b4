/-! PURE PART 22: the law's loop, both sides -/
/-- the class's program (its number of instructions, its words) is the reference's -/
def Prog (cm : Int32) (cw : Nat → Int32) (hp : Int32) (Q op : Nat → Int32) : Prop := (hp = 0 ∧ cm = 0) ∨ (hp = 1 ∧ ∃ m, cm = nI m ∧ Good cw Q m op)
/-- which of the two objects is the program now -/
def Side (qc qs gq gs : Nat) (cm : Int32) (cw : Nat → Int32) (sm : Int32) (sw : Nat → Int32) (hp : Int32) (Q op : Nat → Int32) : Prop := (gq = qc ∧ gs = qs ∧ Prog cm cw hp Q op) ∨ (gq = qs ∧ gs = qc ∧ Prog sm sw hp Q op)
theorem lw_end {L x : Nat} (hL : L ≤ 3072) (hx : x ≤ 3072) : (Int32.ofNat L - (6 : Int32) < nI x) ↔ L < x + 6 := by
  by_cases c : L < 6
  · have h := (by decide +kernel : ∀ j : Fin 6, Int32.ofNat j.1 - (6 : Int32) < 0) ⟨L, c⟩
    dsimp only at h
    have h0 : (0 : Int32) ≤ nI x := nI_pos' (by omega)
    refine ⟨fun _ => by omega, fun _ => ?_⟩
    rw [Int32.lt_iff_toInt_lt] at h ⊢
    rw [Int32.le_iff_toInt_le] at h0
    omega
  · obtain ⟨d, rfl⟩ : ∃ d, L = d + 6 := ⟨L - 6, by omega⟩
    have e : Int32.ofNat (d + 6) - (6 : Int32) = nI d := by
      have h1 : nI d + nI 6 = nI (d + 6) := nI_add d 6
      show nI (d + 6) - (6 : Int32) = nI d
      rw [← h1]
      exact Int32.add_sub_cancel _ _
    rw [e, nI_ltI (by omega) (by omega)]
    omega
theorem lgw (f : Nat → Int64) (v : Int32) : lg_cmp (vp_updL f 0 (Int32.toInt64 v) (0 : Int32).toNatClampNeg) (Int32.toInt64 v) = 0 := (lg_cmp_eq _ _).mpr (if_pos rfl)
theorem k9 {k : Int32} (h : ¬ (k < 0 ∨ 9 < k)) : k = 0 ∨ k = 1 ∨ k = 2 ∨ k = 3 ∨ k = 4 ∨ k = 5 ∨ k = 6 ∨ k = 7 ∨ k = 8 ∨ k = 9 := by
  have h0 : ¬ k < 0 := fun q => h (Or.inl q)
  have h9 : ¬ nI 10 ≤ k := fun q => h (Or.inr ((nextI (K := 9) (K1 := 10) (by decide)).mp q))
  obtain ⟨j, hj, rfl⟩ := rng 10 (by decide) h0 h9
  have hq : j = 0 ∨ j = 1 ∨ j = 2 ∨ j = 3 ∨ j = 4 ∨ j = 5 ∨ j = 6 ∨ j = 7 ∨ j = 8 ∨ j = 9 := by omega
  rcases hq with rfl | rfl | rfl | rfl | rfl | rfl | rfl | rfl | rfl | rfl
  · exact Or.inl rfl
  · exact Or.inr (Or.inl rfl)
  · exact Or.inr (Or.inr (Or.inl rfl))
  · exact Or.inr (Or.inr (Or.inr (Or.inl rfl)))
  · exact Or.inr (Or.inr (Or.inr (Or.inr (Or.inl rfl))))
  · exact Or.inr (Or.inr (Or.inr (Or.inr (Or.inr (Or.inl rfl)))))
  · exact Or.inr (Or.inr (Or.inr (Or.inr (Or.inr (Or.inr (Or.inl rfl))))))
  · exact Or.inr (Or.inr (Or.inr (Or.inr (Or.inr (Or.inr (Or.inr (Or.inl rfl)))))))
  · exact Or.inr (Or.inr (Or.inr (Or.inr (Or.inr (Or.inr (Or.inr (Or.inr (Or.inl rfl))))))))
  · exact Or.inr (Or.inr (Or.inr (Or.inr (Or.inr (Or.inr (Or.inr (Or.inr (Or.inr (rfl)))))))))
section LAW
variable (fu L : Nat) (xs z : Nat → Int32) (qc qs : Nat)
/-- the loop from here on answers 1, from every state that keeps both sides alike -/
def LW (n : Nat) (x : Int32) : Prop := ∀ ⦃gq gs : Nat⦄ ⦃M T I O U X : Nat → Int32⦄ ⦃cf cp : Int32⦄ ⦃st : Int64⦄ ⦃lo : Nat → Int32⦄ ⦃cd : Int32⦄ ⦃pls : Nat → Int32⦄ ⦃cns : Nat → Int64⦄ ⦃rp kl : Int32⦄ ⦃ra rb rc rr : Nat → Int32⦄ ⦃rdp : Int32⦄ ⦃rpl : Nat → Int32⦄ ⦃rcn : Nat → Int64⦄ ⦃cm : Int32⦄ ⦃cw : Nat → Int32⦄ ⦃sm : Int32⦄ ⦃sw : Nat → Int32⦄ ⦃th hp told : Int32⦄ ⦃Q fresh rd rs left op : Nat → Int32⦄ ⦃w : Nat → Int64⦄, (kl = 0 ∨ kl = 1) → Side qc qs gq gs cm cw sm sw hp Q op → pf_La_law_23 fu L xs 16 8 8 32 4 0 z qc qs n x gq gs M T I O U X cf cp st lo cd pls cns rp kl ra rb rc rr rdp rpl rcn cm cw sm sw th kl hp cf cp told M Q fresh T I O U X rd rs left op w = some 1
set_option maxHeartbeats 4000000 in
theorem lw_A (hf : 70000 < fu) (hL : L ≤ 3072) (hne : qc ≠ qs) (n t : Nat) (ht : 6 * t ≤ L) (ih0 : 6 * t + 6 ≤ L → LW fu L xs z qc qs n (nI (6 * t) + 6)) (M T I O U X : Nat → Int32) (cf cp : Int32) (st : Int64) (lo : Nat → Int32) (cd : Int32) (pls : Nat → Int32) (cns : Nat → Int64) (rp kl : Int32) (ra rb rc rr : Nat → Int32) (rdp : Int32) (rpl : Nat → Int32) (rcn : Nat → Int64) (cm : Int32) (cw : Nat → Int32) (sm : Int32) (sw : Nat → Int32) (th hp told : Int32) (Q fresh rd rs left op : Nat → Int32) (w : Nat → Int64) (hkl : kl = 0 ∨ kl = 1) (hP : Prog cm cw hp Q op) : pf_La_law_23 fu L xs 16 8 8 32 4 0 z qc qs (n + 1) (nI (6 * t)) qc qs M T I O U X cf cp st lo cd pls cns rp kl ra rb rc rr rdp rpl rcn cm cw sm sw th kl hp cf cp told M Q fresh T I O U X rd rs left op w = some 1 := by
  have hS : Side qc qs qc qs cm cw sm sw hp Q op := Or.inl ⟨rfl, rfl, hP⟩
  rw [pf_La_law_23]
  refine Eq.trans (if_pos ⟨rfl, rfl⟩) ?_
  by_cases he : L < 6 * t + 6
  · exact if_pos ((lw_end hL (by omega)).mpr he)
  have ih := ih0 (by omega)
  clear ih0
  have i1 : (0 : Int32) ≤ (nI (6 * t) + (1 : Int32)) ∧ (nI (6 * t) + (1 : Int32)).toNatClampNeg < L := by rw [show nI (6 * t) + (1 : Int32) = nI (6 * t + 1) from nI_add _ 1]; exact inN (by omega) (by omega)
  have i2 : (0 : Int32) ≤ (nI (6 * t) + (2 : Int32)) ∧ (nI (6 * t) + (2 : Int32)).toNatClampNeg < L := by rw [show nI (6 * t) + (2 : Int32) = nI (6 * t + 2) from nI_add _ 2]; exact inN (by omega) (by omega)
  have i3 : (0 : Int32) ≤ (nI (6 * t) + (3 : Int32)) ∧ (nI (6 * t) + (3 : Int32)).toNatClampNeg < L := by rw [show nI (6 * t) + (3 : Int32) = nI (6 * t + 3) from nI_add _ 3]; exact inN (by omega) (by omega)
  have i4 : (0 : Int32) ≤ (nI (6 * t) + (4 : Int32)) ∧ (nI (6 * t) + (4 : Int32)).toNatClampNeg < L := by rw [show nI (6 * t) + (4 : Int32) = nI (6 * t + 4) from nI_add _ 4]; exact inN (by omega) (by omega)
  have i5 : (0 : Int32) ≤ (nI (6 * t) + (5 : Int32)) ∧ (nI (6 * t) + (5 : Int32)).toNatClampNeg < L := by rw [show nI (6 * t) + (5 : Int32) = nI (6 * t + 5) from nI_add _ 5]; exact inN (by omega) (by omega)
  refine Eq.trans (if_neg (fun q => he ((lw_end hL (by omega)).mp q))) ?_
  refine Eq.trans (if_pos (inN (show 6 * t < L by omega) (show L < 2 ^ 31 by omega))) ?_
  by_cases hk : (xs (nI (6 * t)).toNatClampNeg &&& (15 : Int32)) < 0 ∨ 9 < (xs (nI (6 * t)).toNatClampNeg &&& (15 : Int32))
  · exact Eq.trans (if_pos hk) (ih hkl hS)
  refine Eq.trans (if_neg hk) ?_
  rcases k9 hk with e0 | e1 | e2 | e3 | e4 | e5 | e6 | e7 | e8 | e9
  · skip
    refine Eq.trans (if_pos e0) ?_
    refine Eq.trans (if_pos i1) ?_
    refine Eq.trans (if_pos i2) ?_
    obtain ⟨r, M2, h1, h2⟩ := pk_both (xs (nI (6 * t) + (1 : Int32)).toNatClampNeg) (xs (nI (6 * t) + (2 : Int32)).toNatClampNeg) M
    refine Eq.trans (bnd_eq h1 _) ?_
    refine Eq.trans (bnd_eq h2 _) ?_
    refine Eq.trans (bnd_eq (mo_th _) _) ?_
    refine Eq.trans (if_pos rfl) ?_
    exact ih hkl hS
  · skip
    refine Eq.trans (if_neg (show ¬ (xs (nI (6 * t)).toNatClampNeg &&& (15 : Int32)) = 0 by rw [e1]; decide)) ?_
    refine Eq.trans (if_pos e1) ?_
    refine Eq.trans (if_pos i1) ?_
    refine Eq.trans (if_pos i2) ?_
    refine Eq.trans (if_pos i3) ?_
    by_cases c : (xs (nI (6 * t) + (3 : Int32)).toNatClampNeg) = 0
    · skip
      refine Eq.trans (if_pos c) ?_
      rcases ld_both fu (by omega) M (xs (nI (6 * t) + (1 : Int32)).toNatClampNeg) (xs (nI (6 * t) + (2 : Int32)).toNatClampNeg) 0 sm sw cf cp st cd lo pls cns w qc qs hp cf cp fresh Q op with ⟨h1, h2⟩ | ⟨m', w', a, b, S, D, LF, F, G, fresh', h1, h2⟩ | ⟨m, r, w', b, S, D, LF, F, G, fresh', Q', op', hG, h1, h2⟩
      · skip
        refine Eq.trans (bnd_eq h1 _) ?_
        refine Eq.trans (bnd_eq h2 _) ?_
        refine Eq.trans (bnd_eq (mo_th _) _) ?_
        refine Eq.trans (if_pos rfl) ?_
        refine Eq.trans (if_neg (show ¬ (1 : Int32) = 0 by decide)) ?_
        exact ih hkl hS
      · skip
        refine Eq.trans (bnd_eq h1 _) ?_
        refine Eq.trans (bnd_eq h2 _) ?_
        refine Eq.trans (bnd_eq (mo_th _) _) ?_
        refine Eq.trans (if_pos rfl) ?_
        refine Eq.trans (if_neg (show ¬ (2 : Int32) = 0 by decide)) ?_
        exact ih hkl (Or.inl ⟨rfl, rfl, hP⟩)
      · skip
        refine Eq.trans (bnd_eq h1 _) ?_
        refine Eq.trans (bnd_eq h2 _) ?_
        refine Eq.trans (bnd_eq (mo_th _) _) ?_
        refine Eq.trans (if_pos rfl) ?_
        refine Eq.trans (if_pos rfl) ?_
        refine Eq.trans (if_pos (show (0 : Int32) ≤ (0 : Int32) ∧ (0 : Int32).toNatClampNeg < 1 by decide)) ?_
        refine Eq.trans (if_pos (lgw _ _)) ?_
        exact ih hkl (Or.inr ⟨rfl, rfl, Or.inr ⟨rfl, m, rfl, hG⟩⟩)
    · skip
      refine Eq.trans (if_neg c) ?_
      rcases ld_both fu (by omega) M (xs (nI (6 * t) + (1 : Int32)).toNatClampNeg) (xs (nI (6 * t) + (2 : Int32)).toNatClampNeg) 1 sm sw cf cp st cd lo pls cns w qc qs hp cf cp fresh Q op with ⟨h1, h2⟩ | ⟨m', w', a, b, S, D, LF, F, G, fresh', h1, h2⟩ | ⟨m, r, w', b, S, D, LF, F, G, fresh', Q', op', hG, h1, h2⟩
      · skip
        refine Eq.trans (bnd_eq h1 _) ?_
        refine Eq.trans (bnd_eq h2 _) ?_
        refine Eq.trans (bnd_eq (mo_th _) _) ?_
        refine Eq.trans (if_pos rfl) ?_
        refine Eq.trans (if_neg (show ¬ (1 : Int32) = 0 by decide)) ?_
        exact ih hkl hS
      · skip
        refine Eq.trans (bnd_eq h1 _) ?_
        refine Eq.trans (bnd_eq h2 _) ?_
        refine Eq.trans (bnd_eq (mo_th _) _) ?_
        refine Eq.trans (if_pos rfl) ?_
        refine Eq.trans (if_neg (show ¬ (2 : Int32) = 0 by decide)) ?_
        exact ih hkl (Or.inl ⟨rfl, rfl, hP⟩)
      · skip
        refine Eq.trans (bnd_eq h1 _) ?_
        refine Eq.trans (bnd_eq h2 _) ?_
        refine Eq.trans (bnd_eq (mo_th _) _) ?_
        refine Eq.trans (if_pos rfl) ?_
        refine Eq.trans (if_pos rfl) ?_
        refine Eq.trans (if_pos (show (0 : Int32) ≤ (0 : Int32) ∧ (0 : Int32).toNatClampNeg < 1 by decide)) ?_
        refine Eq.trans (if_pos (lgw _ _)) ?_
        exact ih hkl (Or.inr ⟨rfl, rfl, Or.inr ⟨rfl, m, rfl, hG⟩⟩)
  · skip
    refine Eq.trans (if_neg (show ¬ (xs (nI (6 * t)).toNatClampNeg &&& (15 : Int32)) = 0 by rw [e2]; decide)) ?_
    refine Eq.trans (if_neg (show ¬ (xs (nI (6 * t)).toNatClampNeg &&& (15 : Int32)) = 1 by rw [e2]; decide)) ?_
    refine Eq.trans (if_pos e2) ?_
    refine Eq.trans (if_pos i1) ?_
    obtain ⟨r, h1, h2⟩ := ft_both (xs (nI (6 * t) + (1 : Int32)).toNatClampNeg) cf cp
    refine Eq.trans (bnd_eq h1 _) ?_
    refine Eq.trans (bnd_eq h2 _) ?_
    refine Eq.trans (if_pos rfl) ?_
    exact ih hkl hS
  · skip
    refine Eq.trans (if_neg (show ¬ (xs (nI (6 * t)).toNatClampNeg &&& (15 : Int32)) = 0 by rw [e3]; decide)) ?_
    refine Eq.trans (if_neg (show ¬ (xs (nI (6 * t)).toNatClampNeg &&& (15 : Int32)) = 1 by rw [e3]; decide)) ?_
    refine Eq.trans (if_neg (show ¬ (xs (nI (6 * t)).toNatClampNeg &&& (15 : Int32)) = 2 by rw [e3]; decide)) ?_
    refine Eq.trans (if_pos e3) ?_
    refine Eq.trans (if_pos i1) ?_
    refine Eq.trans (if_pos i2) ?_
    refine Eq.trans (if_pos i3) ?_
    refine Eq.trans (if_pos i4) ?_
    refine Eq.trans (if_pos i5) ?_
    obtain ⟨r, M2, h1, h2⟩ := in_both (xs (nI (6 * t) + (1 : Int32)).toNatClampNeg) (xs (nI (6 * t) + (2 : Int32)).toNatClampNeg) (xs (nI (6 * t) + (3 : Int32)).toNatClampNeg) (xs (nI (6 * t) + (4 : Int32)).toNatClampNeg) (xs (nI (6 * t) + (5 : Int32)).toNatClampNeg) I
    refine Eq.trans (bnd_eq h1 _) ?_
    refine Eq.trans (bnd_eq h2 _) ?_
    refine Eq.trans (bnd_eq (mo_th _) _) ?_
    refine Eq.trans (if_pos rfl) ?_
    exact ih hkl hS
  · skip
    refine Eq.trans (if_neg (show ¬ (xs (nI (6 * t)).toNatClampNeg &&& (15 : Int32)) = 0 by rw [e4]; decide)) ?_
    refine Eq.trans (if_neg (show ¬ (xs (nI (6 * t)).toNatClampNeg &&& (15 : Int32)) = 1 by rw [e4]; decide)) ?_
    refine Eq.trans (if_neg (show ¬ (xs (nI (6 * t)).toNatClampNeg &&& (15 : Int32)) = 2 by rw [e4]; decide)) ?_
    refine Eq.trans (if_neg (show ¬ (xs (nI (6 * t)).toNatClampNeg &&& (15 : Int32)) = 3 by rw [e4]; decide)) ?_
    refine Eq.trans (if_pos e4) ?_
    refine Eq.trans (if_pos i1) ?_
    refine Eq.trans (if_pos i2) ?_
    refine Eq.trans (if_pos i3) ?_
    refine Eq.trans (if_pos i4) ?_
    refine Eq.trans (if_pos i5) ?_
    obtain ⟨r, M2, h1, h2⟩ := un_both (xs (nI (6 * t) + (1 : Int32)).toNatClampNeg) (xs (nI (6 * t) + (2 : Int32)).toNatClampNeg) (xs (nI (6 * t) + (3 : Int32)).toNatClampNeg) (xs (nI (6 * t) + (4 : Int32)).toNatClampNeg) (xs (nI (6 * t) + (5 : Int32)).toNatClampNeg) U
    refine Eq.trans (bnd_eq h1 _) ?_
    refine Eq.trans (bnd_eq h2 _) ?_
    refine Eq.trans (bnd_eq (mo_th _) _) ?_
    refine Eq.trans (if_pos rfl) ?_
    exact ih hkl hS
  · skip
    refine Eq.trans (if_neg (show ¬ (xs (nI (6 * t)).toNatClampNeg &&& (15 : Int32)) = 0 by rw [e5]; decide)) ?_
    refine Eq.trans (if_neg (show ¬ (xs (nI (6 * t)).toNatClampNeg &&& (15 : Int32)) = 1 by rw [e5]; decide)) ?_
    refine Eq.trans (if_neg (show ¬ (xs (nI (6 * t)).toNatClampNeg &&& (15 : Int32)) = 2 by rw [e5]; decide)) ?_
    refine Eq.trans (if_neg (show ¬ (xs (nI (6 * t)).toNatClampNeg &&& (15 : Int32)) = 3 by rw [e5]; decide)) ?_
    refine Eq.trans (if_neg (show ¬ (xs (nI (6 * t)).toNatClampNeg &&& (15 : Int32)) = 4 by rw [e5]; decide)) ?_
    refine Eq.trans (if_pos e5) ?_
    refine Eq.trans (if_pos i1) ?_
    refine Eq.trans (if_pos i2) ?_
    refine Eq.trans (if_pos i3) ?_
    refine Eq.trans (if_pos i4) ?_
    refine Eq.trans (if_pos i5) ?_
    obtain ⟨r, M2, h1, h2⟩ := tx_both (xs (nI (6 * t) + (1 : Int32)).toNatClampNeg) (xs (nI (6 * t) + (2 : Int32)).toNatClampNeg) (xs (nI (6 * t) + (3 : Int32)).toNatClampNeg) (xs (nI (6 * t) + (4 : Int32)).toNatClampNeg) (xs (nI (6 * t) + (5 : Int32)).toNatClampNeg) X
    refine Eq.trans (bnd_eq h1 _) ?_
    refine Eq.trans (bnd_eq h2 _) ?_
    refine Eq.trans (bnd_eq (mo_th _) _) ?_
    refine Eq.trans (if_pos rfl) ?_
    exact ih hkl hS
  · skip
    refine Eq.trans (if_neg (show ¬ (xs (nI (6 * t)).toNatClampNeg &&& (15 : Int32)) = 0 by rw [e6]; decide)) ?_
    refine Eq.trans (if_neg (show ¬ (xs (nI (6 * t)).toNatClampNeg &&& (15 : Int32)) = 1 by rw [e6]; decide)) ?_
    refine Eq.trans (if_neg (show ¬ (xs (nI (6 * t)).toNatClampNeg &&& (15 : Int32)) = 2 by rw [e6]; decide)) ?_
    refine Eq.trans (if_neg (show ¬ (xs (nI (6 * t)).toNatClampNeg &&& (15 : Int32)) = 3 by rw [e6]; decide)) ?_
    refine Eq.trans (if_neg (show ¬ (xs (nI (6 * t)).toNatClampNeg &&& (15 : Int32)) = 4 by rw [e6]; decide)) ?_
    refine Eq.trans (if_neg (show ¬ (xs (nI (6 * t)).toNatClampNeg &&& (15 : Int32)) = 5 by rw [e6]; decide)) ?_
    refine Eq.trans (if_pos e6) ?_
    rcases hP with ⟨g1, g2⟩ | ⟨g1, m, g2, hG⟩
    · subst g1
      subst g2
      obtain ⟨h1, h2⟩ := rn_no fu cw Q op z I U M X T O rc rb ra rpl rr left rd rs rcn w rp kl rdp told
      refine Eq.trans (bnd_eq h1 _) ?_
      refine Eq.trans (bnd_eq h2 _) ?_
      refine Eq.trans (bnd_eq (mo_th _) _) ?_
      refine Eq.trans (if_pos rfl) ?_
      refine Eq.trans (if_neg (show ¬ (1 : Int32) = 0 by decide)) ?_
      exact ih hkl hS
    · subst g1
      subst g2
      obtain ⟨r, pl', kl', T', O', d', vc', vb', va', f', g', res', told', left', rd', rs', ek, h1, h2⟩ := rn_yes fu cw Q op z I U M X T O rc rb ra rpl rr left rd rs rcn w rp kl rdp told hf hG
      refine Eq.trans (bnd_eq h1 _) ?_
      refine Eq.trans (bnd_eq h2 _) ?_
      refine Eq.trans (bnd_eq (mo_th _) _) ?_
      refine Eq.trans (if_pos rfl) ?_
      refine Eq.trans (if_pos rfl) ?_
      refine Eq.trans (if_pos (show (0 : Int32) ≤ (0 : Int32) ∧ (0 : Int32).toNatClampNeg < 1 by decide)) ?_
      refine Eq.trans (if_pos (lgw _ _)) ?_
      exact ih ek hS
  · skip
    refine Eq.trans (if_neg (show ¬ (xs (nI (6 * t)).toNatClampNeg &&& (15 : Int32)) = 0 by rw [e7]; decide)) ?_
    refine Eq.trans (if_neg (show ¬ (xs (nI (6 * t)).toNatClampNeg &&& (15 : Int32)) = 1 by rw [e7]; decide)) ?_
    refine Eq.trans (if_neg (show ¬ (xs (nI (6 * t)).toNatClampNeg &&& (15 : Int32)) = 2 by rw [e7]; decide)) ?_
    refine Eq.trans (if_neg (show ¬ (xs (nI (6 * t)).toNatClampNeg &&& (15 : Int32)) = 3 by rw [e7]; decide)) ?_
    refine Eq.trans (if_neg (show ¬ (xs (nI (6 * t)).toNatClampNeg &&& (15 : Int32)) = 4 by rw [e7]; decide)) ?_
    refine Eq.trans (if_neg (show ¬ (xs (nI (6 * t)).toNatClampNeg &&& (15 : Int32)) = 5 by rw [e7]; decide)) ?_
    refine Eq.trans (if_neg (show ¬ (xs (nI (6 * t)).toNatClampNeg &&& (15 : Int32)) = 6 by rw [e7]; decide)) ?_
    refine Eq.trans (if_pos e7) ?_
    obtain ⟨h1, h2⟩ := kl_both hkl
    refine Eq.trans (bnd_eq h1 _) ?_
    refine Eq.trans (bnd_eq h2 _) ?_
    refine Eq.trans (if_pos rfl) ?_
    exact ih hkl hS
  · skip
    refine Eq.trans (if_neg (show ¬ (xs (nI (6 * t)).toNatClampNeg &&& (15 : Int32)) = 0 by rw [e8]; decide)) ?_
    refine Eq.trans (if_neg (show ¬ (xs (nI (6 * t)).toNatClampNeg &&& (15 : Int32)) = 1 by rw [e8]; decide)) ?_
    refine Eq.trans (if_neg (show ¬ (xs (nI (6 * t)).toNatClampNeg &&& (15 : Int32)) = 2 by rw [e8]; decide)) ?_
    refine Eq.trans (if_neg (show ¬ (xs (nI (6 * t)).toNatClampNeg &&& (15 : Int32)) = 3 by rw [e8]; decide)) ?_
    refine Eq.trans (if_neg (show ¬ (xs (nI (6 * t)).toNatClampNeg &&& (15 : Int32)) = 4 by rw [e8]; decide)) ?_
    refine Eq.trans (if_neg (show ¬ (xs (nI (6 * t)).toNatClampNeg &&& (15 : Int32)) = 5 by rw [e8]; decide)) ?_
    refine Eq.trans (if_neg (show ¬ (xs (nI (6 * t)).toNatClampNeg &&& (15 : Int32)) = 6 by rw [e8]; decide)) ?_
    refine Eq.trans (if_neg (show ¬ (xs (nI (6 * t)).toNatClampNeg &&& (15 : Int32)) = 7 by rw [e8]; decide)) ?_
    refine Eq.trans (if_pos e8) ?_
    refine Eq.trans (if_pos i1) ?_
    refine Eq.trans (if_pos i2) ?_
    obtain ⟨r, v, f2, h1, h2, h3⟩ := ou_both (xs (nI (6 * t) + (1 : Int32)).toNatClampNeg) (xs (nI (6 * t) + (2 : Int32)).toNatClampNeg) O w
    refine Eq.trans (bnd_eq h1 _) ?_
    refine Eq.trans (bnd_eq h2 _) ?_
    refine Eq.trans (bnd_eq (mo_th _) _) ?_
    refine Eq.trans (if_pos rfl) ?_
    by_cases c : r = 0
    · skip
      refine Eq.trans (if_pos c) ?_
      refine Eq.trans (if_pos (show (0 : Int32) ≤ (0 : Int32) ∧ (0 : Int32).toNatClampNeg < 1 by decide)) ?_
      refine Eq.trans (if_pos (by rw [h3 c]; exact lgw _ _)) ?_
      exact ih hkl hS
    · exact Eq.trans (if_neg c) (ih hkl hS)
  · skip
    refine Eq.trans (if_neg (show ¬ (xs (nI (6 * t)).toNatClampNeg &&& (15 : Int32)) = 0 by rw [e9]; decide)) ?_
    refine Eq.trans (if_neg (show ¬ (xs (nI (6 * t)).toNatClampNeg &&& (15 : Int32)) = 1 by rw [e9]; decide)) ?_
    refine Eq.trans (if_neg (show ¬ (xs (nI (6 * t)).toNatClampNeg &&& (15 : Int32)) = 2 by rw [e9]; decide)) ?_
    refine Eq.trans (if_neg (show ¬ (xs (nI (6 * t)).toNatClampNeg &&& (15 : Int32)) = 3 by rw [e9]; decide)) ?_
    refine Eq.trans (if_neg (show ¬ (xs (nI (6 * t)).toNatClampNeg &&& (15 : Int32)) = 4 by rw [e9]; decide)) ?_
    refine Eq.trans (if_neg (show ¬ (xs (nI (6 * t)).toNatClampNeg &&& (15 : Int32)) = 5 by rw [e9]; decide)) ?_
    refine Eq.trans (if_neg (show ¬ (xs (nI (6 * t)).toNatClampNeg &&& (15 : Int32)) = 6 by rw [e9]; decide)) ?_
    refine Eq.trans (if_neg (show ¬ (xs (nI (6 * t)).toNatClampNeg &&& (15 : Int32)) = 7 by rw [e9]; decide)) ?_
    refine Eq.trans (if_neg (show ¬ (xs (nI (6 * t)).toNatClampNeg &&& (15 : Int32)) = 8 by rw [e9]; decide)) ?_
    refine Eq.trans (if_pos e9) ?_
    refine Eq.trans (if_pos i1) ?_
    refine Eq.trans (if_pos i2) ?_
    obtain ⟨r, v, f2, h1, h2, h3⟩ := te_both (xs (nI (6 * t) + (1 : Int32)).toNatClampNeg) (xs (nI (6 * t) + (2 : Int32)).toNatClampNeg) T w
    refine Eq.trans (bnd_eq h1 _) ?_
    refine Eq.trans (bnd_eq h2 _) ?_
    refine Eq.trans (bnd_eq (mo_th _) _) ?_
    refine Eq.trans (if_pos rfl) ?_
    by_cases c : r = 0
    · skip
      refine Eq.trans (if_pos c) ?_
      refine Eq.trans (if_pos (show (0 : Int32) ≤ (0 : Int32) ∧ (0 : Int32).toNatClampNeg < 1 by decide)) ?_
      refine Eq.trans (if_pos (by rw [h3 c]; exact lgw _ _)) ?_
      exact ih hkl hS
    · exact Eq.trans (if_neg c) (ih hkl hS)
set_option maxHeartbeats 4000000 in
theorem lw_B (hf : 70000 < fu) (hL : L ≤ 3072) (hne : qc ≠ qs) (n t : Nat) (ht : 6 * t ≤ L) (ih0 : 6 * t + 6 ≤ L → LW fu L xs z qc qs n (nI (6 * t) + 6)) (M T I O U X : Nat → Int32) (cf cp : Int32) (st : Int64) (lo : Nat → Int32) (cd : Int32) (pls : Nat → Int32) (cns : Nat → Int64) (rp kl : Int32) (ra rb rc rr : Nat → Int32) (rdp : Int32) (rpl : Nat → Int32) (rcn : Nat → Int64) (cm : Int32) (cw : Nat → Int32) (sm : Int32) (sw : Nat → Int32) (th hp told : Int32) (Q fresh rd rs left op : Nat → Int32) (w : Nat → Int64) (hkl : kl = 0 ∨ kl = 1) (hP : Prog sm sw hp Q op) : pf_La_law_23 fu L xs 16 8 8 32 4 0 z qc qs (n + 1) (nI (6 * t)) qs qc M T I O U X cf cp st lo cd pls cns rp kl ra rb rc rr rdp rpl rcn cm cw sm sw th kl hp cf cp told M Q fresh T I O U X rd rs left op w = some 1 := by
  have hS : Side qc qs qs qc cm cw sm sw hp Q op := Or.inr ⟨rfl, rfl, hP⟩
  rw [pf_La_law_23]
  refine Eq.trans (if_neg (fun q => hne q.2)) ?_
  refine Eq.trans (if_pos ⟨rfl, rfl⟩) ?_
  by_cases he : L < 6 * t + 6
  · exact if_pos ((lw_end hL (by omega)).mpr he)
  have ih := ih0 (by omega)
  clear ih0
  have i1 : (0 : Int32) ≤ (nI (6 * t) + (1 : Int32)) ∧ (nI (6 * t) + (1 : Int32)).toNatClampNeg < L := by rw [show nI (6 * t) + (1 : Int32) = nI (6 * t + 1) from nI_add _ 1]; exact inN (by omega) (by omega)
  have i2 : (0 : Int32) ≤ (nI (6 * t) + (2 : Int32)) ∧ (nI (6 * t) + (2 : Int32)).toNatClampNeg < L := by rw [show nI (6 * t) + (2 : Int32) = nI (6 * t + 2) from nI_add _ 2]; exact inN (by omega) (by omega)
  have i3 : (0 : Int32) ≤ (nI (6 * t) + (3 : Int32)) ∧ (nI (6 * t) + (3 : Int32)).toNatClampNeg < L := by rw [show nI (6 * t) + (3 : Int32) = nI (6 * t + 3) from nI_add _ 3]; exact inN (by omega) (by omega)
  have i4 : (0 : Int32) ≤ (nI (6 * t) + (4 : Int32)) ∧ (nI (6 * t) + (4 : Int32)).toNatClampNeg < L := by rw [show nI (6 * t) + (4 : Int32) = nI (6 * t + 4) from nI_add _ 4]; exact inN (by omega) (by omega)
  have i5 : (0 : Int32) ≤ (nI (6 * t) + (5 : Int32)) ∧ (nI (6 * t) + (5 : Int32)).toNatClampNeg < L := by rw [show nI (6 * t) + (5 : Int32) = nI (6 * t + 5) from nI_add _ 5]; exact inN (by omega) (by omega)
  refine Eq.trans (if_neg (fun q => he ((lw_end hL (by omega)).mp q))) ?_
  refine Eq.trans (if_pos (inN (show 6 * t < L by omega) (show L < 2 ^ 31 by omega))) ?_
  by_cases hk : (xs (nI (6 * t)).toNatClampNeg &&& (15 : Int32)) < 0 ∨ 9 < (xs (nI (6 * t)).toNatClampNeg &&& (15 : Int32))
  · exact Eq.trans (if_pos hk) (ih hkl hS)
  refine Eq.trans (if_neg hk) ?_
  rcases k9 hk with e0 | e1 | e2 | e3 | e4 | e5 | e6 | e7 | e8 | e9
  · skip
    refine Eq.trans (if_pos e0) ?_
    refine Eq.trans (if_pos i1) ?_
    refine Eq.trans (if_pos i2) ?_
    obtain ⟨r, M2, h1, h2⟩ := pk_both (xs (nI (6 * t) + (1 : Int32)).toNatClampNeg) (xs (nI (6 * t) + (2 : Int32)).toNatClampNeg) M
    refine Eq.trans (bnd_eq h1 _) ?_
    refine Eq.trans (bnd_eq h2 _) ?_
    refine Eq.trans (bnd_eq (mo_th _) _) ?_
    refine Eq.trans (if_pos rfl) ?_
    exact ih hkl hS
  · skip
    refine Eq.trans (if_neg (show ¬ (xs (nI (6 * t)).toNatClampNeg &&& (15 : Int32)) = 0 by rw [e1]; decide)) ?_
    refine Eq.trans (if_pos e1) ?_
    refine Eq.trans (if_pos i1) ?_
    refine Eq.trans (if_pos i2) ?_
    refine Eq.trans (if_pos i3) ?_
    by_cases c : (xs (nI (6 * t) + (3 : Int32)).toNatClampNeg) = 0
    · skip
      refine Eq.trans (if_pos c) ?_
      rcases ld_both fu (by omega) M (xs (nI (6 * t) + (1 : Int32)).toNatClampNeg) (xs (nI (6 * t) + (2 : Int32)).toNatClampNeg) 0 cm cw cf cp st cd lo pls cns w qs qc hp cf cp fresh Q op with ⟨h1, h2⟩ | ⟨m', w', a, b, S, D, LF, F, G, fresh', h1, h2⟩ | ⟨m, r, w', b, S, D, LF, F, G, fresh', Q', op', hG, h1, h2⟩
      · skip
        refine Eq.trans (bnd_eq h1 _) ?_
        refine Eq.trans (bnd_eq h2 _) ?_
        refine Eq.trans (bnd_eq (mo_th _) _) ?_
        refine Eq.trans (if_pos rfl) ?_
        refine Eq.trans (if_neg (show ¬ (1 : Int32) = 0 by decide)) ?_
        exact ih hkl hS
      · skip
        refine Eq.trans (bnd_eq h1 _) ?_
        refine Eq.trans (bnd_eq h2 _) ?_
        refine Eq.trans (bnd_eq (mo_th _) _) ?_
        refine Eq.trans (if_pos rfl) ?_
        refine Eq.trans (if_neg (show ¬ (2 : Int32) = 0 by decide)) ?_
        exact ih hkl (Or.inr ⟨rfl, rfl, hP⟩)
      · skip
        refine Eq.trans (bnd_eq h1 _) ?_
        refine Eq.trans (bnd_eq h2 _) ?_
        refine Eq.trans (bnd_eq (mo_th _) _) ?_
        refine Eq.trans (if_pos rfl) ?_
        refine Eq.trans (if_pos rfl) ?_
        refine Eq.trans (if_pos (show (0 : Int32) ≤ (0 : Int32) ∧ (0 : Int32).toNatClampNeg < 1 by decide)) ?_
        refine Eq.trans (if_pos (lgw _ _)) ?_
        exact ih hkl (Or.inl ⟨rfl, rfl, Or.inr ⟨rfl, m, rfl, hG⟩⟩)
    · skip
      refine Eq.trans (if_neg c) ?_
      rcases ld_both fu (by omega) M (xs (nI (6 * t) + (1 : Int32)).toNatClampNeg) (xs (nI (6 * t) + (2 : Int32)).toNatClampNeg) 1 cm cw cf cp st cd lo pls cns w qs qc hp cf cp fresh Q op with ⟨h1, h2⟩ | ⟨m', w', a, b, S, D, LF, F, G, fresh', h1, h2⟩ | ⟨m, r, w', b, S, D, LF, F, G, fresh', Q', op', hG, h1, h2⟩
      · skip
        refine Eq.trans (bnd_eq h1 _) ?_
        refine Eq.trans (bnd_eq h2 _) ?_
        refine Eq.trans (bnd_eq (mo_th _) _) ?_
        refine Eq.trans (if_pos rfl) ?_
        refine Eq.trans (if_neg (show ¬ (1 : Int32) = 0 by decide)) ?_
        exact ih hkl hS
      · skip
        refine Eq.trans (bnd_eq h1 _) ?_
        refine Eq.trans (bnd_eq h2 _) ?_
        refine Eq.trans (bnd_eq (mo_th _) _) ?_
        refine Eq.trans (if_pos rfl) ?_
        refine Eq.trans (if_neg (show ¬ (2 : Int32) = 0 by decide)) ?_
        exact ih hkl (Or.inr ⟨rfl, rfl, hP⟩)
      · skip
        refine Eq.trans (bnd_eq h1 _) ?_
        refine Eq.trans (bnd_eq h2 _) ?_
        refine Eq.trans (bnd_eq (mo_th _) _) ?_
        refine Eq.trans (if_pos rfl) ?_
        refine Eq.trans (if_pos rfl) ?_
        refine Eq.trans (if_pos (show (0 : Int32) ≤ (0 : Int32) ∧ (0 : Int32).toNatClampNeg < 1 by decide)) ?_
        refine Eq.trans (if_pos (lgw _ _)) ?_
        exact ih hkl (Or.inl ⟨rfl, rfl, Or.inr ⟨rfl, m, rfl, hG⟩⟩)
  · skip
    refine Eq.trans (if_neg (show ¬ (xs (nI (6 * t)).toNatClampNeg &&& (15 : Int32)) = 0 by rw [e2]; decide)) ?_
    refine Eq.trans (if_neg (show ¬ (xs (nI (6 * t)).toNatClampNeg &&& (15 : Int32)) = 1 by rw [e2]; decide)) ?_
    refine Eq.trans (if_pos e2) ?_
    refine Eq.trans (if_pos i1) ?_
    obtain ⟨r, h1, h2⟩ := ft_both (xs (nI (6 * t) + (1 : Int32)).toNatClampNeg) cf cp
    refine Eq.trans (bnd_eq h1 _) ?_
    refine Eq.trans (bnd_eq h2 _) ?_
    refine Eq.trans (if_pos rfl) ?_
    exact ih hkl hS
  · skip
    refine Eq.trans (if_neg (show ¬ (xs (nI (6 * t)).toNatClampNeg &&& (15 : Int32)) = 0 by rw [e3]; decide)) ?_
    refine Eq.trans (if_neg (show ¬ (xs (nI (6 * t)).toNatClampNeg &&& (15 : Int32)) = 1 by rw [e3]; decide)) ?_
    refine Eq.trans (if_neg (show ¬ (xs (nI (6 * t)).toNatClampNeg &&& (15 : Int32)) = 2 by rw [e3]; decide)) ?_
    refine Eq.trans (if_pos e3) ?_
    refine Eq.trans (if_pos i1) ?_
    refine Eq.trans (if_pos i2) ?_
    refine Eq.trans (if_pos i3) ?_
    refine Eq.trans (if_pos i4) ?_
    refine Eq.trans (if_pos i5) ?_
    obtain ⟨r, M2, h1, h2⟩ := in_both (xs (nI (6 * t) + (1 : Int32)).toNatClampNeg) (xs (nI (6 * t) + (2 : Int32)).toNatClampNeg) (xs (nI (6 * t) + (3 : Int32)).toNatClampNeg) (xs (nI (6 * t) + (4 : Int32)).toNatClampNeg) (xs (nI (6 * t) + (5 : Int32)).toNatClampNeg) I
    refine Eq.trans (bnd_eq h1 _) ?_
    refine Eq.trans (bnd_eq h2 _) ?_
    refine Eq.trans (bnd_eq (mo_th _) _) ?_
    refine Eq.trans (if_pos rfl) ?_
    exact ih hkl hS
  · skip
    refine Eq.trans (if_neg (show ¬ (xs (nI (6 * t)).toNatClampNeg &&& (15 : Int32)) = 0 by rw [e4]; decide)) ?_
    refine Eq.trans (if_neg (show ¬ (xs (nI (6 * t)).toNatClampNeg &&& (15 : Int32)) = 1 by rw [e4]; decide)) ?_
    refine Eq.trans (if_neg (show ¬ (xs (nI (6 * t)).toNatClampNeg &&& (15 : Int32)) = 2 by rw [e4]; decide)) ?_
    refine Eq.trans (if_neg (show ¬ (xs (nI (6 * t)).toNatClampNeg &&& (15 : Int32)) = 3 by rw [e4]; decide)) ?_
    refine Eq.trans (if_pos e4) ?_
    refine Eq.trans (if_pos i1) ?_
    refine Eq.trans (if_pos i2) ?_
    refine Eq.trans (if_pos i3) ?_
    refine Eq.trans (if_pos i4) ?_
    refine Eq.trans (if_pos i5) ?_
    obtain ⟨r, M2, h1, h2⟩ := un_both (xs (nI (6 * t) + (1 : Int32)).toNatClampNeg) (xs (nI (6 * t) + (2 : Int32)).toNatClampNeg) (xs (nI (6 * t) + (3 : Int32)).toNatClampNeg) (xs (nI (6 * t) + (4 : Int32)).toNatClampNeg) (xs (nI (6 * t) + (5 : Int32)).toNatClampNeg) U
    refine Eq.trans (bnd_eq h1 _) ?_
    refine Eq.trans (bnd_eq h2 _) ?_
    refine Eq.trans (bnd_eq (mo_th _) _) ?_
    refine Eq.trans (if_pos rfl) ?_
    exact ih hkl hS
  · skip
    refine Eq.trans (if_neg (show ¬ (xs (nI (6 * t)).toNatClampNeg &&& (15 : Int32)) = 0 by rw [e5]; decide)) ?_
    refine Eq.trans (if_neg (show ¬ (xs (nI (6 * t)).toNatClampNeg &&& (15 : Int32)) = 1 by rw [e5]; decide)) ?_
    refine Eq.trans (if_neg (show ¬ (xs (nI (6 * t)).toNatClampNeg &&& (15 : Int32)) = 2 by rw [e5]; decide)) ?_
    refine Eq.trans (if_neg (show ¬ (xs (nI (6 * t)).toNatClampNeg &&& (15 : Int32)) = 3 by rw [e5]; decide)) ?_
    refine Eq.trans (if_neg (show ¬ (xs (nI (6 * t)).toNatClampNeg &&& (15 : Int32)) = 4 by rw [e5]; decide)) ?_
    refine Eq.trans (if_pos e5) ?_
    refine Eq.trans (if_pos i1) ?_
    refine Eq.trans (if_pos i2) ?_
    refine Eq.trans (if_pos i3) ?_
    refine Eq.trans (if_pos i4) ?_
    refine Eq.trans (if_pos i5) ?_
    obtain ⟨r, M2, h1, h2⟩ := tx_both (xs (nI (6 * t) + (1 : Int32)).toNatClampNeg) (xs (nI (6 * t) + (2 : Int32)).toNatClampNeg) (xs (nI (6 * t) + (3 : Int32)).toNatClampNeg) (xs (nI (6 * t) + (4 : Int32)).toNatClampNeg) (xs (nI (6 * t) + (5 : Int32)).toNatClampNeg) X
    refine Eq.trans (bnd_eq h1 _) ?_
    refine Eq.trans (bnd_eq h2 _) ?_
    refine Eq.trans (bnd_eq (mo_th _) _) ?_
    refine Eq.trans (if_pos rfl) ?_
    exact ih hkl hS
  · skip
    refine Eq.trans (if_neg (show ¬ (xs (nI (6 * t)).toNatClampNeg &&& (15 : Int32)) = 0 by rw [e6]; decide)) ?_
    refine Eq.trans (if_neg (show ¬ (xs (nI (6 * t)).toNatClampNeg &&& (15 : Int32)) = 1 by rw [e6]; decide)) ?_
    refine Eq.trans (if_neg (show ¬ (xs (nI (6 * t)).toNatClampNeg &&& (15 : Int32)) = 2 by rw [e6]; decide)) ?_
    refine Eq.trans (if_neg (show ¬ (xs (nI (6 * t)).toNatClampNeg &&& (15 : Int32)) = 3 by rw [e6]; decide)) ?_
    refine Eq.trans (if_neg (show ¬ (xs (nI (6 * t)).toNatClampNeg &&& (15 : Int32)) = 4 by rw [e6]; decide)) ?_
    refine Eq.trans (if_neg (show ¬ (xs (nI (6 * t)).toNatClampNeg &&& (15 : Int32)) = 5 by rw [e6]; decide)) ?_
    refine Eq.trans (if_pos e6) ?_
    rcases hP with ⟨g1, g2⟩ | ⟨g1, m, g2, hG⟩
    · subst g1
      subst g2
      obtain ⟨h1, h2⟩ := rn_no fu sw Q op z I U M X T O rc rb ra rpl rr left rd rs rcn w rp kl rdp told
      refine Eq.trans (bnd_eq h1 _) ?_
      refine Eq.trans (bnd_eq h2 _) ?_
      refine Eq.trans (bnd_eq (mo_th _) _) ?_
      refine Eq.trans (if_pos rfl) ?_
      refine Eq.trans (if_neg (show ¬ (1 : Int32) = 0 by decide)) ?_
      exact ih hkl hS
    · subst g1
      subst g2
      obtain ⟨r, pl', kl', T', O', d', vc', vb', va', f', g', res', told', left', rd', rs', ek, h1, h2⟩ := rn_yes fu sw Q op z I U M X T O rc rb ra rpl rr left rd rs rcn w rp kl rdp told hf hG
      refine Eq.trans (bnd_eq h1 _) ?_
      refine Eq.trans (bnd_eq h2 _) ?_
      refine Eq.trans (bnd_eq (mo_th _) _) ?_
      refine Eq.trans (if_pos rfl) ?_
      refine Eq.trans (if_pos rfl) ?_
      refine Eq.trans (if_pos (show (0 : Int32) ≤ (0 : Int32) ∧ (0 : Int32).toNatClampNeg < 1 by decide)) ?_
      refine Eq.trans (if_pos (lgw _ _)) ?_
      exact ih ek hS
  · skip
    refine Eq.trans (if_neg (show ¬ (xs (nI (6 * t)).toNatClampNeg &&& (15 : Int32)) = 0 by rw [e7]; decide)) ?_
    refine Eq.trans (if_neg (show ¬ (xs (nI (6 * t)).toNatClampNeg &&& (15 : Int32)) = 1 by rw [e7]; decide)) ?_
    refine Eq.trans (if_neg (show ¬ (xs (nI (6 * t)).toNatClampNeg &&& (15 : Int32)) = 2 by rw [e7]; decide)) ?_
    refine Eq.trans (if_neg (show ¬ (xs (nI (6 * t)).toNatClampNeg &&& (15 : Int32)) = 3 by rw [e7]; decide)) ?_
    refine Eq.trans (if_neg (show ¬ (xs (nI (6 * t)).toNatClampNeg &&& (15 : Int32)) = 4 by rw [e7]; decide)) ?_
    refine Eq.trans (if_neg (show ¬ (xs (nI (6 * t)).toNatClampNeg &&& (15 : Int32)) = 5 by rw [e7]; decide)) ?_
    refine Eq.trans (if_neg (show ¬ (xs (nI (6 * t)).toNatClampNeg &&& (15 : Int32)) = 6 by rw [e7]; decide)) ?_
    refine Eq.trans (if_pos e7) ?_
    obtain ⟨h1, h2⟩ := kl_both hkl
    refine Eq.trans (bnd_eq h1 _) ?_
    refine Eq.trans (bnd_eq h2 _) ?_
    refine Eq.trans (if_pos rfl) ?_
    exact ih hkl hS
  · skip
    refine Eq.trans (if_neg (show ¬ (xs (nI (6 * t)).toNatClampNeg &&& (15 : Int32)) = 0 by rw [e8]; decide)) ?_
    refine Eq.trans (if_neg (show ¬ (xs (nI (6 * t)).toNatClampNeg &&& (15 : Int32)) = 1 by rw [e8]; decide)) ?_
    refine Eq.trans (if_neg (show ¬ (xs (nI (6 * t)).toNatClampNeg &&& (15 : Int32)) = 2 by rw [e8]; decide)) ?_
    refine Eq.trans (if_neg (show ¬ (xs (nI (6 * t)).toNatClampNeg &&& (15 : Int32)) = 3 by rw [e8]; decide)) ?_
    refine Eq.trans (if_neg (show ¬ (xs (nI (6 * t)).toNatClampNeg &&& (15 : Int32)) = 4 by rw [e8]; decide)) ?_
    refine Eq.trans (if_neg (show ¬ (xs (nI (6 * t)).toNatClampNeg &&& (15 : Int32)) = 5 by rw [e8]; decide)) ?_
    refine Eq.trans (if_neg (show ¬ (xs (nI (6 * t)).toNatClampNeg &&& (15 : Int32)) = 6 by rw [e8]; decide)) ?_
    refine Eq.trans (if_neg (show ¬ (xs (nI (6 * t)).toNatClampNeg &&& (15 : Int32)) = 7 by rw [e8]; decide)) ?_
    refine Eq.trans (if_pos e8) ?_
    refine Eq.trans (if_pos i1) ?_
    refine Eq.trans (if_pos i2) ?_
    obtain ⟨r, v, f2, h1, h2, h3⟩ := ou_both (xs (nI (6 * t) + (1 : Int32)).toNatClampNeg) (xs (nI (6 * t) + (2 : Int32)).toNatClampNeg) O w
    refine Eq.trans (bnd_eq h1 _) ?_
    refine Eq.trans (bnd_eq h2 _) ?_
    refine Eq.trans (bnd_eq (mo_th _) _) ?_
    refine Eq.trans (if_pos rfl) ?_
    by_cases c : r = 0
    · skip
      refine Eq.trans (if_pos c) ?_
      refine Eq.trans (if_pos (show (0 : Int32) ≤ (0 : Int32) ∧ (0 : Int32).toNatClampNeg < 1 by decide)) ?_
      refine Eq.trans (if_pos (by rw [h3 c]; exact lgw _ _)) ?_
      exact ih hkl hS
    · exact Eq.trans (if_neg c) (ih hkl hS)
  · skip
    refine Eq.trans (if_neg (show ¬ (xs (nI (6 * t)).toNatClampNeg &&& (15 : Int32)) = 0 by rw [e9]; decide)) ?_
    refine Eq.trans (if_neg (show ¬ (xs (nI (6 * t)).toNatClampNeg &&& (15 : Int32)) = 1 by rw [e9]; decide)) ?_
    refine Eq.trans (if_neg (show ¬ (xs (nI (6 * t)).toNatClampNeg &&& (15 : Int32)) = 2 by rw [e9]; decide)) ?_
    refine Eq.trans (if_neg (show ¬ (xs (nI (6 * t)).toNatClampNeg &&& (15 : Int32)) = 3 by rw [e9]; decide)) ?_
    refine Eq.trans (if_neg (show ¬ (xs (nI (6 * t)).toNatClampNeg &&& (15 : Int32)) = 4 by rw [e9]; decide)) ?_
    refine Eq.trans (if_neg (show ¬ (xs (nI (6 * t)).toNatClampNeg &&& (15 : Int32)) = 5 by rw [e9]; decide)) ?_
    refine Eq.trans (if_neg (show ¬ (xs (nI (6 * t)).toNatClampNeg &&& (15 : Int32)) = 6 by rw [e9]; decide)) ?_
    refine Eq.trans (if_neg (show ¬ (xs (nI (6 * t)).toNatClampNeg &&& (15 : Int32)) = 7 by rw [e9]; decide)) ?_
    refine Eq.trans (if_neg (show ¬ (xs (nI (6 * t)).toNatClampNeg &&& (15 : Int32)) = 8 by rw [e9]; decide)) ?_
    refine Eq.trans (if_pos e9) ?_
    refine Eq.trans (if_pos i1) ?_
    refine Eq.trans (if_pos i2) ?_
    obtain ⟨r, v, f2, h1, h2, h3⟩ := te_both (xs (nI (6 * t) + (1 : Int32)).toNatClampNeg) (xs (nI (6 * t) + (2 : Int32)).toNatClampNeg) T w
    refine Eq.trans (bnd_eq h1 _) ?_
    refine Eq.trans (bnd_eq h2 _) ?_
    refine Eq.trans (bnd_eq (mo_th _) _) ?_
    refine Eq.trans (if_pos rfl) ?_
    by_cases c : r = 0
    · skip
      refine Eq.trans (if_pos c) ?_
      refine Eq.trans (if_pos (show (0 : Int32) ≤ (0 : Int32) ∧ (0 : Int32).toNatClampNeg < 1 by decide)) ?_
      refine Eq.trans (if_pos (by rw [h3 c]; exact lgw _ _)) ?_
      exact ih hkl hS
    · exact Eq.trans (if_neg c) (ih hkl hS)
theorem lw_all (hf : 70000 < fu) (hL : L ≤ 3072) (hne : qc ≠ qs) : ∀ n t : Nat, 6 * t ≤ L → L < 6 * t + 6 * n → LW fu L xs z qc qs n (nI (6 * t)) := by
  intro n
  induction n with
  | zero =>
    intro t h1 h2
    omega
  | succ n ih =>
    intro t h1 h2
    have e6 : nI (6 * t) + (6 : Int32) = nI (6 * (t + 1)) := nI_add (6 * t) 6
    have hi : 6 * t + 6 ≤ L → LW fu L xs z qc qs n (nI (6 * t) + 6) := by
      intro h3
      rw [e6]
      exact ih (t + 1) (by omega) (by omega)
    unfold LW
    intro gq gs M T I O U X cf cp st lo cd pls cns rp kl ra rb rc rr rdp rpl rcn cm cw sm sw th hp told Q fresh rd rs left op w hkl hS
    rcases hS with ⟨g1, g2, hP⟩ | ⟨g1, g2, hP⟩
    · subst g1
      subst g2
      exact lw_A fu L xs z _ _ hf hL hne n t h1 hi _ _ _ _ _ _ _ _ _ _ _ _ _ _ _ _ _ _ _ _ _ _ _ _ _ _ _ _ _ _ _ _ _ _ _ _ hkl hP
    · subst g1
      subst g2
      exact lw_B fu L xs z _ _ hf hL hne n t h1 hi _ _ _ _ _ _ _ _ _ _ _ _ _ _ _ _ _ _ _ _ _ _ _ _ _ _ _ _ _ _ _ _ _ _ _ _ hkl hP
end LAW
theorem law_pure (L : Nat) (xs : Nat → Int32) (hL : L ≤ 3072) (q_x_current q_x_spare : Nat) (hne : q_x_current ≠ q_x_spare) : pf_La_law_23 fu_ L xs (16 : Int32) (8 : Int32) (8 : Int32) (32 : Int32) (4 : Int32) (0 : Int32) (fun _ => 0) q_x_current q_x_spare 513 0 q_x_current q_x_spare (fun _ => 0) (fun _ => 0) (fun _ => 0) (fun _ => 0) (fun _ => 0) (fun _ => 0) (0 : Int32) (-1 : Int32) (0 : Int64) (fun _ => 0) (0 : Int32) (fun _ => 0) (fun _ => 0) (0 : Int32) (0 : Int32) (fun _ => 0) (fun _ => 0) (fun _ => 0) (fun _ => 0) (0 : Int32) (fun _ => 0) (fun _ => 0) (0 : Int32) (fun _ => 0) (0 : Int32) (fun _ => 0) (0 : Int32) (0 : Int32) (0 : Int32) (0 : Int32) (-1 : Int32) (0 : Int32) (fun _ => 0) (fun _ => 0) (fun _ => 0) (fun _ => 0) (fun _ => 0) (fun _ => 0) (fun _ => 0) (fun _ => 0) (fun _ => 0) (fun _ => 0) (fun _ => 0) (fun _ => 0) (fun _ => 0) = some 1 :=
  lw_all fu_ L xs (fun _ => 0) q_x_current q_x_spare (by decide) hL hne 513 0 (by omega) (by omega) (Or.inl rfl) (Or.inl ⟨rfl, rfl, Or.inl ⟨rfl, rfl⟩⟩)
