/-! a trade comes; a trade is matched; groups are joined -/
theorem mo_I_add {sc sc2 : Nat → Int32} {mI mI2 : Nat → Nat → Int32} {N d S a b g : Nat} (h : mo_I sc mI N d S) (hN : N < 150) (ha : a < 16) (hb : b < 16) (hg : g < 8) (s1 : sc2 1 = sc 1 ∧ sc2 4 = sc 4 + 1 ∧ sc2 23 = sc 23)
    (h5 : mI2 5 = upd (mI 5) N (nI a)) (h6 : mI2 6 = upd (mI 6) N (nI b)) (h7 : mI2 7 = upd (mI 7) N (nI g)) (h15 : mI2 15 = upd (mI 15) N 0) (h21 : mI2 21 = mI 21) (h22 : mI2 22 = upd (mI 22) N (-1)) : mo_I sc2 mI2 (N + 1) d S := by
  obtain ⟨i1, i2, i3, i4, i5, i6, i7, fa, i8, i9⟩ := h
  obtain ⟨q1, q2, q3⟩ := s1
  refine ⟨by rw [q2, i1, nI_1], by omega, by rw [q1]; exact i3, i4, by rw [q3]; exact i5, fun t ht => ?_, fun t ht => ?_, mo_up fa N 0, ⟨fun t ht => ?_, fun t ht h9 => by rw [h21]; exact i8.2 t (by omega) h9⟩, ?_⟩
  · rw [h5, h6, h7]
    by_cases e : t = N
    · subst e
      simp only [upd, if_true]
      exact ⟨⟨a, ha, rfl⟩, ⟨b, hb, rfl⟩, ⟨g, hg, rfl⟩⟩
    · simp only [upd, if_neg e]
      exact i6 t (by omega)
  · rw [h15, h22]
    by_cases e : t = N
    · subst e
      simp only [upd, if_true]
      exact Or.inl ⟨trivial, by decide⟩
    · simp only [upd, if_neg e]
      exact i7 t (by omega)
  · rw [h15, h21]
    by_cases e : t = N
    · subst e
      simp only [upd, if_true, mo_up]
      refine ⟨?_, by omega, fun z => absurd z (by decide)⟩
      rw [i8.2 t (Nat.le_refl _) hN]
      decide +kernel
    · simp only [upd, if_neg e, mo_up]
      exact i8.1 t (by omega)
  · simp only [mo_sm]
    rw [h15]
    refine Nat.le_trans i9 (Nat.le_trans (Nat.le_of_eq (mo_sm_congr N (fun t ht => ?_))) (Nat.le_trans (Nat.le_add_right _ _) (Nat.le_add_right _ _)))
    simp [upd, mo_up, show ¬ t = N by omega]
theorem mo_J_pend {sc sc2 : Nat → Int32} {mI mI2 : Nat → Nat → Int32} {N d S j : Nat} (h : mo_I sc mI N d S) (hj : j < N) (ho : mI 15 j = 0) (h1 : sc2 1 = sc 1 ∧ sc2 4 = sc 4 ∧ sc2 23 = sc 23) (h2 : mI2 5 = mI 5 ∧ mI2 6 = mI 6 ∧ mI2 7 = mI 7 ∧ mI2 15 = upd (mI 15) j 1 ∧ mI2 21 = mI 21 ∧ mI2 22 = upd (mI 22) j (nI j)) : mo_I sc2 mI2 N d S := by
  obtain ⟨a1, a2, a3⟩ := h1
  obtain ⟨b1, b2, b3, b4, b5, b6⟩ := h2
  obtain ⟨i1, i2, i3, i4, i5, i6, i7, fa, i8, i9⟩ := h
  have ne2 : ¬ mI 15 j = 2 := fun q => by rw [ho] at q; exact absurd q (by decide)
  have ne4 : ¬ mI 15 j = 4 := fun q => by rw [ho] at q; exact absurd q (by decide)
  refine ⟨by rw [a2]; exact i1, i2, by rw [a1]; exact i3, i4, by rw [a3]; exact i5, by unfold mo_T at i6 ⊢; rw [b1, b2, b3]; exact i6, ?_, fa, ?_, ?_⟩
  · intro t ht
    rw [b4, b6]
    by_cases e : t = j
    · subst e
      exact Or.inr ⟨by simp [upd], t, by omega, by simp [upd]⟩
    · simp only [upd, if_neg e]
      exact i7 t ht
  · refine ⟨fun t ht => ?_, fun t ht h9 => by rw [b5]; exact i8.2 t ht h9⟩
    rw [b4, b5]
    obtain ⟨q1, q2, q3⟩ := i8.1 t ht
    refine ⟨q1, q2, fun q => ?_⟩
    by_cases e : t = j
    · subst e
      exact absurd (q3 q) ne4
    · simp only [upd, if_neg e]
      exact q3 q
  · rw [b4]
    refine Nat.le_trans i9 (Nat.le_of_eq (mo_sm_congr N (fun t ht => ?_)))
    by_cases e : t = j
    · subst e
      simp [upd, ne2]
    · simp [upd, e]
theorem mo_I_grp {sc : Nat → Int32} {mI : Nat → Nat → Int32} {N d S i : Nat} {x : Int32} (h : mo_I sc mI N d S) (hx : x = mI 22 i ∨ (mI 15 i = 1 ∧ ∃ g : Nat, g < 150 ∧ x = nI g)) : mo_I sc (mo_up mI 22 (upd (mI 22) i x)) N d S := by
  obtain ⟨i1, i2, i3, i4, i5, i6, i7, fa, i8, i9⟩ := h
  refine ⟨i1, i2, i3, i4, i5, i6, fun t ht => ?_, fa, i8, i9⟩
  show (upd (mI 22) i x t = -1 ∧ ¬ mI 15 t = 1) ∨ (mI 15 t = 1 ∧ ∃ g : Nat, g < 150 ∧ upd (mI 22) i x t = nI g)
  by_cases e : t = i
  · subst e
    simp only [upd, if_true]
    rcases hx with z | z
    · rw [z]
      exact i7 t ht
    · exact Or.inr z
  · simp only [upd, if_neg e]
    exact i7 t ht
theorem mo_pend {sc : Nat → Int32} {mI : Nat → Nat → Int32} {N d S j : Nat} (h : mo_I sc mI N d S) (hj : j < N) (hp : mI 15 j = 1) : ∃ g : Nat, g < 150 ∧ mI 22 j = nI g := by
  rcases h.2.2.2.2.2.2.1 j hj with z | z
  · exact absurd hp z.2
  · exact z.2
/-- what a matched group is, is that of a pending trade -/
theorem mo_grp_p {sc : Nat → Int32} {mI : Nat → Nat → Int32} {N d S j g : Nat} (h : mo_I sc mI N d S) (hj : j < N) (hg : g < 150) (hb : mI 22 j = nI g) : mI 15 j = 1 := by
  rcases h.2.2.2.2.2.2.1 j hj with z | z
  · exact absurd (hb.symm.trans z.1) (mo_nI_m1 hg)
  · exact z.1
theorem mo_party {x : Int32} (c : ¬ hs_b (0 ≤ x.toInt64 ∧ x.toInt64 ≤ 15) = 0) : ∃ a : Nat, a < 16 ∧ x = nI a := by
  have h := hs_b_ne c
  simp only [Int64.le_iff_toInt_le, hs_64] at h
  have e0 : Int64.toInt 0 = 0 := by decide
  have e1 : Int64.toInt 15 = 15 := by decide
  rw [e0, e1] at h
  obtain ⟨a, ha, rfl⟩ := nI_of (x := x) (by rw [Int32.lt_iff_toInt_lt, Int32.toInt_zero]; omega)
  rw [nI_toInt ha] at h
  exact ⟨a, by omega, rfl⟩
theorem mo_upto {x z : Int32} {d : Nat} (hz : z = nI d) (hd : d ≤ 20000) (c : ¬ hs_b (0 ≤ x.toInt64 ∧ x.toInt64 ≤ z.toInt64) = 0) : ∃ a : Nat, a ≤ 20000 ∧ x = nI a := by
  have h := hs_b_ne c
  subst hz
  simp only [Int64.le_iff_toInt_le, hs_64] at h
  have e0 : Int64.toInt 0 = 0 := by decide
  rw [e0, nI_toInt (by omega)] at h
  obtain ⟨a, ha, rfl⟩ := nI_of (x := x) (by rw [Int32.lt_iff_toInt_lt, Int32.toInt_zero]; omega)
  rw [nI_toInt ha] at h
  exact ⟨a, by omega, rfl⟩
theorem mo_150 {N : Nat} {x : Int32} (h : x = nI N) (hN : N ≤ 150) : (x = 150) = (N = 150) := by
  subst h
  rw [show (150 : Int32) = nI 150 by decide +kernel]
  refine propext ⟨fun z => ?_, fun z => by rw [z]⟩
  have h1 := congrArg Int32.toInt z
  rw [nI_toInt (by omega), nI_toInt (by omega)] at h1
  omega
