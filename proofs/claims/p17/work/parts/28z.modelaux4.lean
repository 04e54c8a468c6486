/-! settling whole groups in the reference -/
def mo_pd (st : Nat → Int32) : Nat → Nat
  | 0 => 0
  | t + 1 => mo_pd st t + (if st t = 1 then 1 else 0)
theorem mo_pd_out {st : Nat → Int32} {j : Nat} {x : Int32} : ∀ n : Nat, n ≤ j → mo_pd (upd st j x) n = mo_pd st n := by
  intro n
  induction n with
  | zero => intro _; rfl
  | succ n ih =>
    intro h
    simp only [mo_pd]
    rw [ih (by omega)]
    simp [upd, show n ≠ j by omega]
theorem mo_pd_upd {st : Nat → Int32} {j : Nat} {x : Int32} (h1 : st j = 1) (hx : ¬ x = 1) : ∀ n : Nat, j < n → mo_pd (upd st j x) n + 1 = mo_pd st n := by
  intro n
  induction n with
  | zero => intro h; omega
  | succ n ih =>
    intro h
    simp only [mo_pd]
    by_cases e : j = n
    · subst e
      rw [mo_pd_out j (Nat.le_refl _)]
      simp [upd, h1, hx]
    · have := ih (by omega)
      simp only [upd, if_neg (show ¬ n = j from fun q => e q.symm)]
      omega
theorem mo_sm_out {fa : Nat → Nat} {st : Nat → Int32} {j : Nat} {x : Int32} : ∀ n : Nat, n ≤ j → mo_sm fa (upd st j x) n = mo_sm fa st n := by
  intro n
  induction n with
  | zero => intro _; rfl
  | succ n ih =>
    intro h
    simp only [mo_sm]
    rw [ih (by omega)]
    simp [upd, show n ≠ j by omega]
theorem mo_sm_set {fa : Nat → Nat} {st : Nat → Int32} {j : Nat} (h1 : st j = 1) : ∀ n : Nat, j < n → mo_sm fa (upd st j 2) n = mo_sm fa st n + 1 := by
  intro n
  induction n with
  | zero => intro h; omega
  | succ n ih =>
    intro h
    simp only [mo_sm]
    by_cases e : j = n
    · subst e
      rw [mo_sm_out j (Nat.le_refl _)]
      have : ¬ st j = 2 := by rw [h1]; decide
      simp [upd, this]
    · have := ih (by omega)
      simp only [upd, if_neg (show ¬ n = j from fun q => e q.symm)]
      omega
/-- a pending trade is settled -/
theorem mo_J_set {sc sc2 : Nat → Int32} {mI mI2 : Nat → Nat → Int32} {N d S j : Nat} (h : mo_I sc mI N d S) (hj : j < N) (hp : mI 15 j = 1) (h1 : sc2 1 = sc 1 ∧ sc2 4 = sc 4 ∧ sc2 23 = sc 23 + 1) (h2 : mI2 5 = mI 5 ∧ mI2 6 = mI 6 ∧ mI2 7 = mI 7 ∧ mI2 15 = upd (mI 15) j 2 ∧ mI2 21 = mI 21 ∧ mI2 22 = upd (mI 22) j (-1)) : mo_I sc2 mI2 N d (S + 1) := by
  obtain ⟨a1, a2, a3⟩ := h1
  obtain ⟨b1, b2, b3, b4, b5, b6⟩ := h2
  obtain ⟨i1, i2, i3, i4, i5, i6, i7, fa, i8, i9⟩ := h
  refine ⟨by rw [a2]; exact i1, i2, by rw [a1]; exact i3, i4, by rw [a3, i5, nI_1], by unfold mo_T at i6 ⊢; rw [b1, b2, b3]; exact i6, ?_, fa, ?_, ?_⟩
  · intro t ht
    rw [b4, b6]
    by_cases e : t = j
    · subst e
      refine Or.inl ⟨by simp [upd], ?_⟩
      simp only [upd, if_true]
      decide
    · simp only [upd, if_neg e]
      exact i7 t ht
  · refine ⟨fun t ht => ?_, fun t ht h9 => by rw [b5]; exact i8.2 t ht h9⟩
    rw [b4, b5]
    obtain ⟨q1, q2, q3⟩ := i8.1 t ht
    refine ⟨q1, q2, fun q => ?_⟩
    by_cases e : t = j
    · subst e
      have := q3 q
      rw [hp] at this
      exact absurd this (by decide)
    · simp only [upd, if_neg e]
      exact q3 q
  · rw [b4, mo_sm_set hp N hj]
    omega
/-- what settling leaves as it is -/
def mo_K (sc sc2 : Nat → Int32) (mI mI2 : Nat → Nat → Int32) : Prop := (∀ j, j ≠ 23 → sc2 j = sc j) ∧ ∀ k, k ≠ 8 → k ≠ 9 → k ≠ 15 → k ≠ 22 → (k < 24 ∨ 27 < k) → mI2 k = mI k
def mo_K2 (sc sc2 : Nat → Int32) (mI mI2 : Nat → Nat → Int32) : Prop := (∀ j, j ≠ 23 → j ≠ 28 → sc2 j = sc j) ∧ ∀ k, k ≠ 8 → k ≠ 9 → k ≠ 15 → k ≠ 22 → k ≠ 29 → (k < 24 ∨ 27 < k) → mI2 k = mI k
theorem mo_K.rf {sc : Nat → Int32} {mI : Nat → Nat → Int32} : mo_K sc sc mI mI := ⟨fun _ _ => rfl, fun _ _ _ _ _ _ => rfl⟩
theorem mo_K.tr {sc sc1 sc2 : Nat → Int32} {mI mI1 mI2 : Nat → Nat → Int32} (h : mo_K sc sc1 mI mI1) (h2 : mo_K sc1 sc2 mI1 mI2) : mo_K sc sc2 mI mI2 := ⟨fun j hj => (h2.1 j hj).trans (h.1 j hj), fun k a b c d e => (h2.2 k a b c d e).trans (h.2 k a b c d e)⟩
theorem mo_K2.tr {sc sc1 sc2 : Nat → Int32} {mI mI1 mI2 : Nat → Nat → Int32} (h : mo_K2 sc sc1 mI mI1) (h2 : mo_K2 sc1 sc2 mI1 mI2) : mo_K2 sc sc2 mI mI2 := ⟨fun j hj h28 => (h2.1 j hj h28).trans (h.1 j hj h28), fun k a b c d f e => (h2.2 k a b c d f e).trans (h.2 k a b c d f e)⟩
theorem mo_K.two {sc sc1 : Nat → Int32} {mI mI1 : Nat → Nat → Int32} (h : mo_K sc sc1 mI mI1) : mo_K2 sc sc1 mI mI1 := ⟨fun j hj _ => h.1 j hj, fun k a b c d _ e => h.2 k a b c d e⟩
theorem mo_K2.lay {sc : Nat → Int32} {mI : Nat → Nat → Int32} {x : Int32} {f : Nat → Int32} : mo_K2 sc (mo_up sc 28 x) mI (mo_up mI 29 f) := ⟨fun j _ h => by simp [mo_up, h], fun k _ _ _ _ h _ => by simp [mo_up, h]⟩
/-- two of the row are of two groups -/
theorem mo_ld_apart {sc : Nat → Int32} {mI : Nat → Nat → Int32} {N t u : Nat} (h1 : mo_ld sc mI N t) (h2 : mo_ld sc mI N u) (hne : t ≠ u) : ¬ mI 22 t = mI 22 u := by
  intro e
  rcases Nat.lt_or_gt_of_ne hne with q | q
  · exact h2.2.2.1 t q e
  · exact h1.2.2.1 u q e.symm
/-- inside the inner loop: i trades have been looked at, those of the group g are settled; t0 is one of them -/
def mo_In (sc1 : Nat → Int32) (mI1 : Nat → Nat → Int32) (N d g t0 i : Nat) (sc2 : Nat → Int32) (mI2 : Nat → Nat → Int32) (S : Nat) : Prop :=
  mo_I sc2 mI2 N d S ∧ mo_K sc1 sc2 mI1 mI2 ∧ (∀ t, ¬ mI1 22 t = nI g → mI2 22 t = mI1 22 t) ∧ (∀ t, i ≤ t → mI2 22 t = mI1 22 t) ∧ mo_pd (mI2 15) N + (if t0 < i then 1 else 0) ≤ mo_pd (mI1 15) N
theorem mo_In_skip {sc1 sc2 : Nat → Int32} {mI1 mI2 : Nat → Nat → Int32} {N d g t0 i S : Nat} (h : mo_In sc1 mI1 N d g t0 i sc2 mI2 S) (h0 : mI1 22 t0 = nI g) (hn : ¬ mI2 22 i = nI g) : mo_In sc1 mI1 N d g t0 (i + 1) sc2 mI2 S := by
  obtain ⟨a, b, c, d1, e⟩ := h
  refine ⟨a, b, c, fun t ht => d1 t (by omega), ?_⟩
  have hne : t0 ≠ i := fun q => by
    subst q
    exact hn ((d1 t0 (Nat.le_refl _)).trans h0)
  by_cases q : t0 < i
  · rw [if_pos q] at e
    rw [if_pos (by omega)]
    exact e
  · rw [if_neg q] at e
    rw [if_neg (by omega)]
    exact e
theorem mo_In_set {sc1 sc2 sc3 : Nat → Int32} {mI1 mI2 mI3 : Nat → Nat → Int32} {N d g t0 i S : Nat} (h : mo_In sc1 mI1 N d g t0 i sc2 mI2 S) (hi : i < N) (hy : mI2 22 i = nI g) (hp : mI2 15 i = 1)
    (hs : sc3 = mo_up sc2 23 (sc2 23 + 1)) (hk : ∀ k, k ≠ 8 → k ≠ 9 → (k < 24 ∨ 27 < k) → mI3 k = mI2 k) : mo_In sc1 mI1 N d g t0 (i + 1) sc3 (mo_up (mo_up mI3 15 (upd (mI3 15) i 2)) 22 (upd (mI3 22) i (-1))) (S + 1) := by
  obtain ⟨a, b, c, d1, e⟩ := h
  subst hs
  have k15 := hk 15 (by decide) (by decide) (by decide)
  have k22 := hk 22 (by decide) (by decide) (by decide)
  refine ⟨mo_J_set a hi hp ⟨by simp [mo_up], by simp [mo_up], by simp [mo_up]⟩ ⟨?_, ?_, ?_, ?_, ?_, ?_⟩, b.tr ⟨fun j hj => by simp [mo_up, hj], fun k z1 z2 z3 z4 z5 => ?_⟩, fun t ht => ?_, fun t ht => ?_, ?_⟩
  · simp [mo_up, hk 5]
  · simp [mo_up, hk 6]
  · simp [mo_up, hk 7]
  · simp [mo_up, k15]
  · simp [mo_up, hk 21]
  · simp [mo_up, k22]
  · simp [mo_up, z3, z4, hk k z1 z2 z5]
  · have hti : t ≠ i := fun q => by
      subst q
      exact ht ((d1 t (Nat.le_refl _)).symm.trans hy)
    simp [mo_up, upd, hti, k22]
    exact c t ht
  · simp [mo_up, upd, show t ≠ i by omega, k22]
    exact d1 t (by omega)
  · have h9 : mo_pd (upd (mI2 15) i 2) N + 1 = mo_pd (mI2 15) N := mo_pd_upd hp (by decide) N hi
    have h8 : (mo_up (mo_up mI3 15 (upd (mI3 15) i 2)) 22 (upd (mI3 22) i (-1))) 15 = upd (mI2 15) i 2 := by simp [mo_up, k15]
    rw [h8]
    by_cases q : t0 < i + 1
    · rw [if_pos q]
      by_cases q2 : t0 < i
      · rw [if_pos q2] at e
        omega
      · rw [if_neg q2] at e
        omega
    · rw [if_neg q]
      rw [if_neg (by omega)] at e
      omega
/-- inside the middle loop: k of the row have been gone through -/
def mo_Mi (sc0 : Nat → Int32) (mI0 : Nat → Nat → Int32) (N d : Nat) (rw : List Nat) (k : Nat) (mr : Int32) (sc2 : Nat → Int32) (mI2 : Nat → Nat → Int32) (S : Nat) : Prop :=
  mo_I sc2 mI2 N d S ∧ mo_K sc0 sc2 mI0 mI2 ∧ (∀ k1 t, k ≤ k1 → rw[k1]? = some t → mI2 22 t = mI0 22 t) ∧ mo_pd (mI2 15) N ≤ mo_pd (mI0 15) N ∧ (mr = 0 ∨ mr = 1) ∧ (mr = 1 → mo_pd (mI2 15) N < mo_pd (mI0 15) N)
theorem mo_Mi_in {sc0 sc1 sc2 : Nat → Int32} {mI0 mI1 mI2 : Nat → Nat → Int32} {N d g t0 k S S2 : Nat} {rw : List Nat} {mr : Int32} (hr : ∀ t ∈ rw, mo_ld sc0 mI0 N t) (hn : rw.Nodup) (h : mo_Mi sc0 mI0 N d rw k mr sc1 mI1 S) (hk : rw[k]? = some t0) (hg : mI1 22 t0 = nI g) (hi : mo_In sc1 mI1 N d g t0 N sc2 mI2 S2) : mo_Mi sc0 mI0 N d rw (k + 1) 1 sc2 mI2 S2 := by
  obtain ⟨a, b, c, p1, p2, p3⟩ := h
  obtain ⟨a', b', c', d', e'⟩ := hi
  have ht0 : t0 ∈ rw := List.mem_of_getElem? hk
  have hlt : t0 < N := (hr t0 ht0).1
  rw [if_pos hlt] at e'
  refine ⟨a', b.tr b', fun k1 t hk1 hq => ?_, by omega, Or.inr rfl, fun _ => by omega⟩
  have h1 := c k1 t (by omega) hq
  have hne : t ≠ t0 := fun q => by
    subst q
    have hl1 := (List.getElem?_eq_some_iff.mp hq).1
    have := (List.getElem?_inj hl1 hn).mp (hq.trans hk.symm)
    omega
  rw [c' t (fun q => mo_ld_apart (hr t (List.mem_of_getElem? hq)) (hr t0 ht0) hne (by rw [← h1, q, ← hg]; exact (c k t0 (Nat.le_refl _) hk)))]
  exact h1
