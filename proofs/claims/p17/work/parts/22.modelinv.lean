/-! what holds of the reference's state between calls: N trades, day d, S rows settled -/
def mo_T (mI : Nat → Nat → Int32) (N : Nat) : Prop := ∀ t, t < N → (∃ a : Nat, a < 16 ∧ mI 5 t = nI a) ∧ (∃ a : Nat, a < 16 ∧ mI 6 t = nI a) ∧ (∃ a : Nat, a < 8 ∧ mI 7 t = nI a)
def mo_Gr (mI : Nat → Nat → Int32) (N : Nat) : Prop := ∀ t, t < N → (mI 22 t = -1 ∧ ¬ mI 15 t = 1) ∨ (mI 15 t = 1 ∧ ∃ g : Nat, g < 150 ∧ mI 22 t = nI g)
def mo_Fa (mI : Nat → Nat → Int32) (N : Nat) (fa : Nat → Nat) : Prop := (∀ t, t < N → mI 21 t = nI (fa t) ∧ fa t ≤ 10 ∧ (fa t = 10 → mI 15 t = 4)) ∧ ∀ t, N ≤ t → t < 150 → mI 21 t = 0
def mo_sm (fa : Nat → Nat) (st : Nat → Int32) : Nat → Nat
  | 0 => 0
  | t + 1 => mo_sm fa st t + fa t + (if st t = 2 then 1 else 0)
/-- the part of it that holds at every moment -/
def mo_B (sc : Nat → Int32) (mI : Nat → Nat → Int32) (N d S : Nat) : Prop := sc 4 = nI N ∧ N ≤ 150 ∧ sc 1 = nI d ∧ d ≤ 20000 ∧ sc 23 = nI S ∧ mo_T mI N
def mo_I (sc : Nat → Int32) (mI : Nat → Nat → Int32) (N d S : Nat) : Prop := sc 4 = nI N ∧ N ≤ 150 ∧ sc 1 = nI d ∧ d ≤ 20000 ∧ sc 23 = nI S ∧ mo_T mI N ∧ mo_Gr mI N ∧ ∃ fa : Nat → Nat, mo_Fa mI N fa ∧ S ≤ mo_sm fa (mI 15) N
def mo_J (d : Nat) (sc : Nat → Int32) (mI : Nat → Nat → Int32) : Prop := ∃ N S : Nat, mo_I sc mI N d S
theorem mo_sm_le {fa : Nat → Nat} {mI : Nat → Nat → Int32} {N : Nat} (h : mo_Fa mI N fa) : ∀ t, t ≤ N → mo_sm fa (mI 15) t ≤ 10 * t := by
  intro t
  induction t with
  | zero => intro _; exact Nat.le_refl _
  | succ t ih =>
    intro ht
    have h1 := ih (by omega)
    obtain ⟨-, h2, h3⟩ := h.1 t (by omega)
    simp only [mo_sm]
    split
    · rename_i h4
      have : fa t ≠ 10 := fun q => by
        have := h3 q
        rw [h4] at this
        exact absurd this (by decide)
      omega
    · omega
theorem mo_sm_congr {fa fb : Nat → Nat} {st su : Nat → Int32} : ∀ n : Nat, (∀ t, t < n → fa t + (if st t = 2 then 1 else 0) = fb t + (if su t = 2 then 1 else 0)) → mo_sm fa st n = mo_sm fb su n := by
  intro n
  induction n with
  | zero => intro _; rfl
  | succ n ih =>
    intro h
    have h1 := ih (fun t ht => h t (by omega))
    have h2 := h n (by omega)
    simp only [mo_sm]
    omega
theorem mo_I.rows {sc : Nat → Int32} {mI : Nat → Nat → Int32} {N d S : Nat} (h : mo_I sc mI N d S) : S ≤ 1500 := by
  obtain ⟨-, h1, -, -, -, -, -, fa, h2, h3⟩ := h
  have := mo_sm_le h2 N (Nat.le_refl _)
  omega
theorem mo_tr {sc : Nat → Int32} {mI : Nat → Nat → Int32} {N d S : Nat} {t : Int32} (h : mo_I sc mI N d S) (hc : ¬ hs_b (0 ≤ t.toInt64 ∧ t.toInt64 ≤ (sc 4 - 1).toInt64) = 0) : ∃ j : Nat, j < N ∧ t = nI j := by
  have g := hs_b_ne hc
  obtain ⟨h1, h2, -⟩ := h
  rw [h1] at g
  simp only [Int64.le_iff_toInt_le, hs_64] at g
  have e0 : Int64.toInt 0 = 0 := by decide
  rw [e0] at g
  have hn : (nI N - 1).toInt = (N : Int) - 1 := by
    have h9 := pk_sub_toInt (a := N) (b := 1) (by omega) (by omega)
    have e1 : nI 1 = 1 := by decide +kernel
    rw [e1] at h9
    exact h9
  rw [hn] at g
  obtain ⟨j, hj, e⟩ := nI_of (x := t) (by rw [Int32.lt_iff_toInt_lt, Int32.toInt_zero]; omega)
  subst e
  rw [nI_toInt hj] at g
  exact ⟨j, by omega, rfl⟩
theorem mo_J_fr {sc sc2 : Nat → Int32} {mI mI2 : Nat → Nat → Int32} {N d S : Nat} (h : mo_I sc mI N d S) (h1 : sc2 1 = sc 1 ∧ sc2 4 = sc 4 ∧ sc2 23 = sc 23) (h2 : mI2 5 = mI 5 ∧ mI2 6 = mI 6 ∧ mI2 7 = mI 7 ∧ mI2 15 = mI 15 ∧ mI2 21 = mI 21 ∧ mI2 22 = mI 22) : mo_I sc2 mI2 N d S := by
  obtain ⟨a1, a2, a3⟩ := h1
  obtain ⟨b1, b2, b3, b4, b5, b6⟩ := h2
  unfold mo_I mo_T mo_Gr mo_Fa at h ⊢
  rw [a1, a2, a3, b1, b2, b3, b4, b5, b6]
  exact h
/-- a trade that is open ends otherwise than settled -/
theorem mo_J_end {sc sc2 : Nat → Int32} {mI mI2 : Nat → Nat → Int32} {N d S j : Nat} {x : Int32} (h : mo_I sc mI N d S) (hj : j < N) (ho : ¬ (1 : Int32) < mI 15 j) (hx : x = 3) (h1 : sc2 1 = sc 1 ∧ sc2 4 = sc 4 ∧ sc2 23 = sc 23) (h2 : mI2 5 = mI 5 ∧ mI2 6 = mI 6 ∧ mI2 7 = mI 7 ∧ mI2 15 = upd (mI 15) j x ∧ mI2 21 = mI 21 ∧ mI2 22 = upd (mI 22) j (-1)) : mo_I sc2 mI2 N d S := by
  obtain ⟨a1, a2, a3⟩ := h1
  obtain ⟨b1, b2, b3, b4, b5, b6⟩ := h2
  obtain ⟨i1, i2, i3, i4, i5, i6, i7, fa, i8, i9⟩ := h
  subst hx
  have ne2 : ¬ mI 15 j = 2 := fun q => ho (by rw [q]; decide)
  have ne4 : ¬ mI 15 j = 4 := fun q => ho (by rw [q]; decide)
  refine ⟨by rw [a2]; exact i1, i2, by rw [a1]; exact i3, i4, by rw [a3]; exact i5, by unfold mo_T at i6 ⊢; rw [b1, b2, b3]; exact i6, ?_, fa, ?_, ?_⟩
  · intro t ht
    rw [b4, b6]
    by_cases e : t = j
    · subst e
      refine Or.inl ⟨by simp [upd], ?_⟩
      simp only [upd, if_true]
      decide
    · simp only [upd, if_neg e]
      exact i7 t ht
  · refine ⟨fun t ht => ?_, fun t ht h9 => by rw [b5]; exact i8.2 t ht h9⟩
    rw [b4, b5]
    obtain ⟨q1, q2, q3⟩ := i8.1 t ht
    refine ⟨q1, q2, fun q => ?_⟩
    by_cases e : t = j
    · subst e
      exact absurd (q3 q) ne4
    · simp only [upd, if_neg e]
      exact q3 q
  · rw [b4]
    refine Nat.le_trans i9 (Nat.le_of_eq (mo_sm_congr N (fun t ht => ?_)))
    by_cases e : t = j
    · subst e
      simp [upd, ne2]
    · simp [upd, e]
theorem mo_I.b {sc : Nat → Int32} {mI : Nat → Nat → Int32} {N d S : Nat} (h : mo_I sc mI N d S) : mo_B sc mI N d S := ⟨h.1, h.2.1, h.2.2.1, h.2.2.2.1, h.2.2.2.2.1, h.2.2.2.2.2.1⟩
theorem mo_B_fr {sc sc2 : Nat → Int32} {mI mI2 : Nat → Nat → Int32} {N d S : Nat} (h : mo_B sc mI N d S) (h1 : sc2 1 = sc 1 ∧ sc2 4 = sc 4 ∧ sc2 23 = sc 23) (h2 : mI2 5 = mI 5 ∧ mI2 6 = mI 6 ∧ mI2 7 = mI 7) : mo_B sc2 mI2 N d S := by
  obtain ⟨a1, a2, a3⟩ := h1
  obtain ⟨b1, b2, b3⟩ := h2
  unfold mo_B mo_T at h ⊢
  rw [a1, a2, a3, b1, b2, b3]
  exact h
section MOK
variable {p : Program} {l : Launch} {e : Env} {R : Room} {s : State} {m : MethodId} {args : Array Value} {below : List Frame} {meth : Method} {c : Code} {cells slots : Nat} {Q : State → Prop} {pc : Nat} {ls : Array Slot} {rest : List Value} {E : hs_E} {mo : Nat} {ar : Nat → Nat} {ix : Nat → Option Nat} {F : hs_G} {I : Option Value → (Nat → Int32) → (Nat → Nat → Int32) → (Nat → Nat → Int64) → Prop} {rm : Room}
/-- behind a call of a method of the reference: nothing is answered, an int, a long -/
theorem mo_k0 (h : ∀ v sc2 mI2 mL2, I v sc2 mI2 mL2 → v = none) (kk : ∀ (sc2 : Nat → Int32) (mI2 : Nat → Nat → Int32) (mL2 : Nat → Nat → Int64) (H1 : Heap) (locs1 : List Loc), I none sc2 mI2 mL2 → hs_W (eD E) vwCl (eH E) (mo_W E mo ar ix sc2 mI2 mL2 F) H1 → (∀ q ∈ locs1, (eH E).size ≤ q.base) → W p l e R s m args below meth c H1 locs1 cells slots Q (F0 m (pc + 3) ls rest)) : hs_Kr (eD E) vwCl (eH E) (mo_P E mo ar ix F I) rm p l e R s m args below meth c cells slots Q pc ls rest := by
  refine ⟨?_, ?_⟩
  · rintro v G1 k n H1 locs1 ⟨rfl, rfl, v', sc2, mI2, mL2, h1, rfl, hI⟩ - - h5 h6
    cases h1
    have hv := h _ _ _ _ hI
    subst hv
    exact kk sc2 mI2 mL2 H1 locs1 hI h5 h6
  · rintro C x G1 k n H1 locs1 ⟨-, -, v', sc2, mI2, mL2, h1, -⟩
    cases h1
theorem mo_k1 (h : ∀ v sc2 mI2 mL2, I v sc2 mI2 mL2 → ∃ x : Int32, v = some (.int x)) (kk : ∀ (x : Int32) (sc2 : Nat → Int32) (mI2 : Nat → Nat → Int32) (mL2 : Nat → Nat → Int64) (H1 : Heap) (locs1 : List Loc), I (some (.int x)) sc2 mI2 mL2 → hs_W (eD E) vwCl (eH E) (mo_W E mo ar ix sc2 mI2 mL2 F) H1 → (∀ q ∈ locs1, (eH E).size ≤ q.base) → W p l e R s m args below meth c H1 locs1 cells slots Q (F0 m (pc + 3) ls (.int x :: rest))) : hs_Kr (eD E) vwCl (eH E) (mo_P E mo ar ix F I) rm p l e R s m args below meth c cells slots Q pc ls rest := by
  refine ⟨?_, ?_⟩
  · rintro v G1 k n H1 locs1 ⟨rfl, rfl, v', sc2, mI2, mL2, h1, rfl, hI⟩ - - h5 h6
    cases h1
    obtain ⟨x, rfl⟩ := h _ _ _ _ hI
    exact kk x sc2 mI2 mL2 H1 locs1 hI h5 h6
  · rintro C x G1 k n H1 locs1 ⟨-, -, v', sc2, mI2, mL2, h1, -⟩
    cases h1
/-- behind a call that only answers an int of which J holds -/
theorem hs_ke {D : va_G} {cl : List vw_C} {H0 : Heap} {G : hs_G} {J : Int32 → Prop} (kk : ∀ (x : Int32) (H1 : Heap) (locs1 : List Loc), J x → hs_W D cl H0 G H1 → (∀ q ∈ locs1, H0.size ≤ q.base) → W p l e R s m args below meth c H1 locs1 cells slots Q (F0 m (pc + 3) ls (.int x :: rest))) : hs_Kr D cl H0 (fun r G1 k n => ∃ x : Int32, hs_pu (some (.int x)) G r G1 k n ∧ J x) rm p l e R s m args below meth c cells slots Q pc ls rest := by
  refine ⟨?_, ?_⟩
  · rintro v G1 k n H1 locs1 ⟨x, ⟨h1, rfl, rfl, rfl⟩, hJ⟩ - - h5 h6
    cases h1
    exact kk x H1 locs1 hJ h5 h6
  · rintro C x G1 k n H1 locs1 ⟨y, ⟨h1, -⟩, -⟩
    cases h1
end MOK
