/-! the day passes -/
theorem mo_I_day {sc : Nat → Int32} {mI : Nat → Nat → Int32} {N d S : Nat} (h : mo_I sc mI N d S) (hd : d < 20000) : mo_I (mo_up sc 1 (sc 1 + 1)) mI N (d + 1) S := by
  obtain ⟨i1, i2, i3, i4, i5, i6⟩ := h
  exact ⟨i1, i2, by rw [mo_up_eq, i3, nI_1], by omega, i5, i6⟩
theorem mo_f10 {f : Nat → Int32} {fa : Nat → Nat} {i : Nat} (hcl : (nI i).toNatClampNeg = i) (hf : f i = nI (fa i)) (hle : fa i ≤ 10) : upd f (nI i).toNatClampNeg (f (nI i).toNatClampNeg + 1) (nI i).toNatClampNeg = 10 ↔ fa i + 1 = 10 := by
  rw [hcl, hf, nI_1]
  simp only [upd, if_true]
  constructor
  · intro h
    have h1 := congrArg Int32.toInt h
    rw [nI_toInt (by omega)] at h1
    have h2 : Int32.toInt 10 = 10 := by decide
    rw [h2] at h1
    omega
  · intro h
    rw [h]
    decide +kernel
theorem mo_Fl_end {sc : Nat → Int32} {mI mI2 : Nat → Nat → Int32} {N d S : Nat} {x : Int32} {fa fa2 : Nat → Nat} (hB : mo_B sc mI N d S) (h : mo_Fl mI x N fa N mI2 fa2) (hS : S ≤ mo_sm fa (mI 15) N + mo_cn (fun t => decide (mI 15 t = 1 ∧ mI 16 t ≤ x)) N) : mo_I sc mI2 N d S := by
  obtain ⟨a, b, c, -, e⟩ := h
  obtain ⟨i1, i2, i3, i4, i5, i6⟩ := hB
  refine ⟨i1, i2, i3, i4, i5, ?_, a, fa2, b, by omega⟩
  unfold mo_T at i6 ⊢
  rw [e 5 (by decide) (by decide) (by decide), e 6 (by decide) (by decide) (by decide), e 7 (by decide) (by decide) (by decide)]
  exact i6
/-- behind settleParts: what the fails start from -/
theorem mo_day_pre {sc1 sc2 : Nat → Int32} {mI1 mI2 : Nat → Nat → Int32} {N d S1 S2 : Nat} {rw : List Nat} (h : mo_I sc1 mI1 N d S1) (hnd : rw.Nodup) (hld : ∀ t ∈ rw, mo_ld sc1 mI1 N t) (hS : S2 ≤ S1 + rw.length) (hs : ∀ j, j ≠ 23 → j ≠ 28 → sc2 j = sc1 j) (hm : ∀ k, k ≠ 8 → k ≠ 9 → k ≠ 29 → (k < 24 ∨ 27 < k) → mI2 k = mI1 k) :
    mo_Gr mI2 N ∧ ∃ fa, mo_Fa mI2 N fa ∧ S2 ≤ mo_sm fa (mI2 15) N + mo_cn (fun t => decide (mI2 15 t = 1 ∧ mI2 16 t ≤ sc2 1)) N := by
  obtain ⟨-, -, -, -, -, -, i7, fa, i8, i9⟩ := h
  have e15 := hm 15 (by decide) (by decide) (by decide) (by decide)
  have e16 := hm 16 (by decide) (by decide) (by decide) (by decide)
  have e21 := hm 21 (by decide) (by decide) (by decide) (by decide)
  have e22 := hm 22 (by decide) (by decide) (by decide) (by decide)
  have e1 := hs 1 (by decide) (by decide)
  refine ⟨by unfold mo_Gr at i7 ⊢; rw [e15, e22]; exact i7, fa, by unfold mo_Fa at i8 ⊢; rw [e15, e21]; exact i8, ?_⟩
  rw [e15, e16, e1]
  have h1 := mo_cn_ge (fun t => decide (mI1 15 t = 1 ∧ mI1 16 t ≤ sc1 1)) N rw hnd (fun t ht => by
    obtain ⟨z1, ⟨g, z2, z3⟩, -, z4⟩ := hld t ht
    refine ⟨z1, decide_eq_true ⟨?_, z4⟩⟩
    rcases i7 t z1 with y | y
    · exact absurd (z3.symm.trans y.1) (mo_nI_m1 z2)
    · exact y.1)
  omega
/-- the day that goTo comes to -/
def mo_go (d : Nat) (dy : Int32) : Nat := if (d : Int) + 1 ≤ dy.toInt ∧ dy.toInt ≤ d + 400 ∧ dy.toInt ≤ 20000 then dy.toInt.toNat else d
theorem mo_go_in {d : Nat} {x dy : Int32} (h : x = nI d) (hd : d ≤ 20000) : ((x + 1).toInt64 ≤ dy.toInt64 ∧ dy.toInt64 ≤ (x + 400).toInt64) ↔ ((d : Int) + 1 ≤ dy.toInt ∧ dy.toInt ≤ d + 400) := by
  subst h
  rw [nI_1, show (400 : Int32) = nI 400 by decide +kernel, nI_add, Int64.le_iff_toInt_le, Int64.le_iff_toInt_le, hs_64, hs_64, hs_64, nI_toInt (by omega), nI_toInt (by omega)]
  omega
theorem mo_go_20 {dy : Int32} : dy > 20000 ↔ 20000 < dy.toInt := by
  rw [gt_iff_lt, Int32.lt_iff_toInt_lt, show Int32.toInt 20000 = 20000 by decide]
theorem mo_go_n1 {d : Nat} {x dy : Int32} (h : x = nI d) (hd : d ≤ 20000) (c : hs_b ((x + 1).toInt64 ≤ dy.toInt64 ∧ dy.toInt64 ≤ (x + 400).toInt64) = 0) : mo_go d dy = d := by
  have h1 := mt (mo_go_in h hd).mpr (hs_b_eq c)
  unfold mo_go
  rw [if_neg (fun z => h1 ⟨z.1, z.2.1⟩)]
theorem mo_go_n2 {d : Nat} {dy : Int32} (c : dy > 20000) : mo_go d dy = d := by
  have h1 := mo_go_20.mp c
  unfold mo_go
  rw [if_neg (by omega)]
theorem mo_go_y {d : Nat} {x dy : Int32} (h : x = nI d) (hd : d ≤ 20000) (c : ¬ hs_b ((x + 1).toInt64 ≤ dy.toInt64 ∧ dy.toInt64 ≤ (x + 400).toInt64) = 0) (c2 : ¬ dy > 20000) : ∃ D : Nat, D ≤ 20000 ∧ d ≤ D ∧ dy = nI D ∧ mo_go d dy = D := by
  have h1 := (mo_go_in h hd).mp (hs_b_ne c)
  have h2 := mt mo_go_20.mpr c2
  obtain ⟨D, hD, rfl⟩ := nI_of (x := dy) (by rw [Int32.lt_iff_toInt_lt, Int32.toInt_zero]; omega)
  rw [nI_toInt hD] at h1 h2
  refine ⟨D, by omega, by omega, rfl, ?_⟩
  unfold mo_go
  rw [nI_toInt hD, if_pos (by omega)]
  omega
