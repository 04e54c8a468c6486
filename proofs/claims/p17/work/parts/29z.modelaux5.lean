/-! parts, and the day's fails -/
theorem mo_pos64 {x : Int32} (c : ¬ x ≤ 0) : ¬ x.toInt64 = 0 := by
  intro h
  have h1 := congrArg Int64.toInt h
  rw [hs_64] at h1
  apply c
  rw [Int32.le_iff_toInt_le, Int32.toInt_zero, h1]
  decide
theorem mo_ptA {q : Int32} (c : lg_cmp (q - 1).toInt64 0 > 0) : ¬ q = 0 := by
  intro h
  subst h
  exact absurd c (by decide)
theorem mo_ptB {q : Int32} {b : Int64} (c : ¬ lg_cmp b (q - 1).toInt64 ≥ 0) (c2 : lg_cmp b 0 > 0) : ¬ q = 0 := by
  intro h
  subst h
  have h1 := (lg_cmp_gt b 0).mp c2
  have h2 : b < (0 - 1 : Int32).toInt64 := by
    rw [← Int64.not_le]
    exact fun z => c ((lg_cmp_ge _ _).mpr z)
  have h3 : (0 - 1 : Int32).toInt64 = -1 := by decide
  rw [h3] at h2
  rw [Int64.lt_iff_toInt_lt] at h1 h2
  have e0 : Int64.toInt 0 = 0 := by decide
  have e1 : Int64.toInt (-1) = -1 := by decide
  omega
theorem mo_ne64 {x : Int32} (c : ¬ x = 0) : ¬ x.toInt64 = 0 := by
  intro h
  have h1 := congrArg Int64.toInt h
  rw [hs_64] at h1
  exact c (Int32.toInt_inj.mp (h1.trans (by decide)))
/-- how many below n have P -/
def mo_cn (P : Nat → Bool) : Nat → Nat
  | 0 => 0
  | t + 1 => mo_cn P t + (if P t = true then 1 else 0)
theorem mo_cn_ge (P : Nat → Bool) : ∀ (N : Nat) (l : List Nat), l.Nodup → (∀ t ∈ l, t < N ∧ P t = true) → l.length ≤ mo_cn P N := by
  intro N
  induction N with
  | zero =>
    intro l _ h
    cases l with
    | nil => exact Nat.le_refl _
    | cons a r => exact absurd (h a List.mem_cons_self).1 (Nat.not_lt_zero _)
  | succ N ih =>
    intro l hn h
    have h1 := ih (l.erase N) (hn.erase N) (fun t ht => by
      have h2 := h t (List.mem_of_mem_erase ht)
      have h3 : t ≠ N := fun q => by
        subst q
        exact (List.Nodup.not_mem_erase hn) ht
      exact ⟨by omega, h2.2⟩)
    have h2 := List.length_erase (a := N) (l := l)
    simp only [mo_cn]
    split at h2
    · rename_i hm
      rw [if_pos (h N hm).2]
      omega
    · omega
/-- the fails, i trades looked at: fa and st were the fails and states before -/
def mo_Fl (mI : Nat → Nat → Int32) (x : Int32) (N : Nat) (fa : Nat → Nat) (i : Nat) (mI2 : Nat → Nat → Int32) (fa2 : Nat → Nat) : Prop :=
  mo_Gr mI2 N ∧ mo_Fa mI2 N fa2 ∧ mo_sm fa2 (mI2 15) N = mo_sm fa (mI 15) N + mo_cn (fun t => decide (mI 15 t = 1 ∧ mI 16 t ≤ x)) i ∧ (∀ t, i ≤ t → mI2 15 t = mI 15 t ∧ fa2 t = fa t) ∧ (∀ k, k ≠ 15 → k ≠ 21 → k ≠ 22 → mI2 k = mI k)
theorem mo_Fl_0 {mI : Nat → Nat → Int32} {x : Int32} {N : Nat} {fa : Nat → Nat} (h1 : mo_Gr mI N) (h2 : mo_Fa mI N fa) : mo_Fl mI x N fa 0 mI fa := ⟨h1, h2, rfl, fun _ _ => ⟨rfl, rfl⟩, fun _ _ _ _ => rfl⟩
theorem mo_Fl_skip {mI mI2 : Nat → Nat → Int32} {x : Int32} {N i : Nat} {fa fa2 : Nat → Nat} (h : mo_Fl mI x N fa i mI2 fa2) (hn : ¬ (mI2 15 i = 1 ∧ mI2 16 i ≤ x)) : mo_Fl mI x N fa (i + 1) mI2 fa2 := by
  obtain ⟨a, b, c, d, e⟩ := h
  refine ⟨a, b, ?_, fun t ht => d t (by omega), e⟩
  simp only [mo_cn]
  have h1 := (d i (Nat.le_refl _)).1
  rw [h1, e 16 (by decide) (by decide) (by decide)] at hn
  rw [if_neg (by simpa using hn)]
  omega
theorem mo_sm_fa {fa : Nat → Nat} {st su : Nat → Int32} {i : Nat} (hsu : ∀ t, t ≠ i → su t = st t) (h2 : ¬ st i = 2) (h3 : ¬ su i = 2) : ∀ n : Nat, mo_sm (mo_up fa i (fa i + 1)) su n = mo_sm fa st n + (if i < n then 1 else 0) := by
  intro n
  induction n with
  | zero => rfl
  | succ n ih =>
    simp only [mo_sm]
    rw [ih]
    by_cases e : n = i
    · subst e
      rw [if_neg (Nat.lt_irrefl _), if_pos (Nat.lt_succ_self _), if_neg h2, if_neg h3]
      simp [mo_up]
      omega
    · rw [hsu n e]
      by_cases q : i < n
      · rw [if_pos q, if_pos (show i < n + 1 by omega)]
        simp [mo_up, e]
        omega
      · rw [if_neg q, if_neg (show ¬ i < n + 1 by omega)]
        simp [mo_up, e]
theorem mo_Fl_fail {mI mI2 : Nat → Nat → Int32} {x : Int32} {N i : Nat} {fa fa2 : Nat → Nat} {s2 g2 : Int32} (h : mo_Fl mI x N fa i mI2 fa2) (hi : i < N) (hp : mI2 15 i = 1) (hd : mI2 16 i ≤ x)
    (hs : (fa2 i + 1 = 10 ∧ s2 = 4 ∧ g2 = -1) ∨ (¬ fa2 i + 1 = 10 ∧ s2 = 1 ∧ g2 = mI2 22 i)) : mo_Fl mI x N fa (i + 1) (mo_up (mo_up (mo_up mI2 21 (upd (mI2 21) i (nI (fa2 i + 1)))) 15 (upd (mI2 15) i s2)) 22 (upd (mI2 22) i g2)) (mo_up fa2 i (fa2 i + 1)) := by
  obtain ⟨a, b, c, d, e⟩ := h
  have hle : fa2 i + 1 ≤ 10 := by
    obtain ⟨-, q2, q3⟩ := b.1 i hi
    rcases Nat.lt_or_ge (fa2 i) 10 with q | q
    · omega
    · have := q3 (by omega)
      rw [hp] at this
      exact absurd this (by decide)
  have hs2 : ¬ s2 = 2 := by rcases hs with ⟨-, q, -⟩ | ⟨-, q, -⟩ <;> rw [q] <;> decide
  refine ⟨fun t ht => ?_, ⟨fun t ht => ?_, fun t ht h9 => ?_⟩, ?_, fun t ht => ?_, fun k h1 h2 h3 => by simp [mo_up, h1, h2, h3, e k h1 h2 h3]⟩
  · by_cases q : t = i
    · subst q
      simp only [mo_up, upd, if_true, if_false, show ¬ (15 : Nat) = 22 by decide, show ¬ (15 : Nat) = 21 by decide, show ¬ (22 : Nat) = 15 by decide, show ¬ (22 : Nat) = 21 by decide]
      rcases hs with ⟨-, q1, q2⟩ | ⟨-, q1, q2⟩
      · exact Or.inl ⟨q2, by rw [q1]; decide⟩
      · refine Or.inr ⟨q1, ?_⟩
        rcases a t ht with z | z
        · exact absurd hp z.2
        · rw [q2]
          exact z.2
    · simp only [mo_up, upd, if_neg q, if_true, if_false, show ¬ (15 : Nat) = 22 by decide, show ¬ (15 : Nat) = 21 by decide, show ¬ (22 : Nat) = 15 by decide, show ¬ (22 : Nat) = 21 by decide]
      exact a t ht
  · by_cases q : t = i
    · subst q
      simp only [mo_up, upd, if_true, if_false, show ¬ (15 : Nat) = 22 by decide, show ¬ (21 : Nat) = 22 by decide, show ¬ (21 : Nat) = 15 by decide]
      refine ⟨by simp, hle, fun z => ?_⟩
      rcases hs with ⟨-, q1, -⟩ | ⟨q0, -, -⟩
      · exact q1
      · exact absurd z q0
    · simp only [mo_up, upd, if_neg q, if_true, if_false, show ¬ (15 : Nat) = 22 by decide, show ¬ (21 : Nat) = 22 by decide, show ¬ (21 : Nat) = 15 by decide]
      exact b.1 t ht
  · simp only [mo_up, upd, if_neg (show ¬ t = i by omega), if_true, if_false, show ¬ (21 : Nat) = 22 by decide, show ¬ (21 : Nat) = 15 by decide]
    exact b.2 t ht h9
  · have h15 : (mo_up (mo_up (mo_up mI2 21 (upd (mI2 21) i (nI (fa2 i + 1)))) 15 (upd (mI2 15) i s2)) 22 (upd (mI2 22) i g2)) 15 = upd (mI2 15) i s2 := rfl
    rw [h15, mo_sm_fa (st := mI2 15) (fun t ht => by simp [upd, ht]) (by rw [hp]; decide) (by simp [upd, hs2]) N, if_pos hi, c]
    simp only [mo_cn]
    have h1 := (d i (Nat.le_refl _)).1
    rw [if_pos (by simp only [decide_eq_true_eq]; exact ⟨by rw [← h1]; exact hp, by rw [← e 16 (by decide) (by decide) (by decide)]; exact hd⟩)]
    omega
  · have hti : t ≠ i := by omega
    simp only [mo_up, upd, if_neg hti, if_true, if_false, show ¬ (15 : Nat) = 22 by decide, show ¬ (15 : Nat) = 21 by decide]
    exact d t (by omega)
