/-! more words for the reference's loops -/
theorem mo_c18 {a : Nat} (h : a < 2 ^ 30) (c : hs_wd (nI a) > 5) : 4 < (a + 3) % 7 := by
  rw [mo_wd h] at c
  have e : (5 : Int32) = nI 5 := by decide +kernel
  rw [e] at c
  have := (nI_ltI (by omega) (by omega)).mp c
  omega
theorem mo_c25 {a : Nat} (h : a < 2 ^ 30) (c : ¬ nI a > 20000) : a ≤ 20000 := by
  have e : (20000 : Int32) = nI 20000 := by decide +kernel
  rw [e] at c
  exact Nat.not_lt.mp fun q => c ((nI_ltI (by omega) (by omega)).mpr q)
theorem hs_sub0 (x : Int32) : x - 0 = x := Int32.sub_zero x
theorem hs_m1 (x : Int32) : x + Int32.ofInt (-1) = x - 1 := by
  have h : Int32.ofInt (-1) = -1 := by decide
  rw [h, Int32.sub_eq_add_neg]
theorem mo_c144 {i : Nat} (h : i < 2 ^ 30) (c : ¬ nI i ≥ 144) : i < 144 := by
  have e : (144 : Int32) = nI 144 := by decide +kernel
  rw [e] at c
  exact Nat.not_le.mp fun q => c ((nI_leI (by omega) (by omega)).mpr q)
theorem mo_pos {b : Nat} (c : ¬ nI b ≤ 0) : ∃ k, b = k + 1 := by
  rcases Nat.eq_zero_or_pos b with q | q
  · subst q
    exact absurd (by decide +kernel : nI 0 ≤ 0) c
  · exact ⟨b - 1, by omega⟩
theorem mo_pre {i : Nat} (c : ¬ nI i - 1 < 0) : ∃ k, i = k + 1 := by
  rcases Nat.eq_zero_or_pos i with q | q
  · subst q
    exact absurd nI_0m1 c
  · exact ⟨i - 1, by omega⟩
theorem mo_up2 {α : Type} (f : Nat → α) (k : Nat) (x y : α) : mo_up (mo_up f k x) k y = mo_up f k y := by
  funext j
  unfold mo_up
  split <;> rfl
theorem mo_mu_bd {a b : Nat} (ha : a ≤ 20000) (hb : b ≤ 1000) : a + mo_mu a b ≤ 90000 := by
  unfold mo_mu mo_we
  (repeat' split) <;> omega
