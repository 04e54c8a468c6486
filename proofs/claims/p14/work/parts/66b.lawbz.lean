/-! both sides' business days are one -/
theorem lw_bc {a b : Int32} : ((0 ≤ a.toInt64 ∧ a.toInt64 ≤ 20000) ∧ (0 ≤ b.toInt64 ∧ b.toInt64 ≤ 1000)) ↔ ((0 ≤ a ∧ a ≤ 20000) ∧ (0 ≤ b ∧ b ≤ 1000)) := by
  rw [Int64.le_iff_toInt_le, Int64.le_iff_toInt_le, Int64.le_iff_toInt_le, Int64.le_iff_toInt_le, Int32.le_iff_toInt_le, Int32.le_iff_toInt_le, Int32.le_iff_toInt_le, Int32.le_iff_toInt_le, Int32.toInt_toInt64, Int32.toInt_toInt64, Int64.toInt_zero, Int32.toInt_zero]
  exact Iff.rfl
theorem lw_nob {a b : Int32} {a9 b9 : Nat} (hok : ¬ ((0 ≤ a ∧ a ≤ 20000) ∧ (0 ≤ b ∧ b ≤ 1000))) (e1 : a = nI a9) (h1 : a9 ≤ 20000) (e2 : b = nI b9) (h2 : b9 ≤ 1000) : False := by
  subst e1
  subst e2
  refine hok ⟨⟨?_, ?_⟩, ?_, ?_⟩
  · rw [show (0 : Int32) = nI 0 from rfl]; exact (nI_leI (by omega) (by omega)).mpr (Nat.zero_le _)
  · rw [show (20000 : Int32) = nI 20000 by decide +kernel]; exact (nI_leI (by omega) (by omega)).mpr h1
  · rw [show (0 : Int32) = nI 0 from rfl]; exact (nI_leI (by omega) (by omega)).mpr (Nat.zero_le _)
  · rw [show (1000 : Int32) = nI 1000 by decide +kernel]; exact (nI_leI (by omega) (by omega)).mpr h2
theorem lw_bzb {X : Nat → Nat} {mI : Nat → Nat → Int32} (hR : lw_R X mI) : bz_b X = bz_m (mI 2) := by
  funext j
  unfold bz_b bz_m
  by_cases hj : j ≤ 20000
  · rw [hR j hj]
    cases hv X j <;> simp
  · simp [hj]
theorem lw_bzeq {X : Nat → Nat} {mI : Nat → Nat → Int32} {a b x : Int32} {a9 b9 k9 a8 b8 k8 : Nat} (hR : lw_R X mI) (ea : a = nI a9) (ha9 : a9 ≤ 20000) (eb : b = nI b9) (hb9 : b9 ≤ 1000) (hk9 : k9 < 40000) (hz9 : bz (bz_b X) a9 b9 k9) (fa : a = nI a8 ∧ a8 ≤ 20000) (fb : b = nI b8 ∧ b8 ≤ 1000) (hk8 : k8 ≤ 90000) (hz8 : bz (bz_m (mI 2)) a8 b8 k8) (fx : some (Value.int x) = some (Value.int (nI (a8 + k8)))) : (nI (a9 + k9)).toInt64 = x.toInt64 := by
  have e1 : a9 = a8 := (dt_nI (by omega) (by omega)).mp (ea.symm.trans fa.1)
  have e2 : b9 = b8 := (dt_nI (by omega) (by omega)).mp (eb.symm.trans fb.1)
  subst e1
  subst e2
  rw [← lw_bzb hR] at hz8
  have e3 := bz_one hz9 hz8
  subst e3
  cases fx
  rfl
