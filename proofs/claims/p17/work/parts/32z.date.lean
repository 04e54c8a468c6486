/-! the date of a day: both sides count alike -/
noncomputable def dt_yl (y : Nat) : Nat := if hs_lp (nI y) = 0 then 365 else 366
noncomputable def dt_ml (y m : Nat) : Nat := if m = 2 then (if hs_lp (nI y) = 0 then 28 else 29) else if m = 4 ∨ m = 6 ∨ m = 9 ∨ m = 11 then 30 else 31
/-- the year, and what is left of the days in it -/
noncomputable def dt_y : Nat → Nat → Nat → Nat × Nat
  | 0, y, r => (y, r)
  | k + 1, y, r => if dt_yl y ≤ r then dt_y k (y + 1) (r - dt_yl y) else (y, r)
noncomputable def dt_m : Nat → Nat → Nat → Nat → Nat × Nat
  | 0, _, m, r => (m, r)
  | k + 1, y, m, r => if dt_ml y m ≤ r then dt_m k y (m + 1) (r - dt_ml y m) else (m, r)
/-- how many days the last k months of a year have -/
noncomputable def dt_rl (y : Nat) : Nat → Nat
  | 0 => 0
  | k + 1 => dt_ml y (12 - k) + dt_rl y k
theorem dt_yl_b (y : Nat) : 365 ≤ dt_yl y ∧ dt_yl y ≤ 366 := by
  unfold dt_yl
  split <;> omega
theorem dt_ml_b (y m : Nat) : dt_ml y m ≤ 31 := by
  unfold dt_ml
  (repeat' split) <;> omega
theorem dt_rl12 (y : Nat) : dt_rl y 12 = dt_yl y := by
  by_cases h : hs_lp (nI y) = 0
  · simp [dt_rl, dt_ml, dt_yl, h]
  · simp [dt_rl, dt_ml, dt_yl, h]
theorem dt_y0 {y : Nat} (h : hs_lp (nI y) = 0) : (365 : Int32) = nI (dt_yl y) := by
  unfold dt_yl
  rw [if_pos h]
  decide +kernel
theorem dt_y1 {y : Nat} (h : ¬ hs_lp (nI y) = 0) : (366 : Int32) = nI (dt_yl y) := by
  unfold dt_yl
  rw [if_neg h]
  decide +kernel
theorem dt_nI {a b : Nat} (ha : a < 2 ^ 31) (hb : b < 2 ^ 31) : (nI a = nI b) = (a = b) := by
  refine propext ⟨fun z => ?_, fun z => by rw [z]⟩
  have h1 := congrArg Int32.toInt z
  rw [nI_toInt ha, nI_toInt hb] at h1
  omega
theorem dt_mlI {y m : Nat} (hm : m < 100) : (if nI m = 2 then (if hs_lp (nI y) = 0 then 28 else 29) else if nI m = 4 ∨ nI m = 6 ∨ nI m = 9 ∨ nI m = 11 then 30 else (31 : Int32)) = nI (dt_ml y m) := by
  unfold dt_ml
  rw [show (2 : Int32) = nI 2 by decide +kernel, show (4 : Int32) = nI 4 by decide +kernel, show (6 : Int32) = nI 6 by decide +kernel, show (9 : Int32) = nI 9 by decide +kernel, show (11 : Int32) = nI 11 by decide +kernel]
  simp only [dt_nI (a := m) (b := 2) (by omega) (by omega), dt_nI (a := m) (b := 4) (by omega) (by omega), dt_nI (a := m) (b := 6) (by omega) (by omega), dt_nI (a := m) (b := 9) (by omega) (by omega), dt_nI (a := m) (b := 11) (by omega) (by omega)]
  (repeat' split) <;> decide +kernel
theorem dt_y_s {k y r : Nat} {q : Nat × Nat} (h : dt_y (k + 1) y r = q) (hl : dt_yl y ≤ r) : dt_y k (y + 1) (r - dt_yl y) = q := by
  simp only [dt_y, if_pos hl] at h
  exact h
theorem dt_y_e {k y r : Nat} {q : Nat × Nat} (h : dt_y (k + 1) y r = q) (hl : r < dt_yl y) : q = (y, r) := by
  simp only [dt_y, if_neg (Nat.not_le.mpr hl)] at h
  exact h.symm
theorem dt_m_s {k y m r : Nat} {q : Nat × Nat} (h : dt_m (k + 1) y m r = q) (hl : dt_ml y m ≤ r) : dt_m k y (m + 1) (r - dt_ml y m) = q := by
  simp only [dt_m, if_pos hl] at h
  exact h
theorem dt_m_e {k y m r : Nat} {q : Nat × Nat} (h : dt_m (k + 1) y m r = q) (hl : r < dt_ml y m) : q = (m, r) := by
  simp only [dt_m, if_neg (Nat.not_le.mpr hl)] at h
  exact h.symm
theorem dt_pos {k r c : Nat} (h : r < c * k) : ∃ q, k = q + 1 := by
  cases k with
  | zero => omega
  | succ k => exact ⟨k, rfl⟩
theorem dt_rpos {y k r : Nat} (h : r < dt_rl y k) : ∃ q, k = q + 1 := by
  cases k with
  | zero => exact absurd h (Nat.not_lt_zero _)
  | succ k => exact ⟨k, rfl⟩
theorem dt_rl_s {y k m r : Nat} (h : r < dt_rl y (k + 1)) (hm : m + (k + 1) = 13) (hl : dt_ml y m ≤ r) : r - dt_ml y m < dt_rl y k := by
  simp only [dt_rl] at h
  have e : m = 12 - k := by omega
  subst e
  omega
theorem dt_le {a b : Nat} (ha : a < 2 ^ 31) (hb : b < 2 ^ 31) (c : ¬ nI a < nI b) : b ≤ a := Nat.not_lt.mp fun z => c ((nI_ltI ha hb).mpr z)
noncomputable def dt_Y (d : Nat) : Nat × Nat := dt_y 56 1970 d
noncomputable def dt_M (d : Nat) : Nat × Nat := dt_m 12 (dt_Y d).1 1 (dt_Y d).2
noncomputable def dt_v (d : Nat) (pa : Int32) : Int32 := if pa = 0 then nI (dt_Y d).1 else if pa = 1 then nI (dt_M d).1 else if pa = 2 then nI ((dt_M d).2 + 1) else if pa = 3 then hs_wd (nI d) else nI d
theorem dt_p2 {pa : Int32} (ok : 0 ≤ pa.toInt64 ∧ pa.toInt64 ≤ 4) (h0 : ¬ pa = 0) (h1 : ¬ pa = 1) (h2 : ¬ pa > 2) : pa = 2 := by
  simp only [Int64.le_iff_toInt_le, hs_64] at ok
  have e0 : Int64.toInt 0 = 0 := by decide
  rw [e0] at ok
  rw [gt_iff_lt, Int32.lt_iff_toInt_lt, show Int32.toInt 2 = 2 by decide] at h2
  rw [← Int32.toInt_inj] at h0 h1 ⊢
  rw [show Int32.toInt 2 = 2 by decide]
  rw [show Int32.toInt 0 = 0 by decide] at h0
  rw [show Int32.toInt 1 = 1 by decide] at h1
  omega
theorem dt_g {pa : Int32} (h : pa > 2) : ¬ pa = 0 ∧ ¬ pa = 1 ∧ ¬ pa = 2 := by
  refine ⟨fun z => ?_, fun z => ?_, fun z => ?_⟩ <;> (rw [z] at h; exact absurd h (by decide))
theorem dt_v0 {d y : Nat} {pa : Int32} (hY : (dt_Y d).1 = y) (h : pa = 0) : nI y = dt_v d pa := by
  unfold dt_v
  rw [if_pos h, hY]
theorem dt_v1 {d m r : Nat} {pa : Int32} (hM : dt_M d = (m, r)) (h : ¬ pa = 0) (h1 : pa = 1) : nI m = dt_v d pa := by
  unfold dt_v
  rw [if_neg h, if_pos h1, hM]
theorem dt_v2 {d m r : Nat} {pa : Int32} (ok : 0 ≤ pa.toInt64 ∧ pa.toInt64 ≤ 4) (hM : dt_M d = (m, r)) (h : ¬ pa = 0) (h1 : ¬ pa = 1) (h2 : ¬ pa > 2) : nI r + 1 = dt_v d pa := by
  unfold dt_v
  rw [if_neg h, if_neg h1, if_pos (dt_p2 ok h h1 h2), hM, nI_1]
