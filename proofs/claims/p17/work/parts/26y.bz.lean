/-! business days: counted -/
/-- how many business days there are among the k days behind a -/
def bz_c (b : Nat → Bool) (a : Nat) : Nat → Nat
  | 0 => 0
  | k + 1 => bz_c b a k + (if b (a + k + 1) = true then 1 else 0)
/-- the n-th business day behind a is a + k -/
def bz (b : Nat → Bool) (a n k : Nat) : Prop := bz_c b a k = n ∧ (k = 0 ∨ b (a + k) = true)
theorem bz_mono {b : Nat → Bool} {a k l : Nat} (h : k ≤ l) : bz_c b a k ≤ bz_c b a l := by
  induction l with
  | zero => rw [show k = 0 by omega]; exact Nat.le_refl _
  | succ l ih =>
    rcases Nat.lt_or_ge l k with z | z
    · rw [show k = l + 1 by omega]; exact Nat.le_refl _
    · exact Nat.le_trans (ih z) (Nat.le_add_right _ _)
theorem bz_one {b : Nat → Bool} {a n k l : Nat} (h1 : bz b a n k) (h2 : bz b a n l) : k = l := by
  have key : ∀ {k l : Nat}, bz b a n k → bz b a n l → ¬ k < l := by
    intro k l h1 h2 z
    obtain ⟨l, rfl⟩ : ∃ m, l = m + 1 := ⟨l - 1, by omega⟩
    have h3 := h2.2.resolve_left (by omega)
    have h4 : bz_c b a l + (if b (a + l + 1) = true then 1 else 0) = n := h2.1
    have h5 := bz_mono (b := b) (a := a) (show k ≤ l by omega)
    rw [if_pos (show b (a + l + 1) = true from h3)] at h4
    have h6 := h1.1
    omega
  exact Nat.le_antisymm (Nat.not_lt.mp (key h2 h1)) (Nat.not_lt.mp (key h1 h2))
/-- a business day of the reference: h tells the holidays -/
def bz_m (h : Nat → Int32) (j : Nat) : Bool := decide ((j + 3) % 7 < 5) && !(decide (¬ h j = 0) && decide (j ≤ 20000))
theorem bz_mt {h : Nat → Int32} {j : Nat} (h1 : (j + 3) % 7 < 5) (h2 : 20000 < j ∨ h j = 0) : bz_m h j = true := by
  unfold bz_m
  rcases h2 with z | z
  · simp [h1, Nat.not_le.mpr z]
  · simp [h1, z]
theorem bz_mf {h : Nat → Int32} {j : Nat} (h1 : 5 ≤ (j + 3) % 7 ∨ (j ≤ 20000 ∧ ¬ h j = 0)) : bz_m h j = false := by
  unfold bz_m
  rcases h1 with z | z
  · simp [Nat.not_lt.mpr z]
  · simp [z.1, z.2]
theorem mo_c18n {a : Nat} (h : a < 2 ^ 30) (c : ¬ hs_wd (nI a) > 5) : (a + 3) % 7 < 5 := by
  rw [mo_wd h, show (5 : Int32) = nI 5 by decide +kernel] at c
  have := Nat.not_lt.mp (fun z => c ((nI_ltI (a := 5) (b := (a + 3) % 7 + 1) (by omega) (by omega)).mpr z))
  omega
theorem bz_s1 {b : Nat → Bool} {a k : Nat} (h : b (a + k + 1) = true) : bz_c b a (k + 1) = bz_c b a k + 1 := by
  show _ + (if _ then 1 else 0) = _
  rw [if_pos h]
theorem bz_s0 {b : Nat → Bool} {a k : Nat} (h : b (a + k + 1) = false) : bz_c b a (k + 1) = bz_c b a k := by
  show _ + (if _ then 1 else 0) = _
  rw [if_neg (by rw [h]; decide), Nat.add_zero]
theorem bz_end {b : Nat → Bool} {a n k : Nat} (h : bz_c b a k = n) (h2 : k = 0 ∨ bz_c b a (k - 1) < n) : bz b a n k := by
  refine ⟨h, h2.imp id fun z => ?_⟩
  cases k with
  | zero => exact absurd h (by have : bz_c b a 0 < n := z; omega)
  | succ k =>
    cases hh : b (a + (k + 1)) with
    | true => rfl
    | false =>
      have e := bz_s0 (b := b) (a := a) (k := k) hh
      have z2 : bz_c b a k < n := z
      omega
