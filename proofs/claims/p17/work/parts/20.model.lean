/-! THE REFERENCE'S STATE as functions: its object at m, the array of the field k at ar k; over whatever else is there (F) -/
/-- how many places the array of a field has -/
def mo_len (k : Nat) : Nat := if k = 2 then 20001 else if k = 3 ∨ k = 30 then 144 else if k = 31 then 7 else if 24 ≤ k ∧ k ≤ 27 then 2000 else 150
/-- the fields that are arrays of longs; of booleans -/
def mo_lng (k : Nat) : Bool := k == 3 || k == 30
def mo_boo (k : Nat) : Bool := k == 2 || k == 20
/-- the fields that are arrays -/
def mo_arr (k : Nat) : Bool := decide (k < 32) && !(k == 0 || k == 1 || k == 4 || k == 23 || k == 28)
abbrev mo_flds (ar : Nat → Nat) (sc : Nat → Int32) : List Value := [.int (sc 0), .int (sc 1), .ref (ar 2), .ref (ar 3), .int (sc 4), .ref (ar 5), .ref (ar 6), .ref (ar 7), .ref (ar 8), .ref (ar 9), .ref (ar 10), .ref (ar 11), .ref (ar 12), .ref (ar 13), .ref (ar 14), .ref (ar 15), .ref (ar 16), .ref (ar 17), .ref (ar 18), .ref (ar 19), .ref (ar 20), .ref (ar 21), .ref (ar 22), .int (sc 23), .ref (ar 24), .ref (ar 25), .ref (ar 26), .ref (ar 27), .int (sc 28), .ref (ar 29), .ref (ar 30), .ref (ar 31)]
def mo_cell (E : hs_E) (mI : Nat → Nat → Int32) (mL : Nat → Nat → Int64) (k : Nat) : va_E := if mo_lng k then .inl (eA E 1, mo_len k, .inr (.inl (mL k))) else if mo_boo k then .inl (eA E 2, mo_len k, .inl (mI k)) else .inl (eA E 0, mo_len k, .inl (mI k))
/-- where things are: the object, the arrays, and the way back from an address to its field -/
def mo_at (m : Nat) (ar : Nat → Nat) (ix : Nat → Option Nat) : Prop := ix m = none ∧ (∀ k, mo_arr k = true → ix (ar k) = some k) ∧ ∀ q k, ix q = some k → q = ar k ∧ mo_arr k = true
def mo_W (E : hs_E) (m : Nat) (ar : Nat → Nat) (ix : Nat → Option Nat) (sc : Nat → Int32) (mI : Nat → Nat → Int32) (mL : Nat → Nat → Int64) (F : hs_G) : hs_G := fun q =>
  if q = m then some (.inr (9, mo_flds ar sc)) else match ix q with
    | some k => some (mo_cell E mI mL k)
    | none => F q
def mo_up {α : Type} (f : Nat → α) (k : Nat) (x : α) : Nat → α := fun j => if j = k then x else f j
section MO
variable {E : hs_E} {m : Nat} {ar : Nat → Nat} {ix : Nat → Option Nat} {sc : Nat → Int32} {mI : Nat → Nat → Int32} {mL : Nat → Nat → Int64} {F : hs_G}
theorem mo_obj : mo_W E m ar ix sc mI mL F m = some (.inr (9, mo_flds ar sc)) := by simp [mo_W]
theorem mo_arrNe (h : mo_at m ar ix) {k : Nat} (hk : mo_arr k = true) : ar k ≠ m := by
  intro e
  have h1 := h.2.1 k hk
  rw [e, h.1] at h1
  cases h1
theorem mo_row (h : mo_at m ar ix) {k : Nat} (hk : mo_arr k = true) : mo_W E m ar ix sc mI mL F (ar k) = some (mo_cell E mI mL k) := by
  simp [mo_W, mo_arrNe h hk, h.2.1 k hk]
theorem mo_int (h : mo_at m ar ix) (k : Nat) (hk : (mo_arr k && !mo_lng k && !mo_boo k) = true) : mo_W E m ar ix sc mI mL F (ar k) = some (.inl (eA E 0, mo_len k, .inl (mI k))) := by
  simp only [Bool.and_eq_true, Bool.not_eq_true'] at hk
  rw [mo_row h hk.1.1]
  simp [mo_cell, hk.1.2, hk.2]
theorem mo_bool (h : mo_at m ar ix) (k : Nat) (hk : (mo_arr k && !mo_lng k && mo_boo k) = true) : mo_W E m ar ix sc mI mL F (ar k) = some (.inl (eA E 2, mo_len k, .inl (mI k))) := by
  simp only [Bool.and_eq_true, Bool.not_eq_true'] at hk
  rw [mo_row h hk.1.1]
  simp [mo_cell, hk.1.2, hk.2]
theorem mo_long (h : mo_at m ar ix) (k : Nat) (hk : (mo_arr k && mo_lng k) = true) : mo_W E m ar ix sc mI mL F (ar k) = some (.inl (eA E 1, mo_len k, .inr (.inl (mL k)))) := by
  simp only [Bool.and_eq_true] at hk
  rw [mo_row h hk.1]
  simp [mo_cell, hk.2]
/-- a place of an array of ints is written -/
theorem mo_putI (h : mo_at m ar ix) (k : Nat) (hk : (mo_arr k && !mo_lng k && !mo_boo k) = true) (f : Nat → Int32) : hs_up (mo_W E m ar ix sc mI mL F) (ar k) (.inl (eA E 0, mo_len k, .inl f)) = mo_W E m ar ix sc (mo_up mI k f) mL F := by
  simp only [Bool.and_eq_true, Bool.not_eq_true'] at hk
  funext q
  by_cases e : q = ar k
  · subst e
    rw [hs_up_eq, mo_row h hk.1.1]
    simp [mo_cell, hk.1.2, hk.2, mo_up]
  · rw [hs_up_ne _ _ e]
    unfold mo_W
    by_cases e2 : q = m
    · simp [e2]
    · simp only [e2, if_false]
      cases hq : ix q with
      | none => rfl
      | some j =>
        have hj : j ≠ k := fun z => e (by rw [← z]; exact (h.2.2 q j hq).1)
        simp [mo_cell, mo_up, hj]
theorem mo_putB (h : mo_at m ar ix) (k : Nat) (hk : (mo_arr k && !mo_lng k && mo_boo k) = true) (f : Nat → Int32) : hs_up (mo_W E m ar ix sc mI mL F) (ar k) (.inl (eA E 2, mo_len k, .inl f)) = mo_W E m ar ix sc (mo_up mI k f) mL F := by
  simp only [Bool.and_eq_true, Bool.not_eq_true'] at hk
  funext q
  by_cases e : q = ar k
  · subst e
    rw [hs_up_eq, mo_row h hk.1.1]
    simp [mo_cell, hk.1.2, hk.2, mo_up]
  · rw [hs_up_ne _ _ e]
    unfold mo_W
    by_cases e2 : q = m
    · simp [e2]
    · simp only [e2, if_false]
      cases hq : ix q with
      | none => rfl
      | some j =>
        have hj : j ≠ k := fun z => e (by rw [← z]; exact (h.2.2 q j hq).1)
        simp [mo_cell, mo_up, hj]
theorem mo_putL (h : mo_at m ar ix) (k : Nat) (hk : (mo_arr k && mo_lng k) = true) (f : Nat → Int64) : hs_up (mo_W E m ar ix sc mI mL F) (ar k) (.inl (eA E 1, mo_len k, .inr (.inl f))) = mo_W E m ar ix sc mI (mo_up mL k f) F := by
  simp only [Bool.and_eq_true] at hk
  funext q
  by_cases e : q = ar k
  · subst e
    rw [hs_up_eq, mo_row h hk.1]
    simp [mo_cell, hk.2, mo_up]
  · rw [hs_up_ne _ _ e]
    unfold mo_W
    by_cases e2 : q = m
    · simp [e2]
    · simp only [e2, if_false]
      cases hq : ix q with
      | none => rfl
      | some j =>
        have hj : j ≠ k := fun z => e (by rw [← z]; exact (h.2.2 q j hq).1)
        simp [mo_cell, mo_up, hj]
/-- a field of the object is written -/
theorem mo_putS {sc2 : Nat → Int32} {fs : List Value} (hf : fs = mo_flds ar sc2) : hs_up (mo_W E m ar ix sc mI mL F) m (.inr (9, fs)) = mo_W E m ar ix sc2 mI mL F := by
  subst hf
  funext q
  by_cases e : q = m
  · subst e
    rw [hs_up_eq, mo_obj]
  · rw [hs_up_ne _ _ e]
    simp [mo_W, e]
theorem mo_fs0 (v : Int32) : (mo_flds ar sc).set 0 (.int v) = mo_flds ar (mo_up sc 0 v) := by simp [mo_flds, mo_up]
theorem mo_fs1 (v : Int32) : (mo_flds ar sc).set 1 (.int v) = mo_flds ar (mo_up sc 1 v) := by simp [mo_flds, mo_up]
theorem mo_fs4 (v : Int32) : (mo_flds ar sc).set 4 (.int v) = mo_flds ar (mo_up sc 4 v) := by simp [mo_flds, mo_up]
theorem mo_fs23 (v : Int32) : (mo_flds ar sc).set 23 (.int v) = mo_flds ar (mo_up sc 23 v) := by simp [mo_flds, mo_up]
theorem mo_fs28 (v : Int32) : (mo_flds ar sc).set 28 (.int v) = mo_flds ar (mo_up sc 28 v) := by simp [mo_flds, mo_up]
end MO
