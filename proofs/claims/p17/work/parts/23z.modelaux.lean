/-! words for the reference's loops -/
def mo_pri (gr pr : Nat → Int32) (g : Int32) : Nat → Int32
  | 0 => 0
  | t + 1 => if gr t = g ∧ mo_pri gr pr g t < pr t then pr t else mo_pri gr pr g t
theorem mo_wd {a : Nat} (h : a < 2 ^ 30) : hs_wd (nI a) = nI ((a + 3) % 7 + 1) := by
  unfold hs_wd hs_rem
  have e3 : (3 : Int32) = nI 3 := by decide +kernel
  have e7 : (7 : Int32) = nI 7 := by decide +kernel
  rw [e3, nI_add, e7, pk_rem (by omega) (by omega) (by omega), nI_1]
/-- how many days until the next that is no weekend -/
def mo_we (a : Nat) : Nat := if (a + 1 + 3) % 7 = 5 then 2 else if (a + 1 + 3) % 7 = 6 then 1 else 0
def mo_mu (a l : Nat) : Nat := 3 * l + mo_we a + 3 * (20001 - a)
theorem mo_mu_free {a l : Nat} (h : 4 < (a + 1 + 3) % 7 ∨ a + 1 ≤ 20000) : mo_mu (a + 1) l < mo_mu a l := by
  unfold mo_mu mo_we
  (repeat' split) <;> omega
theorem mo_mu_work {a l : Nat} : mo_mu (a + 1) l < mo_mu a (l + 1) := by
  unfold mo_mu mo_we
  (repeat' split) <;> omega
theorem nI_m1 {i : Nat} : nI (i + 1) - 1 = nI i := nI_pred i
theorem nI_0m1 : nI 0 - 1 < 0 := by decide +kernel
theorem mo_pl_in {a b : Nat} (ha : a < 16) (hb : b < 8) : vp_in (9 * nI a + nI b + 1) 144 := by
  have e9 : (9 : Int32) = nI 9 := by decide +kernel
  rw [e9, pk_mul, nI_add, nI_1]
  exact vp_in_nI (by omega) (by decide)
theorem mo_pl_in1 {a : Nat} (ha : a < 16) : vp_in (9 * nI a + -1 + 1) 144 := by
  have e9 : (9 : Int32) = nI 9 := by decide +kernel
  have e : nI 9 * nI a + -1 + 1 = nI (9 * a) := by
    rw [pk_mul, Int32.add_assoc]
    have : (-1 : Int32) + 1 = 0 := by decide
    rw [this, Int32.add_zero]
  rw [e9, e]
  exact vp_in_nI (by omega) (by decide)
/-- numbers below N, none twice: at most N -/
theorem mo_nodup : ∀ (N : Nat) (l : List Nat), l.Nodup → (∀ t ∈ l, t < N) → l.length ≤ N := by
  intro N
  induction N with
  | zero =>
    intro l _ h
    cases l with
    | nil => exact Nat.le_refl _
    | cons a r => exact absurd (h a List.mem_cons_self) (Nat.not_lt_zero _)
  | succ N ih =>
    intro l hn h
    have h1 := ih (l.erase N) (hn.erase N) (fun t ht => by
      have h2 := h t (List.mem_of_mem_erase ht)
      have h3 : t ≠ N := fun q => by
        subst q
        exact (List.Nodup.not_mem_erase hn) ht
      omega)
    have h2 := List.length_erase (a := N) (l := l)
    split at h2 <;> omega
