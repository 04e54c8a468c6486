/-! the row of ready groups -/
def mo_pt (mI : Nat → Nat → Int32) (N t : Nat) : Int32 := mo_pri (mI 22) (mI 19) (mI 22 t) N
/-- t is its group's first, and due -/
def mo_ld (sc : Nat → Int32) (mI : Nat → Nat → Int32) (N t : Nat) : Prop := t < N ∧ (∃ g : Nat, g < 150 ∧ mI 22 t = nI g) ∧ (∀ u, u < t → ¬ mI 22 u = mI 22 t) ∧ mI 16 t ≤ sc 1
/-- the row holds rw -/
def mo_rw (f : Nat → Int32) (rw : List Nat) : Prop := ∀ (k t : Nat), rw[k]? = some t → f k = nI t
theorem mo_up_self {α : Type} (f : Nat → α) (k : Nat) : mo_up f k (f k) = f := by
  funext j
  unfold mo_up
  split
  · rename_i h; rw [h]
  · rfl
theorem mo_up_eq {α : Type} (f : Nat → α) (k : Nat) (x : α) : mo_up f k x k = x := by simp [mo_up]
theorem mo_lt1 {q : Nat} (hq : q < 4) {x : Int32} (h : nI q < x ∨ x = nI q) : nI q - 1 < x := by
  have h1 : (nI q - 1).toInt = (q : Int) - 1 := by
    have h9 := pk_sub_toInt (a := q) (b := 1) (by omega) (by omega)
    have e1 : nI 1 = 1 := by decide +kernel
    rw [e1] at h9
    exact h9
  rw [Int32.lt_iff_toInt_lt, h1]
  rcases h with h | h
  · rw [Int32.lt_iff_toInt_lt, nI_toInt (by omega)] at h
    omega
  · rw [h, nI_toInt (by omega)]
    omega
theorem mo_lay0 {E : hs_E} {mo : Nat} {ar : Nat → Nat} {ix : Nat → Option Nat} {sc : Nat → Int32} {mI : Nat → Nat → Int32} {mL : Nat → Nat → Int64} {F : hs_G} : mo_W E mo ar ix (mo_up sc 28 0) mI mL F = mo_W E mo ar ix (mo_up sc 28 (nI ([] : List Nat).length)) (mo_up mI 29 (mI 29)) mL F := by
  rw [mo_up_self]
  rfl
theorem mo_lay1 {E : hs_E} {mo : Nat} {ar : Nat → Nat} {ix : Nat → Option Nat} {sc : Nat → Int32} {mI : Nat → Nat → Int32} {mL : Nat → Nat → Int64} {F : hs_G} {f : Nat → Int32} {rw : List Nat} {i : Nat} (h : rw.length < 150) : mo_W E mo ar ix (mo_up (mo_up sc 28 (nI rw.length)) 28 (mo_up sc 28 (nI rw.length) 28 + 1)) (mo_up (mo_up mI 29 f) 29 (upd (mo_up mI 29 f 29) (mo_up sc 28 (nI rw.length) 28).toNatClampNeg (nI i))) mL F = mo_W E mo ar ix (mo_up sc 28 (nI (rw ++ [i]).length)) (mo_up mI 29 (upd f rw.length (nI i))) mL F := by
  rw [mo_up2, mo_up2, mo_up_eq, mo_up_eq, nI_clamp (by omega), nI_1, List.length_append]
  rfl
theorem mo_rw_add {f : Nat → Int32} {rw : List Nat} {i : Nat} (h : mo_rw f rw) : mo_rw (upd f rw.length (nI i)) (rw ++ [i]) := by
  intro k t hk
  by_cases hl : k < rw.length
  · rw [List.getElem?_append_left hl] at hk
    simp only [upd, if_neg (Nat.ne_of_lt hl)]
    exact h k t hk
  · rw [List.getElem?_append_right (by omega)] at hk
    have hz : k - rw.length < 1 := (List.getElem?_eq_some_iff.mp hk).1
    have e : k = rw.length := by omega
    subst e
    simp at hk
    subst hk
    simp [upd]
/-- the row at a moment of the inner loop -/
def mo_R (sc : Nat → Int32) (mI : Nat → Nat → Int32) (N q i : Nat) (rw : List Nat) (f : Nat → Int32) : Prop := rw.Nodup ∧ (∀ t ∈ rw, mo_ld sc mI N t ∧ (nI q < mo_pt mI N t ∨ (mo_pt mI N t = nI q ∧ t < i))) ∧ mo_rw f rw
theorem mo_R_add {sc : Nat → Int32} {mI : Nat → Nat → Int32} {N q i : Nat} {rw : List Nat} {f : Nat → Int32} (h : mo_R sc mI N q i rw f) (hl : mo_ld sc mI N i) (hp : mo_pt mI N i = nI q) : mo_R sc mI N q (i + 1) (rw ++ [i]) (upd f rw.length (nI i)) := by
  obtain ⟨h1, h2, h3⟩ := h
  have hni : i ∉ rw := by
    intro hi
    rcases (h2 i hi).2 with q1 | q1
    · rw [hp] at q1
      exact Int32.lt_irrefl q1
    · exact absurd q1.2 (Nat.lt_irrefl _)
  refine ⟨?_, ?_, mo_rw_add h3⟩
  · rw [List.nodup_append]
    refine ⟨h1, by simp, ?_⟩
    intro a ha b hb
    rw [List.mem_singleton.mp hb]
    exact fun e => hni (e ▸ ha)
  · intro t ht
    rcases List.mem_append.mp ht with q1 | q1
    · obtain ⟨g1, g2⟩ := h2 t q1
      exact ⟨g1, g2.imp id (fun z => ⟨z.1, by omega⟩)⟩
    · rw [List.mem_singleton.mp q1]
      exact ⟨hl, Or.inr ⟨hp, Nat.lt_succ_self _⟩⟩
theorem mo_R_len {sc : Nat → Int32} {mI : Nat → Nat → Int32} {N q i : Nat} {rw : List Nat} {f : Nat → Int32} (h : mo_R sc mI N q i rw f) : rw.length ≤ N := mo_nodup N rw h.1 (fun t ht => (h.2.1 t ht).1.1)
