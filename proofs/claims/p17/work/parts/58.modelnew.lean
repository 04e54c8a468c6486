/-! the reference is made: its arrays so far, newest first (address, field) -/
def mi_x : List (Nat × Nat) → Nat → Option Nat
  | [], _ => none
  | (a, k) :: r, q => if q = a then some k else mi_x r q
def mi_a : List (Nat × Nat) → Nat → Nat
  | [], _ => 0
  | (a, k) :: r, j => if j = k then a else mi_a r j
def mi_S (E : hs_E) (m : Nat) (L : List (Nat × Nat)) (fs : List Value) (G : hs_G) : hs_G := fun q =>
  if q = m then some (.inr (9, fs)) else match mi_x L q with
    | some k => some (mo_cell E (fun _ _ => 0) (fun _ _ => 0) k)
    | none => G q
theorem mi_new {E : hs_E} {m : Nat} {L : List (Nat × Nat)} {fs : List Value} {G : hs_G} {q : Nat} (k : Nat) (h : mi_S E m L fs G q = none) : hs_up (mi_S E m L fs G) q (mo_cell E (fun _ _ => 0) (fun _ _ => 0) k) = mi_S E m ((q, k) :: L) fs G := by
  have hq : q ≠ m := fun z => by
    unfold mi_S at h
    rw [if_pos z] at h
    cases h
  funext a
  by_cases e : a = q
  · subst e
    rw [hs_up_eq]
    simp [mi_S, hq, mi_x]
  · rw [hs_up_ne _ _ e]
    simp [mi_S, mi_x, e]
theorem mi_put {E : hs_E} {m : Nat} {L : List (Nat × Nat)} {fs fs2 : List Value} {G : hs_G} : hs_up (mi_S E m L fs G) m (.inr (9, fs2)) = mi_S E m L fs2 G := by
  funext a
  by_cases e : a = m
  · subst e
    rw [hs_up_eq]
    simp [mi_S]
  · rw [hs_up_ne _ _ e]
    simp [mi_S, e]
theorem mi_obj {E : hs_E} {m : Nat} {L : List (Nat × Nat)} {fs : List Value} {G : hs_G} : mi_S E m L fs G m = some (.inr (9, fs)) := by simp [mi_S]
/-- the arrays' addresses: apart, not the object, new, and nobody's before -/
def mi_ok (E : hs_E) (m : Nat) (L : List (Nat × Nat)) (G : hs_G) : Prop := (L.map (·.1)).Nodup ∧ ∀ x ∈ L, x.1 ≠ m ∧ (eH E).size ≤ x.1 ∧ G x.1 = none
theorem mi_x_none {L : List (Nat × Nat)} {q : Nat} (h : mi_x L q = none) : q ∉ L.map (·.1) := by
  induction L with
  | nil => simp
  | cons x r ih =>
    obtain ⟨a, k⟩ := x
    simp only [mi_x] at h
    split at h
    · cases h
    · rename_i hne
      simp only [List.map_cons, List.mem_cons, not_or]
      exact ⟨hne, ih h⟩
theorem mi_ok.cons {E : hs_E} {m : Nat} {L : List (Nat × Nat)} {fs : List Value} {G : hs_G} {q : Nat} (k : Nat) (h : mi_ok E m L G) (hq : mi_S E m L fs G q = none) (hs : (eH E).size ≤ q) : mi_ok E m ((q, k) :: L) G := by
  have hm : q ≠ m := fun z => by
    unfold mi_S at hq
    rw [if_pos z] at hq
    cases hq
  unfold mi_S at hq
  rw [if_neg hm] at hq
  cases hx : mi_x L q with
  | some k => rw [hx] at hq; cases hq
  | none =>
    rw [hx] at hq
    refine ⟨?_, fun x hx2 => ?_⟩
    · simp only [List.map_cons, List.nodup_cons]
      exact ⟨mi_x_none hx, h.1⟩
    · rcases List.mem_cons.mp hx2 with rfl | z
      · exact ⟨hm, hs, hq⟩
      · exact h.2 x z
theorem mi_mem {L : List (Nat × Nat)} {q k : Nat} (h : mi_x L q = some k) : (q, k) ∈ L := by
  induction L with
  | nil => cases h
  | cons x r ih =>
    obtain ⟨a, j⟩ := x
    simp only [mi_x] at h
    split at h
    · rename_i e
      cases h
      subst e
      exact List.mem_cons_self
    · exact List.mem_cons_of_mem _ (ih h)
theorem mi_x_of {L : List (Nat × Nat)} {q k : Nat} (hn : (L.map (·.1)).Nodup) (h : (q, k) ∈ L) : mi_x L q = some k := by
  induction L with
  | nil => cases h
  | cons x r ih =>
    obtain ⟨a, j⟩ := x
    simp only [List.map_cons, List.nodup_cons] at hn
    rcases List.mem_cons.mp h with z | z
    · cases z
      simp [mi_x]
    · have : q ≠ a := fun e => hn.1 (e ▸ List.mem_map_of_mem z)
      simp only [mi_x, if_neg this]
      exact ih hn.2 z
theorem mi_a_of {L : List (Nat × Nat)} {q k : Nat} (hn : (L.map (·.2)).Nodup) (h : (q, k) ∈ L) : mi_a L k = q := by
  induction L with
  | nil => cases h
  | cons x r ih =>
    obtain ⟨a, j⟩ := x
    simp only [List.map_cons, List.nodup_cons] at hn
    rcases List.mem_cons.mp h with z | z
    · cases z
      simp [mi_a]
    · have : k ≠ j := fun e => hn.1 (e ▸ List.mem_map_of_mem (f := (·.2)) z)
      simp only [mi_a, if_neg this]
      exact ih hn.2 z
theorem mi_at {E : hs_E} {m : Nat} {L : List (Nat × Nat)} {G : hs_G} (hm : (eH E).size ≤ m) (h : mi_ok E m L G) (hf : (L.map (·.2)).Nodup) (hall : ∀ k, mo_arr k = true ↔ k ∈ L.map (·.2)) : mo_ok E m (mi_a L) (mi_x L) ∧ ∀ k, mo_arr k = true → G (mi_a L k) = none := by
  have hk : ∀ k, mo_arr k = true → (mi_a L k, k) ∈ L := by
    intro k hk
    obtain ⟨x, hx, e⟩ := List.mem_map.mp ((hall k).mp hk)
    obtain ⟨a, j⟩ := x
    cases e
    rw [mi_a_of hf hx]
    exact hx
  have hs : ∀ k, mo_arr k = true → (mi_a L k ≠ m ∧ (eH E).size ≤ mi_a L k ∧ G (mi_a L k) = none) := fun k z => h.2 _ (hk k z)
  refine ⟨⟨⟨?_, fun k z => mi_x_of h.1 (hk k z), fun q k z => ⟨(mi_a_of hf (mi_mem z)).symm, (hall k).mpr (List.mem_map_of_mem (f := (·.2)) (mi_mem z))⟩⟩, ?_, fun k z => (hs k z).2.1⟩, fun k z => (hs k z).2.2⟩
  · cases hx : mi_x L m with
    | none => rfl
    | some k => exact absurd rfl (h.2 _ (mi_mem hx)).1
  · exact hm
