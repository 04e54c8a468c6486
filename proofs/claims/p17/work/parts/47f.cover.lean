/-! what is covered for those who lose is covered for all -/
/-- the list f holds trades that are in their ranges -/
def tgd (G : hs_G) (f : Nat → Option Nat) (sz : Nat) : Prop := ∀ u, u < sz → ∃ (y de re se : Nat) (q am : Int), f u = some y ∧ tdG G y = (de, re, se) ∧ 0 ≤ q ∧ 0 ≤ am ∧ ∀ p i, tcG G y p i = tc de re se q am p i
theorem tgd_of {E : hs_E} {t : cl_t} {cap X : Nat → Nat} {d sz : Nat} {G : hs_G} {f : Nat → Option Nat} (hT : cl_T E t cap X d G) (hel : ∀ j, j < sz → ∃ x : Nat, f j = some x ∧ t x = some (50, 0)) : tgd G f sz := by
  intro u hu
  obtain ⟨y, hf, hy⟩ := hel u hu
  obtain ⟨nu, te, t1, s1, s2, st, du, ql, am, fa, pr, ip, g, hX, ht1, -⟩ := hT.tr hy
  obtain ⟨de, re, se, q0, m0, dy, lg, hTe, hde, hre, hse, -⟩ := hT.te ht1
  have hb9 := hT.b hy _ _ _ _ _ _ _ _ _ _ _ _ _ hX
  exact ⟨y, de, re, se, ql.toInt, am.toInt, hf, tdG_at hX hTe hde hre hse, hb9.1, hb9.2.2.1, fun p i => tcG_at hX hTe hde hre hse⟩
theorem tsum_nn {G : hs_G} {f : Nat → Option Nat} {p i : Nat} : ∀ n : Nat, (∀ u, u < n → ∀ y, f u = some y → 0 ≤ tcG G y p i) → 0 ≤ tsum G f p i n
  | 0, _ => Int.le_refl _
  | n + 1, h => by
    have h1 := tsum_nn n (fun u hu => h u (by omega))
    show 0 ≤ tsum G f p i n + (match f n with | some x => tcG G x p i | none => 0)
    cases hf : f n with
    | none => simp only []; omega
    | some y => have := h n (by omega) y hf; simp only []; omega
theorem cv_all {X : Nat → Nat} {G : hs_G} {f : Nat → Option Nat} {sz : Nat} (hJ : vJ X) (hg : tgd G f sz) (h : ∀ u, u < sz → cvm X G f sz u) {p i : Nat} (hp : p < 16) (hi : i < 9) : 0 ≤ (vv X (20 + p) i).toInt + tsum G f p i sz := by
  by_cases hx : ∃ u, u < sz ∧ ∃ y, f u = some y ∧ ((p = (tdG G y).1 ∧ i = (tdG G y).2.2 + 1) ∨ (p = (tdG G y).2.1 ∧ i = 0))
  · obtain ⟨u, hu, y, hy, w⟩ := hx
    obtain ⟨c1, c2⟩ := h u hu y hy
    rcases w with ⟨rfl, rfl⟩ | ⟨rfl, rfl⟩
    · exact c1
    · exact c2
  · have h1 := (hJ.le hi hp).1
    have h2 := tsum_nn (G := G) (f := f) (p := p) (i := i) sz (fun u hu y hy => by
      obtain ⟨y', de, re, se, q, am, e1, e2, e3, e4, e5⟩ := hg u hu
      rw [hy] at e1
      cases e1
      rw [e5]
      refine tc_nn e3 e4 (fun w => hx ⟨u, hu, y, hy, Or.inl ?_⟩) (fun w => hx ⟨u, hu, y, hy, Or.inr ?_⟩)
      · rw [e2]; exact w
      · rw [e2]; exact w)
    omega
