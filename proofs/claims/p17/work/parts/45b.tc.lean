/-! what a trade, and what a group's list, changes: out of the store -/
def tcG (G : hs_G) (x pa i : Nat) : Int := match G x with
  | some (.inr (_, [_, _, .ref t1, _, _, _, _, .int ql, .int am, _, _, _, _])) => match G t1 with
    | some (.inr (_, [.int de, .int re, .int se, _, _, _, _])) => tc de.toNatClampNeg re.toNatClampNeg se.toNatClampNeg ql.toInt am.toInt pa i
    | _ => 0
  | _ => 0
theorem tcG_at {G : hs_G} {x t1 s1 s2 de re se dy lg pa i : Nat} {nu te st du ql am fa pr ip q0 m0 : Int32} {g : Value} (hX : G x = some (cl_tr nu te t1 s1 s2 st du ql am fa pr ip g)) (hTe : G t1 = some (cl_te de re se q0 m0 dy lg)) (h1 : de < 16) (h2 : re < 16) (h3 : se < 8) : tcG G x pa i = tc de re se ql.toInt am.toInt pa i := by
  unfold tcG
  rw [hX]
  simp only []
  rw [hTe]
  simp only []
  rw [nI_clamp (by omega), nI_clamp (by omega), nI_clamp (by omega)]
/-- the first n of the list f -/
def tsum (G : hs_G) (f : Nat → Option Nat) (pa i : Nat) : Nat → Int
  | 0 => 0
  | n + 1 => tsum G f pa i n + (match f n with | some x => tcG G x pa i | none => 0)
theorem tc_bd {de re se : Nat} {q am : Int} (hq : 0 ≤ q ∧ q ≤ 1000000) (ham : 0 ≤ am ∧ am ≤ 1000000000) (p i : Nat) : -1000000000 ≤ tc de re se q am p i ∧ tc de re se q am p i ≤ 1000000000 := by
  unfold tc
  (repeat' split) <;> omega
/-- nobody else loses -/
theorem tc_nn {de re se : Nat} {q am : Int} (hq : 0 ≤ q) (ham : 0 ≤ am) {p i : Nat} (h1 : ¬ (p = de ∧ i = se + 1)) (h2 : ¬ (p = re ∧ i = 0)) : 0 ≤ tc de re se q am p i := by
  unfold tc
  by_cases i0 : i = 0
  · rw [if_pos i0, if_neg (show ¬ p = re from fun z => h2 ⟨z, i0⟩)]
    split <;> omega
  · rw [if_neg i0]
    by_cases i1 : i = se + 1
    · rw [if_pos i1, if_neg (show ¬ p = de from fun z => h1 ⟨z, i1⟩)]
      split <;> omega
    · rw [if_neg i1]
      omega
