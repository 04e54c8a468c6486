/-! lists of groups that change: what is known of them behind -/
theorem cl_gr.uniq {x : Option va_E} {g g' : Nat} (h : cl_gr x g) (h' : cl_gr x g') : g = g' := by
  obtain ⟨nu, te, t1, s1, s2, st, du, ql, am, fa, pr, ip, e⟩ := h
  obtain ⟨nu', te', t1', s1', s2', st', du', ql', am', fa', pr', ip', e'⟩ := h'
  rw [e] at e'
  cases e'
  rfl
/-- behind takeIn of a into the list L (f, sz of them) of the group g -/
def cl_TI (E : hs_E) (t : cl_t) (cap X : Nat → Nat) (d : Nat) (G : hs_G) (L sz a g : Nat) (f : Nat → Option Nat) (G1 : hs_G) (k n : Nat) : Prop := k ≤ 1 ∧ n ≤ 230 ∧ ∃ (t' : cl_t) (cap' : Nat → Nat) (mc' : Int32) (A' : Nat) (f2 : Nat → Option Nat) (i : Nat), cl_T E t' cap' X d G1 ∧ cl_F t G t' G1 ∧ G1 L = some (al_o mc' A' (nI (sz + 1))) ∧ G1 A' = some (al_a E (cap' L) f2) ∧ t' A' = some (60, L) ∧ i ≤ sz ∧ (∀ j, j < sz + 1 → f2 j = if j < i then f j else if j = i then some a else f (j - 1)) ∧ (∀ q, q ≠ L → cap' q = cap q) ∧ cl_gr (G1 a) g ∧ (∀ q kq, t' q = some kq → kq.1 ≠ 60 → t q = some kq) ∧ ∀ q kq, t q = some kq → q ≠ L → kq ≠ (60, L) → q ≠ a → G1 q = G q
/-- what a method of the class that may make things does: the day is d2 then -/
def cl_M (E : hs_E) (t : cl_t) (cap X : Nat → Nat) (d2 : Nat) (G : hs_G) (K N : Nat) (G1 : hs_G) (k n : Nat) : Prop := ∃ (t' : cl_t) (cap' : Nat → Nat), cl_T E t' cap' X d2 G1 ∧ cl_F t G t' G1 ∧ cap (X 9) ≤ cap' (X 9) ∧ k ≤ K + (cap' (X 9) - cap (X 9)) ∧ n ≤ N + 4 * (cap' (X 9) - cap (X 9))
/-- i of the other list's trades (fo) have come to the list L -/
def cl_ab (E : hs_E) (t : cl_t) (G : hs_G) (L g sz i : Nat) (f fo : Nat → Option Nat) (t1 : cl_t) (cap1 : Nat → Nat) (G1 : hs_G) (A1 : Nat) (f1 : Nat → Option Nat) : Prop :=
  G1 A1 = some (al_a E (cap1 L) f1) ∧ (A1 = eE E ∨ t1 A1 = some (60, L)) ∧ (∀ j, j < sz + i → (∃ u, u < sz ∧ f1 j = f u) ∨ ∃ u, u < i ∧ f1 j = fo u) ∧ (∀ j j', j < sz + i → j' < sz + i → f1 j = f1 j' → j = j') ∧ (∀ u, u < i → ∀ x, fo u = some x → cl_gr (G1 x) g) ∧ (∀ q kq, t1 q = some kq → kq.1 ≠ 60 → t q = some kq) ∧ ∀ q kq, t q = some kq → q ≠ L → kq ≠ (60, L) → (∀ u, u < i → fo u ≠ some q) → G1 q = G q
theorem cl_ab.step {E : hs_E} {t t1 t2 : cl_t} {cap1 cap2 : Nat → Nat} {G G1 G2 : hs_G} {L g sz i so A1 A2 x pl : Nat} {f fo f1 f2 : Nat → Option Nat} (h : cl_ab E t G L g sz i f fo t1 cap1 G1 A1 f1) (hi : i < so) (hx : fo i = some x) (hLt : t L = some (54, g)) (hsep : ∀ u v, u < sz → v < so → f u ≠ fo v) (hinj : ∀ u v, u < so → v < so → fo u = fo v → u = v) (hto : ∀ u, u < so → ∀ y, fo u = some y → t y = some (50, 0)) (hmo1 : ∀ q k, t q = some k → t1 q = some k) (hA2 : G2 A2 = some (al_a E (cap2 L) f2)) (hA2t : t2 A2 = some (60, L)) (hpl : pl ≤ sz + i) (hf2 : ∀ j, j < sz + i + 1 → f2 j = if j < pl then f1 j else if j = pl then some x else f1 (j - 1)) (hgr : cl_gr (G2 x) g) (hold : ∀ q kq, t2 q = some kq → kq.1 ≠ 60 → t1 q = some kq) (hfr : ∀ q kq, t1 q = some kq → q ≠ L → kq ≠ (60, L) → q ≠ x → G2 q = G1 q) : cl_ab E t G L g sz (i + 1) f fo t2 cap2 G2 A2 f2 := by
  obtain ⟨a1, a2, a3, a4, a5, a6, a7⟩ := h
  have hnx : ∀ j, j < sz + i → f1 j ≠ some x := by
    intro j hj z
    rcases a3 j hj with ⟨u, hu, y⟩ | ⟨u, hu, y⟩
    · exact hsep u i hu hi (y.symm.trans (z.trans hx.symm))
    · have := hinj u i (by omega) hi (y.symm.trans (z.trans hx.symm))
      omega
  have hf4 : f2 pl = some x := by rw [hf2 pl (by omega), if_neg (by omega), if_pos rfl]
  have hf3 : ∀ j, j < sz + i + 1 → j ≠ pl → f2 j = f1 (if j < pl then j else j - 1) := by
    intro j hj z
    rw [hf2 j hj]
    by_cases y : j < pl
    · rw [if_pos y, if_pos y]
    · rw [if_neg y, if_neg z, if_neg y]
  refine ⟨hA2, Or.inr hA2t, fun j hj => ?_, fun j j' hj hj' z => ?_, fun u hu y hy => ?_, fun q kq hq hk => a6 q kq (hold q kq hq hk) hk, fun q kq hq hqL hk hn => ?_⟩
  · by_cases z : j = pl
    · rw [z, hf4]
      exact Or.inr ⟨i, by omega, hx.symm⟩
    · rw [hf3 j (by omega) z]
      rcases a3 (if j < pl then j else j - 1) (by split <;> omega) with ⟨u, hu, y⟩ | ⟨u, hu, y⟩
      · exact Or.inl ⟨u, hu, y⟩
      · exact Or.inr ⟨u, by omega, y⟩
  · by_cases w1 : j = pl
    · by_cases w2 : j' = pl
      · omega
      · rw [w1, hf4, hf3 j' (by omega) w2] at z
        exact absurd z.symm (hnx _ (by split <;> omega))
    · by_cases w2 : j' = pl
      · rw [w2, hf4, hf3 j (by omega) w1] at z
        exact absurd z (hnx _ (by split <;> omega))
      · rw [hf3 j (by omega) w1, hf3 j' (by omega) w2] at z
        have y := a4 _ _ (by split <;> omega) (by split <;> omega) z
        split at y <;> split at y <;> omega
  · by_cases z : u = i
    · rw [z, hx] at hy
      cases hy
      exact hgr
    · have hyt := hto u (by omega) y hy
      have nx : y ≠ x := fun w => z (hinj u i (by omega) hi (by rw [hy, hx, w]))
      have nL : y ≠ L := fun w => by rw [w, hLt] at hyt; cases hyt
      rw [hfr y _ (hmo1 _ _ hyt) nL (by simp) nx]
      exact a5 u (by omega) y hy
  · rw [hfr q kq (hmo1 _ _ hq) hqL hk (fun z => hn i (by omega) (by rw [hx, z]))]
    exact a7 q kq hq hqL hk (fun u hu => hn u (by omega))
theorem cl_ab.fin {E : hs_E} {t t1 : cl_t} {cap cap1 X X1 : Nat → Nat} {d L g sz so A1 o Lo Ao : Nat} {G G1 : hs_G} {mc1 mo9 : Int32} {f fo f1 f7 : Nat → Option Nat} (h : cl_ab E t G L g sz so f fo t1 cap1 G1 A1 f1) (hT : cl_T E t cap X d G) (h99 : X 99 = 0) (hF : cl_F t G t1 G1) (hT1 : cl_T E t1 cap1 X1 d G1) (hcap : ∀ q, q ≠ L → cap1 q = cap q) (hg : t g = some (53, 0)) (hGr : G g = some (.inr (2, [.ref L]))) (hLt : t L = some (54, g)) (hsz : sz + so ≤ 6) (hL1 : G1 L = some (al_o mc1 A1 (nI (sz + so)))) (ho : t o = some (53, 0)) (hGo : G o = some (.inr (2, [.ref Lo]))) (hLto : t Lo = some (54, o)) (hgo : g ≠ o) (hfo : ∀ u, u < so → ∃ y : Nat, fo u = some y ∧ t y = some (50, 0) ∧ cl_gr (G y) o) (hfg : ∀ u, u < sz → ∃ y : Nat, f u = some y ∧ t y = some (50, 0) ∧ cl_gr (G y) g) (hLaO : G1 Ao = some (al_a E (cap1 Lo) fo)) (hAAo : (Ao = eE E ∧ cap1 Lo = 0) ∨ (t1 Ao = some (60, Lo) ∧ 0 < cap1 Lo)) (hsc : so ≤ cap1 Lo) (hf7 : so = 0 → f7 = fo) (L' g' : Nat) (hL' : t1 L' = some (54, g')) : cl_D E t1 cap1 (hs_up (hs_up G1 Lo (al_o (mo9 + 1) Ao 0)) Ao (al_a E (cap1 Lo) f7)) L' g' := by
  obtain ⟨a1, a2, a3, a4, a5, a6, a7⟩ := h
  have hEn : t1 (eE E) = none := by
    cases hh : t1 (eE E) with
    | none => rfl
    | some k =>
      have y1 := hT1.sz hh
      have y2 := hT1.2.2.2.1.1
      omega
  have hEL : ∀ q k, t1 q = some k → q ≠ eE E := fun q k hq w => by rw [w, hEn] at hq; cases hq
  have hLoL : Lo ≠ L := fun z => by rw [z, hLt] at hLto; cases hLto; exact hgo rfl
  have hLto1 := hF.1 _ _ hLto
  have hLt1 := hF.1 _ _ hLt
  have hLA : Lo ≠ Ao := fun z => by
    rcases hAAo with y | y
    · exact hEL _ _ hLto1 (z.trans y.1)
    · rw [← z, hLto1] at y
      cases y.1
  have hG2 : ∀ q, q ≠ Lo → t1 q ≠ some (60, Lo) → hs_up (hs_up G1 Lo (al_o (mo9 + 1) Ao 0)) Ao (al_a E (cap1 Lo) f7) q = G1 q := by
    intro q hq hk
    by_cases z : q = Ao
    · subst z
      rcases hAAo with y | y
      · rw [hs_up_eq, hf7 (by omega), hLaO]
      · exact absurd y.1 hk
    · rw [hs_up_ne _ _ z, hs_up_ne _ _ hq]
  have hk50 : ∀ q kq, t q = some kq → kq.1 ≠ 50 → ∀ u, u < so → fo u ≠ some q := by
    intro q kq hq hk u hu z
    obtain ⟨y, y1, y2, -⟩ := hfo u hu
    rw [z] at y1
    cases y1
    rw [hq] at y2
    cases y2
    exact hk rfl
  have hG3 : ∀ q kq, t q = some kq → q ≠ L → q ≠ Lo → kq.1 ≠ 60 → kq.1 ≠ 50 → hs_up (hs_up G1 Lo (al_o (mo9 + 1) Ao 0)) Ao (al_a E (cap1 Lo) f7) q = G q := by
    intro q kq hq h1 h2 h3 h4
    rw [hG2 q h2 (fun z => by rw [hF.1 _ _ hq] at z; cases z; exact h3 rfl)]
    exact a7 q kq hq h1 (fun z => by rw [z] at h3; exact h3 rfl) (hk50 q kq hq h4)
  have nk : ∀ {x y : Nat} {k : Nat × Nat} {k' : Nat × Nat}, t x = some k → t y = some k' → k ≠ k' → x ≠ y := fun hx hy hk z => hk (by rw [z, hy] at hx; cases hx; rfl)
  by_cases e1 : L' = Lo
  · subst e1
    rw [hLto1] at hL'
    cases hL'
    refine ⟨mo9 + 1, Ao, 0, f7, by rw [hs_up_ne _ _ hLA, hs_up_eq]; rfl, hs_up_eq _ _ _, hAAo.imp (fun z => z.1) (fun z => z.1), Nat.zero_le _, fun i j hi => absurd hi (Nat.not_lt_zero _), fun j hj => absurd hj (Nat.not_lt_zero _), hF.1 _ _ ho, ?_⟩
    rw [hG3 o _ ho (nk ho hLt (by simp)) (nk ho hLto (by simp)) (by simp) (by simp)]
    exact hGo
  · by_cases e2 : L' = L
    · subst e2
      rw [hLt1] at hL'
      cases hL'
      refine ⟨mc1, A1, sz + so, f1, ?_, ?_, a2, hsz, a4, fun j hj => ?_, hF.1 _ _ hg, ?_⟩
      · rw [hG2 _ e1 (fun z => by rw [hLt1] at z; cases z)]
        exact hL1
      · rw [hG2 A1 (fun z => ?_) (fun z => ?_)]
        · exact a1
        · rcases a2 with y | y
          · exact hEL _ _ hLto1 (z.symm.trans y)
          · rw [z, hLto1] at y
            cases y
        · rcases a2 with y | y
          · rw [y, hEn] at z
            cases z
          · rw [y] at z
            cases z
            exact hLoL rfl
      · rcases a3 j hj with ⟨u, hu, y⟩ | ⟨u, hu, y⟩
        · obtain ⟨x, x1, x2, x3⟩ := hfg u hu
          refine ⟨x, y.trans x1, hF.1 _ _ x2, ?_⟩
          rw [hG2 x (nk x2 hLto (by simp)) (fun z => by rw [hF.1 _ _ x2] at z; cases z), a7 x _ x2 (nk x2 hLt (by simp)) (by simp) (fun v hv z => ?_)]
          · exact x3
          · obtain ⟨w, w1, -, w3⟩ := hfo v hv
            rw [z] at w1
            cases w1
            exact hgo (x3.uniq w3)
        · obtain ⟨x, x1, x2, -⟩ := hfo u hu
          refine ⟨x, y.trans x1, hF.1 _ _ x2, ?_⟩
          rw [hG2 x (nk x2 hLto (by simp)) (fun z => by rw [hF.1 _ _ x2] at z; cases z)]
          exact a5 u hu x x1
      · rw [hG3 g _ hg (nk hg hLt (by simp)) (nk hg hLto (by simp)) (by simp) (by simp)]
        exact hGr
    · have hL0 := a6 _ _ hL' (by simp)
      have hD := hT.D h99 hL0
      have hgo' : g' ≠ o := fun z => by
        obtain ⟨-, -, -, -, -, -, -, -, -, -, -, d8⟩ := hD
        rw [z, hGo] at d8
        cases d8
        exact e1 rfl
      refine hD.mono hF.1 (hcap _ e2) (hG3 _ _ hL0 e2 e1 (by simp) (by simp)) (fun A hA => ?_) (fun x hx hgx => ?_) (fun hg' => hG3 _ _ hg' (nk hg' hLt (by simp)) (nk hg' hLto (by simp)) (by simp) (by simp))
      · rcases hA with rfl | hA
        · rw [hG2 _ (fun z => hEL _ _ hLto1 z.symm) (by rw [hEn]; exact fun z => nomatch z)]
          exact hF.2.1 _ hEn
        · rw [hG2 A (nk hA hLto (by simp)) (fun z => by rw [hF.1 _ _ hA] at z; cases z; exact e1 rfl)]
          exact a7 A _ hA (nk hA hLt (by simp)) (fun z => by cases z; exact e2 rfl) (hk50 A _ hA (by simp))
      · rw [hG2 x (nk hx hLto (by simp)) (fun z => by rw [hF.1 _ _ hx] at z; cases z), a7 x _ hx (nk hx hLt (by simp)) (by simp) (fun v hv z => ?_)]
        · exact hgx
        · obtain ⟨w, w1, -, w3⟩ := hfo v hv
          rw [z] at w1
          cases w1
          exact hgo' (hgx.uniq w3)
/-- the first trade of a new group's list, that stood in none -/
theorem cl_mt {E : hs_E} {t t1 : cl_t} {cap cap1 X : Nat → Nat} {d L g A1 a i : Nat} {G G1 : hs_G} {mc1 : Int32} {f f2 : Nat → Option Nat} (hT : cl_T E t cap X d G) (h99 : X 99 = 0) (hF : cl_F t G t1 G1) (hT1 : (eE E) < (eH E).size ∧ ∀ q k, t1 q = some k → (eH E).size ≤ q) (hold : ∀ q kq, t1 q = some kq → kq.1 ≠ 60 → t q = some kq) (hcap : ∀ q, q ≠ L → cap1 q = cap q) (hg : t g = some (53, 0)) (hGr : G g = some (.inr (2, [.ref L]))) (hLt : t L = some (54, g)) (hL1 : G1 L = some (al_o mc1 A1 (nI (0 + 1)))) (hA1 : G1 A1 = some (al_a E (cap1 L) f2)) (hA1t : t1 A1 = some (60, L)) (hi : i ≤ 0) (hf2 : ∀ j, j < 0 + 1 → f2 j = if j < i then f j else if j = i then some a else f (j - 1)) (hgr : cl_gr (G1 a) g) (hno : ∀ g', ¬ cl_gr (G a) g') (ha : t a = some (50, 0)) (hfr : ∀ q kq, t q = some kq → q ≠ L → kq ≠ (60, L) → q ≠ a → G1 q = G q) (L' g' : Nat) (hL' : t1 L' = some (54, g')) : cl_D E t1 cap1 G1 L' g' := by
  have nk : ∀ {x y : Nat} {k : Nat × Nat} {k' : Nat × Nat}, t x = some k → t y = some k' → k ≠ k' → x ≠ y := fun hx hy hk z => hk (by rw [z, hy] at hx; cases hx; rfl)
  by_cases e2 : L' = L
  · subst e2
    rw [hF.1 _ _ hLt] at hL'
    cases hL'
    refine ⟨mc1, A1, 0 + 1, f2, hL1, hA1, Or.inr hA1t, by omega, fun i j hi hj _ => by omega, fun j hj => ⟨a, ?_, hF.1 _ _ ha, hgr⟩, hF.1 _ _ hg, ?_⟩
    · rw [hf2 j hj, if_neg (by omega), if_pos (by omega)]
    · rw [hfr g _ hg (nk hg hLt (by simp)) (by simp) (nk hg ha (by simp))]
      exact hGr
  · have hL0 := hold _ _ hL' (by simp)
    refine (hT.D h99 hL0).mono hF.1 (hcap _ e2) (hfr _ _ hL0 e2 (by simp) (nk hL0 ha (by simp))) (fun A hA => ?_) (fun x hx hgx => ?_) (fun hg' => hfr _ _ hg' (nk hg' hLt (by simp)) (by simp) (nk hg' ha (by simp)))
    · rcases hA with rfl | hA
      · refine hF.2.1 _ ?_
        cases hh : t1 (eE E) with
        | none => rfl
        | some k =>
          have y1 := hT1.2 _ _ hh
          omega
      · exact hfr A _ hA (nk hA hLt (by simp)) (fun z => by cases z; exact e2 rfl) (nk hA ha (by simp))
    · rw [hfr x _ hx (nk hx hLt (by simp)) (by simp) (fun z => hno g' (by rw [← z]; exact hgx))]
      exact hgx
