/-! a new thing of the class -/
theorem cl_T.new {E : hs_E} {t : cl_t} {cap X : Nat → Nat} {d q : Nat} {G : hs_G} {k : Nat × Nat} {x : va_E} (h : cl_T E t cap X d G) (hq : G q = none) (hs : (eH E).size ≤ q) (hk : 40 ≤ k.1 ∧ k.1 ≠ 60) (hx : cl_c E (va_up t q (some k)) X d q k.1 (some x)) (hl : k.1 = 54 → cl_L E (va_up t q (some k)) (va_up cap q 0) (hs_up G q x) q 6 50) (hbx : k.1 = 50 → cl_b (some x) ∧ cl_u (some x)) (hDx : X 99 = 0 → k.1 = 54 → cl_D E (va_up t q (some k)) (va_up cap q 0) (hs_up G q x) q k.2) : cl_T E (va_up t q (some k)) (va_up cap q 0) X d (hs_up G q x) ∧ cl_F t G (va_up t q (some k)) (hs_up G q x) := by
  have hn := h.fresh hq
  obtain ⟨i1, i2, i3, i4, i5⟩ := h
  have hmo : ∀ a ka, t a = some ka → va_up t q (some k) a = some ka := by
    intro a ka ha
    have : a ≠ q := fun z => by rw [z, hn] at ha; cases ha
    rw [va_up_ne _ _ this]
    exact ha
  refine ⟨⟨fun b kb hb => ?_, fun j hj => hmo _ _ (i2 j hj), fun a ka ha hka => ?_, i4.up hs, i5.1, fun b kb hb => ?_⟩, hmo, fun b hb => ?_, fun b kb hb => ?_⟩
  · by_cases e : b = q
    · subst e
      rw [va_up_self] at hb
      cases hb
      exact ⟨hs, by rw [hs_up_eq]; exact hx, ⟨fun z => absurd z (by omega), fun z => absurd z (by omega), hl⟩, fun z => by rw [hs_up_eq]; exact hbx z, hDx⟩
    · rw [va_up_ne _ _ e] at hb
      obtain ⟨q1, q2, q3, q4⟩ := i1 b kb hb
      have hA9 : ∀ A, (A = eE E ∨ t A = some (60, b)) → hs_up G q x A = G A := fun A hA => hs_up_ne _ _ (fun z => by
        subst z
        rcases hA with z | z
        · have := i4.1
          omega
        · rw [hn] at z
          cases z)
      refine ⟨q1, by rw [hs_up_ne _ _ e]; exact q2.mono hmo, q3.mono hmo (va_up_ne _ _ e) (hs_up_ne _ _ e) hA9, q4.mono hmo id (va_up_ne _ _ e) (hs_up_ne _ _ e) hA9 (fun _ y g hy hgy => ?_) (fun g hg => hs_up_ne _ _ (fun z => by rw [z, hn] at hg; cases hg))⟩
      rw [hs_up_ne _ _ (fun z => by rw [z, hn] at hy; cases hy)]
      exact hgy
  · by_cases e : a = q
    · subst e
      rw [va_up_self] at ha
      cases ha
      omega
    · rw [va_up_ne _ _ e] at ha
      exact i3 a ka ha hka
  · by_cases e : b = q
    · subst e
      rw [hs_up_eq]
      exact fun z => nomatch z
    · rw [va_up_ne _ _ e] at hb
      exact hs_up_nn (i5.2 b kb hb)
  · exact hs_up_ne _ _ (fun z => by rw [z, va_up_self] at hb; cases hb)
  · by_cases e : b = q
    · subst e
      exact Or.inr hq
    · rw [va_up_ne _ _ e] at hb
      exact Or.inl hb
theorem cl_T.nS {E : hs_E} {t : cl_t} {cap X : Nat → Nat} {d q : Nat} {G : hs_G} (h : cl_T E t cap X d G) (hq : G q = none) (hs : (eH E).size ≤ q) (u v : Int32) : cl_T E (va_up t q (some (52, 0))) (va_up cap q 0) X d (hs_up G q (.inr (4, [.int u, .int v]))) ∧ cl_F t G (va_up t q (some (52, 0))) (hs_up G q (.inr (4, [.int u, .int v]))) :=
  h.new hq hs (by simp) ⟨cl_no (by simp), cl_no (by simp), cl_no (by simp), cl_no (by simp), cl_no (by simp), fun z => absurd z (by simp), cl_no (by simp), cl_no (by simp), cl_no (by simp), cl_no (by simp), fun _ => ⟨u, v, rfl⟩, cl_no (by simp)⟩ (fun z => absurd z (by simp)) (fun z => absurd z (by simp)) (fun _ z => absurd z (by simp))
theorem cl_T.nE {E : hs_E} {t : cl_t} {cap X : Nat → Nat} {d q : Nat} {G : hs_G} (h : cl_T E t cap X d G) (hq : G q = none) (hs : (eH E).size ≤ q) {de re se : Nat} {qu am : Int32} {dy lg : Nat} (h1 : de < 16) (h2 : re < 16) (h3 : se < 8) (h4 : dy ≤ 20000) (h5 : lg ≤ 10) (h6 : de ≠ re ∧ 0 ≤ qu.toInt ∧ qu.toInt ≤ 1000000 ∧ 0 ≤ am.toInt ∧ am.toInt ≤ 1000000000) : cl_T E (va_up t q (some (51, 0))) (va_up cap q 0) X d (hs_up G q (cl_te de re se qu am dy lg)) ∧ cl_F t G (va_up t q (some (51, 0))) (hs_up G q (cl_te de re se qu am dy lg)) :=
  h.new hq hs (by simp) ⟨cl_no (by simp), cl_no (by simp), cl_no (by simp), cl_no (by simp), cl_no (by simp), fun z => absurd z (by simp), cl_no (by simp), cl_no (by simp), cl_no (by simp), fun _ => ⟨de, re, se, qu, am, dy, lg, rfl, h1, h2, h3, h4, h5, h6⟩, cl_no (by simp), cl_no (by simp)⟩ (fun z => absurd z (by simp)) (fun z => absurd z (by simp)) (fun _ z => absurd z (by simp))
theorem cl_T.nT {E : hs_E} {t : cl_t} {cap X : Nat → Nat} {d q : Nat} {G : hs_G} (h : cl_T E t cap X d G) (hq : G q = none) (hs : (eH E).size ≤ q) {nu te : Int32} {t1 s1 s2 : Nat} {st du ql am fa pr ip : Int32} (h1 : t t1 = some (51, 0)) (h2 : t s1 = some (52, 0)) (h3 : t s2 = some (52, 0)) (hb9 : 0 ≤ ql.toInt ∧ ql.toInt ≤ 1000000 ∧ 0 ≤ am.toInt ∧ am.toInt ≤ 1000000000) : cl_T E (va_up t q (some (50, 0))) (va_up cap q 0) X d (hs_up G q (cl_tr nu te t1 s1 s2 st du ql am fa pr ip .null)) ∧ cl_F t G (va_up t q (some (50, 0))) (hs_up G q (cl_tr nu te t1 s1 s2 st du ql am fa pr ip .null)) := by
  have hn := h.fresh hq
  have hmo : ∀ a ka, t a = some ka → va_up t q (some (50, 0)) a = some ka := by
    intro a ka ha
    have : a ≠ q := fun z => by rw [z, hn] at ha; cases ha
    rw [va_up_ne _ _ this]
    exact ha
  exact h.new hq hs (by simp) ⟨cl_no (by simp), cl_no (by simp), cl_no (by simp), cl_no (by simp), cl_no (by simp), fun z => absurd z (by simp), cl_no (by simp), cl_no (by simp), fun _ => ⟨nu, te, t1, s1, s2, st, du, ql, am, fa, pr, ip, .null, rfl, hmo _ _ h1, hmo _ _ h2, hmo _ _ h3, Or.inl rfl⟩, cl_no (by simp), cl_no (by simp), cl_no (by simp)⟩ (fun z => absurd z (by simp)) (fun _ => ⟨fun nu' te' t1' s1' s2' st' du' ql' am' fa' pr' ip' g' e => by cases e; exact hb9, fun nu' te' t1' s1' s2' st' du' ql' am' fa' pr' ip' g' e => by cases e; exact fun _ => rfl⟩) (fun _ z => absurd z (by simp))
/-- a group's list, and the group -/
theorem cl_T.nG {E : hs_E} {t : cl_t} {cap X : Nat → Nat} {d q L : Nat} {G : hs_G} (h : cl_T E t cap X d G) (hL : G L = none) (hLs : (eH E).size ≤ L) (hq : G q = none) (hs : (eH E).size ≤ q) (hqL : q ≠ L) (mc : Int32) : ∃ t' cap', cl_T E t' cap' X d (hs_up (hs_up G L (al_o mc (eE E) (nI 0))) q (.inr (2, [.ref L]))) ∧ cl_F t G t' (hs_up (hs_up G L (al_o mc (eE E) (nI 0))) q (.inr (2, [.ref L]))) ∧ t' q = some (53, 0) ∧ t' L = some (54, q) ∧ ∀ a, a ≠ L → a ≠ q → cap' a = cap a := by
  have hon := h
  replace h := h.off
  obtain ⟨f0, hf0⟩ := h.2.2.2.1.2.2.1
  have hLE : eE E ≠ L := by have := h.2.2.2.1.1; omega
  have h1 := h.new (k := (54, q)) (x := al_o mc (eE E) (nI 0)) hL hLs (by simp) (cl_c.no (Or.inr (Or.inr (Or.inl rfl)))) (fun _ => ⟨mc, eE E, 0, f0, hs_up_eq _ _ _, by rw [hs_up_ne _ _ hLE, va_up_self]; exact hf0, Nat.zero_le _, Nat.zero_le _, by rw [va_up_self]; omega, fun j hj => absurd hj (Nat.not_lt_zero _), Or.inl ⟨rfl, va_up_self _ _ _⟩⟩) (fun z => absurd z (by simp)) (fun z => absurd z (by rw [va_up_self]; decide))
  have h2 := h1.1.new (q := q) (k := (53, 0)) (x := .inr (2, [.ref L])) (by rw [hs_up_ne _ _ hqL]; exact hq) hs (by simp) ⟨cl_no (by simp), cl_no (by simp), cl_no (by simp), cl_no (by simp), cl_no (by simp), fun z => absurd z (by simp), cl_no (by simp), cl_no (by simp), cl_no (by simp), cl_no (by simp), cl_no (by simp), fun _ => ⟨L, rfl, by rw [va_up_ne _ _ hqL.symm, va_up_self]⟩⟩ (fun z => absurd z (by simp)) (fun z => absurd z (by simp)) (fun _ z => absurd z (by simp))
  have hfin : cl_T E (va_up (va_up t L (some (54, q))) q (some (53, 0))) (va_up (va_up cap L 0) q 0) X d (hs_up (hs_up G L (al_o mc (eE E) (nI 0))) q (.inr (2, [.ref L]))) := by
    refine h2.1.on (fun z L' g' hL' => ?_)
    have hF := h1.2.tr h2.2
    by_cases e : L' = L
    · subst e
      rw [va_up_ne _ _ hqL.symm, va_up_self] at hL'
      cases hL'
      exact ⟨mc, eE E, 0, f0, by rw [hs_up_ne _ _ hqL.symm, hs_up_eq], by rw [hs_up_ne _ _ (by have := h.2.2.2.1.1; omega), hs_up_ne _ _ hLE, va_up_ne _ _ hqL.symm, va_up_self]; exact hf0, Or.inl rfl, Nat.zero_le _, fun i j hi => absurd hi (Nat.not_lt_zero _), fun j hj => absurd hj (Nat.not_lt_zero _), va_up_self _ _ _, hs_up_eq _ _ _⟩
    · have n1 : L' ≠ q := fun w => by rw [w, va_up_self] at hL'; cases hL'
      rw [va_up_ne _ _ n1, va_up_ne _ _ e] at hL'
      have nq : ∀ x k, t x = some k → x ≠ L ∧ x ≠ q := fun x k hx => ⟨(fun w => by rw [w, h.fresh hL] at hx; cases hx), (fun w => by rw [w, h.fresh hq] at hx; cases hx)⟩
      have keep : ∀ x k, t x = some k → hs_up (hs_up G L (al_o mc (eE E) (nI 0))) q (.inr (2, [.ref L])) x = G x := fun x k hx => by rw [hs_up_ne _ _ (nq x k hx).2, hs_up_ne _ _ (nq x k hx).1]
      refine (hon.D z hL').mono hF.1 (by rw [va_up_ne _ _ n1, va_up_ne _ _ e]) (keep _ _ hL') (fun A hA => ?_) (fun x hx hg => by rw [keep _ _ hx]; exact hg) (fun hg => keep _ _ hg)
      rcases hA with rfl | hA
      · rw [hs_up_ne _ _ (by have := h.2.2.2.1.1; omega), hs_up_ne _ _ hLE]
      · exact keep _ _ hA
  exact ⟨_, _, hfin, h1.2.tr h2.2, va_up_self _ _ _, by rw [va_up_ne _ _ hqL.symm, va_up_self], fun a z1 z2 => by rw [va_up_ne _ _ z2, va_up_ne _ _ z1]⟩
/-- behind an add to a list of the class -/
theorem cl_T.add2 {E : hs_E} {t : cl_t} {cap X : Nat → Nat} {d L k o mx el A sz x i k1 n1 : Nat} {G G1 : hs_G} {mc mc2 : Int32} {f : Nat → Option Nat} (h : cl_T E t cap X d G) (hL : t L = some (k, o)) (hk : (k = 8 ∧ mx = 150 ∧ el = 50) ∨ (k = 9 ∧ mx = 150 ∧ el = 53) ∨ (k = 54 ∧ mx = 6 ∧ el = 50)) (hLa : G A = some (al_a E (cap L) f)) (hLo : G L = some (al_o mc A (nI sz))) (hAA : (A = eE E ∧ cap L = 0) ∨ (t A = some (60, L) ∧ 0 < cap L)) (hcp : cap L ≤ 223) (hs : sz < mx) (hi : i ≤ sz) (hel : ∀ j, j < sz → ∃ x : Nat, f j = some x ∧ t x = some (el, 0)) (hx : t x = some (el, 0)) (hoff : k = 54 → X 99 ≠ 0) (hP : al_P E G L A (cap L) sz f i x mc2 G1 k1 n1) :
    ∃ (A1 c1 : Nat), cl_T E (va_up t A1 (some (60, L))) (va_up cap L c1) X d G1 ∧ cl_F t G (va_up t A1 (some (60, L))) G1 ∧ G1 L = some (al_o mc2 A1 (nI (sz + 1))) ∧ cap L ≤ c1 ∧ k1 ≤ c1 - cap L ∧ n1 ≤ 4 * (c1 - cap L) ∧ k1 ≤ 1 ∧ n1 ≤ 230 ∧ (∀ q kq, t q = some kq → q ≠ L → kq ≠ (60, L) → G1 q = G q) ∧ (t A1 = some (60, L) ∨ t A1 = none) ∧ ∃ f2 : Nat → Option Nat, G1 A1 = some (al_a E c1 f2) ∧ ∀ j, j < sz + 1 → f2 j = (if j < i then f j else if j = i then some x else f (j - 1)) := by
  obtain ⟨A1, c1, f2, f1, hN, rfl, hf2⟩ := hP
  have hm : mx ≤ 150 := by rcases hk with z | z | z <;> omega
  have hfr : t A1 = some (60, L) ∨ (G A1 = none ∧ t A1 = none ∧ (eH E).size ≤ A1) := by
    rcases hN.2.2.2.2 with ⟨z1, z2, -⟩ | ⟨z1, -⟩
    · refine Or.inl ?_
      rcases hAA with w | w
      · exfalso
        have := hN.2.1
        omega
      · rw [z1]
        exact w.1
    · exact Or.inr ⟨z1, h.fresh z1, hN.2.2.2.1⟩
  have hc1 : c1 ≤ 223 ∧ cap L ≤ c1 ∧ k1 ≤ c1 - cap L ∧ n1 ≤ 4 * (c1 - cap L) ∧ k1 ≤ 1 ∧ n1 ≤ 230 := by
    have hb := hN.2.2.1
    rcases hN.2.2.2.2 with ⟨-, z2, z3, z4⟩ | ⟨-, z2, z3, z4, z5⟩
    · omega
    · have y1 := al_cap_b (c := cap L) (by omega)
      have y2 := al_cap_lt (c := cap L) (by omega)
      rw [← z3] at y1 y2
      omega
  have hL0 := h.list (mc := mc2) (f := f2) (sz := sz + 1) (c1 := c1) hL hk hfr (by have := hN.2.1; omega) (by omega) hc1.1 (by have := hN.2.1; omega) (fun j hj => by
    rw [hf2 j hj]
    by_cases z1 : j < i
    · rw [if_pos z1]
      exact hel j (by omega)
    · rw [if_neg z1]
      by_cases z2 : j = i
      · rw [if_pos z2]
        exact ⟨x, rfl, hx⟩
      · rw [if_neg z2]
        exact hel (j - 1) (by omega)) (fun z y => absurd z (hoff y))
  have hA1L : A1 ≠ L := by
    intro z
    rcases hfr with w | w
    · rw [z, hL] at w
      rcases hk with v | v | v <;> (rw [v.1] at w; cases w)
    · rw [z, hL] at w
      exact nomatch w.2.1
  refine ⟨A1, c1, hL0.1, hL0.2, hs_up_eq _ _ _, hc1.2.1, hc1.2.2.1, hc1.2.2.2.1, hc1.2.2.2.2.1, hc1.2.2.2.2.2, fun q kq hq hqL h60 => ?_, hfr.imp id (fun z => z.2.1), f2, by rw [hs_up_ne _ _ hA1L, hs_up_eq], hf2⟩
  have hqA : q ≠ A1 := by
    rintro rfl
    rcases hfr with z | z
    · rw [z] at hq
      cases hq
      exact h60 rfl
    · rw [z.2.1] at hq
      cases hq
  rw [hs_up_ne _ _ hqL, hs_up_ne _ _ hqA]
theorem cl_T.add {E : hs_E} {t : cl_t} {cap X : Nat → Nat} {d L k o mx el A sz x i k1 n1 : Nat} {G G1 : hs_G} {mc mc2 : Int32} {f : Nat → Option Nat} (h : cl_T E t cap X d G) (hL : t L = some (k, o)) (hk : (k = 8 ∧ mx = 150 ∧ el = 50) ∨ (k = 9 ∧ mx = 150 ∧ el = 53) ∨ (k = 54 ∧ mx = 6 ∧ el = 50)) (hLa : G A = some (al_a E (cap L) f)) (hLo : G L = some (al_o mc A (nI sz))) (hAA : (A = eE E ∧ cap L = 0) ∨ (t A = some (60, L) ∧ 0 < cap L)) (hcp : cap L ≤ 223) (hs : sz < mx) (hi : i ≤ sz) (hel : ∀ j, j < sz → ∃ x : Nat, f j = some x ∧ t x = some (el, 0)) (hx : t x = some (el, 0)) (hoff : k = 54 → X 99 ≠ 0) (hP : al_P E G L A (cap L) sz f i x mc2 G1 k1 n1) :
    ∃ (A1 c1 : Nat), cl_T E (va_up t A1 (some (60, L))) (va_up cap L c1) X d G1 ∧ cl_F t G (va_up t A1 (some (60, L))) G1 ∧ G1 L = some (al_o mc2 A1 (nI (sz + 1))) ∧ cap L ≤ c1 ∧ k1 ≤ c1 - cap L ∧ n1 ≤ 4 * (c1 - cap L) ∧ k1 ≤ 1 ∧ n1 ≤ 230 ∧ ∀ q kq, t q = some kq → q ≠ L → kq ≠ (60, L) → G1 q = G q := by
  obtain ⟨A1, c1, r1, r2, r3, r4, r5, r6, r7, r8, r9, -⟩ := h.add2 hL hk hLa hLo hAA hcp hs hi hel hx hoff hP
  exact ⟨A1, c1, r1, r2, r3, r4, r5, r6, r7, r8, r9⟩
