/-! THE CLASS'S HEAP, typed: t says what kind of thing lies where (kind, owner); cap the length of a list's array; X where the single ones are:
0 the house, 1 its days, 2 their bits, 3 the vault, 4 its rows, 5 what was funded, 6 the journal, 7 its cells, 8 the trades, 9 the ready groups, 20 + i a row of the vault; 50 a trade, 51 terms, 52 a side, 53 a group, 54 a group's list, 60 a list's array -/
abbrev cl_t : Type := Nat → Option (Nat × Nat)
abbrev eE (E : hs_E) : Nat := E.2.2.2.2.2.2
abbrev eM (E : hs_E) : Nat := E.2.2.2.2.2.1
abbrev cl_tr (nu te : Int32) (t1 s1 s2 : Nat) (st du ql am fa pr ip : Int32) (g : Value) : va_E := .inr (6, [.int nu, .int te, .ref t1, .ref s1, .ref s2, .int st, .int du, .int ql, .int am, .int fa, .int pr, .int ip, g])
abbrev cl_te (de re se : Nat) (q am : Int32) (dy lg : Nat) : va_E := .inr (5, [.int (nI de), .int (nI re), .int (nI se), .int q, .int am, .int (nI dy), .int (nI lg)])
def cl_g (t : cl_t) (g : Value) : Prop := g = .null ∨ ∃ y : Nat, g = .ref y ∧ t y = some (53, 0)
def cl_50 (t : cl_t) (x : Option va_E) : Prop := ∃ (nu te : Int32) (t1 s1 s2 : Nat) (st du ql am fa pr ip : Int32) (g : Value), x = some (cl_tr nu te t1 s1 s2 st du ql am fa pr ip g) ∧ t t1 = some (51, 0) ∧ t s1 = some (52, 0) ∧ t s2 = some (52, 0) ∧ cl_g t g
def cl_51 (x : Option va_E) : Prop := ∃ (de re se : Nat) (q am : Int32) (dy lg : Nat), x = some (cl_te de re se q am dy lg) ∧ de < 16 ∧ re < 16 ∧ se < 8 ∧ dy ≤ 20000 ∧ lg ≤ 10 ∧ (de ≠ re ∧ 0 ≤ q.toInt ∧ q.toInt ≤ 1000000 ∧ 0 ≤ am.toInt ∧ am.toInt ≤ 1000000000)
def cl_c (E : hs_E) (t : cl_t) (X : Nat → Nat) (d a : Nat) (k : Nat) (x : Option va_E) : Prop :=
  (k = 0 → x = some (.inr (8, [.ref (X 1), .ref (X 3), .ref (X 6), .ref (X 8), .ref (X 9)]))) ∧
  (k = 1 → x = some (.inr (1, [.ref (X 2), .int (nI d)]))) ∧
  (k = 2 → x = some (.inl (eA E 0, 626, .inl (fun i => nI (X (100 + 2 * i)))))) ∧
  (k = 3 → x = some (.inr (7, [.ref (X 4), .ref (X 5)]))) ∧
  (k = 4 → x = some (hs_ra (eA E 3) 16 (fun i => if i < 16 then some (X (20 + i)) else none))) ∧
  ((k = 5 ∨ (20 ≤ k ∧ k < 36)) → x = some (.inl (eA E 1, 9, .inr (.inl (fun i => lN (X (101 + 2 * (64 * i + k)))))))) ∧
  (k = 6 → ∃ r : Nat, r ≤ 1500 ∧ x = some (.inr (3, [.ref (X 7), .int (nI r)]))) ∧
  (k = 7 → ∃ f : Nat → Int32, x = some (.inl (eA E 0, 6000, .inl f))) ∧
  (k = 50 → cl_50 t x) ∧ (k = 51 → cl_51 x) ∧
  (k = 52 → ∃ u v : Int32, x = some (.inr (4, [.int u, .int v]))) ∧
  (k = 53 → ∃ L : Nat, x = some (.inr (2, [.ref L])) ∧ t L = some (54, a))
/-- a list of at most mx things of the kind el -/
def cl_L (E : hs_E) (t : cl_t) (cap : Nat → Nat) (G : hs_G) (L mx el : Nat) : Prop := ∃ (mc : Int32) (A sz : Nat) (f : Nat → Option Nat), G L = some (al_o mc A (nI sz)) ∧ G A = some (al_a E (cap L) f) ∧ sz ≤ cap L ∧ sz ≤ mx ∧ cap L ≤ 223 ∧ (∀ j, j < sz → ∃ x : Nat, f j = some x ∧ t x = some (el, 0)) ∧ ((A = eE E ∧ cap L = 0) ∨ (t A = some (60, L) ∧ 0 < cap L))
def cl_l (E : hs_E) (t : cl_t) (cap : Nat → Nat) (G : hs_G) (a k : Nat) : Prop := (k = 8 → cl_L E t cap G a 150 50) ∧ (k = 9 → cl_L E t cap G a 150 53) ∧ (k = 54 → cl_L E t cap G a 6 50)
/-- what is left of a trade is in its range -/
def cl_b (x : Option va_E) : Prop := ∀ (nu te : Int32) (t1 s1 s2 : Nat) (st du ql am fa pr ip : Int32) (g : Value), x = some (cl_tr nu te t1 s1 s2 st du ql am fa pr ip g) → 0 ≤ ql.toInt ∧ ql.toInt ≤ 1000000 ∧ 0 ≤ am.toInt ∧ am.toInt ≤ 1000000000
/-- what was told once stands in no group -/
def cl_u (x : Option va_E) : Prop := ∀ (nu te : Int32) (t1 s1 s2 : Nat) (st du ql am fa pr ip : Int32) (g : Value), x = some (cl_tr nu te t1 s1 s2 st du ql am fa pr ip g) → st = 0 → g = .null
/-- a trade that stands in the group g -/
def cl_gr (x : Option va_E) (g : Nat) : Prop := ∃ (nu te : Int32) (t1 s1 s2 : Nat) (st du ql am fa pr ip : Int32), x = some (cl_tr nu te t1 s1 s2 st du ql am fa pr ip (.ref g))
/-- the list L of the group g: each of its trades once, and each names the group -/
def cl_D (E : hs_E) (t : cl_t) (cap : Nat → Nat) (G : hs_G) (L g : Nat) : Prop := ∃ (mc : Int32) (A sz : Nat) (f : Nat → Option Nat), G L = some (al_o mc A (nI sz)) ∧ G A = some (al_a E (cap L) f) ∧ (A = eE E ∨ t A = some (60, L)) ∧ sz ≤ 6 ∧ (∀ i j, i < sz → j < sz → f i = f j → i = j) ∧ (∀ j, j < sz → ∃ x : Nat, f j = some x ∧ t x = some (50, 0) ∧ cl_gr (G x) g) ∧ t g = some (53, 0) ∧ G g = some (.inr (2, [.ref L]))
/-- trades' ranges; groups' lists, unless X 99 says that one is being changed -/
def cl_q (E : hs_E) (t : cl_t) (cap X : Nat → Nat) (G : hs_G) (a : Nat) (k : Nat × Nat) : Prop := (k.1 = 50 → cl_b (G a) ∧ cl_u (G a)) ∧ (X 99 = 0 → k.1 = 54 → cl_D E t cap G a k.2)
theorem cl_D.mono {E : hs_E} {t t' : cl_t} {cap cap' : Nat → Nat} {G G' : hs_G} {L g : Nat} (ht : ∀ q k, t q = some k → t' q = some k) (hc : cap' L = cap L) (hL : G' L = G L) (hA : ∀ A, (A = eE E ∨ t A = some (60, L)) → G' A = G A) (hg : ∀ x, t x = some (50, 0) → cl_gr (G x) g → cl_gr (G' x) g) (ho : t g = some (53, 0) → G' g = G g) (h : cl_D E t cap G L g) : cl_D E t' cap' G' L g := by
  obtain ⟨mc, A, sz, f, h1, h2, h3, h4, h5, h6, h7, h8⟩ := h
  refine ⟨mc, A, sz, f, by rw [hL]; exact h1, by rw [hc, hA A h3]; exact h2, h3.imp id (ht _ _), h4, h5, fun j hj => ?_, ht _ _ h7, by rw [ho h7]; exact h8⟩
  obtain ⟨x, q1, q2, q3⟩ := h6 j hj
  exact ⟨x, q1, ht _ _ q2, hg x q2 q3⟩
theorem cl_q.mono {E : hs_E} {t t' : cl_t} {cap cap' X X' : Nat → Nat} {G G' : hs_G} {a : Nat} {k : Nat × Nat} (ht : ∀ q k, t q = some k → t' q = some k) (hX : X' 99 = 0 → X 99 = 0) (hc : cap' a = cap a) (hL : G' a = G a) (hA : ∀ A, (A = eE E ∨ t A = some (60, a)) → G' A = G A) (hg : X 99 = 0 → ∀ x g, t x = some (50, 0) → cl_gr (G x) g → cl_gr (G' x) g) (ho : ∀ g, t g = some (53, 0) → G' g = G g) (h : cl_q E t cap X G a k) : cl_q E t' cap' X' G' a k :=
  ⟨fun e => by rw [hL]; exact h.1 e, fun e z => (h.2 (hX e) z).mono ht hc hL hA (fun x => hg (hX e) x _) (ho _)⟩
theorem cl_q.no {E : hs_E} {t : cl_t} {cap X : Nat → Nat} {G : hs_G} {a : Nat} {k : Nat × Nat} (h : k.1 ≠ 50 ∧ k.1 ≠ 54) : cl_q E t cap X G a k := ⟨fun e => absurd e h.1, fun _ e => absurd e h.2⟩
def cl_ml (m : Nat) : Nat := if m = 1 then 28 else if m = 3 ∨ m = 5 ∨ m = 8 ∨ m = 10 then 30 else 31
def cl_S (E : hs_E) (G : hs_G) : Prop := eE E < (eH E).size ∧ eM E < (eH E).size ∧ (∃ f, G (eE E) = some (al_a E 0 f)) ∧ ∃ f : Nat → Int32, G (eM E) = some (.inl ((eD E).1 78, 12, .inl f)) ∧ ∀ m, m < 12 → f m = nI (cl_ml m)
def cl_T (E : hs_E) (t : cl_t) (cap X : Nat → Nat) (d : Nat) (G : hs_G) : Prop :=
  (∀ a k, t a = some k → (eH E).size ≤ a ∧ cl_c E t X d a k.1 (G a) ∧ cl_l E t cap G a k.1 ∧ cl_q E t cap X G a k) ∧ (∀ k, (k < 10 ∨ (20 ≤ k ∧ k < 36)) → t (X k) = some (k, 0)) ∧ (∀ a k, t a = some k → k.1 < 40 → a = X k.1) ∧ cl_S E G ∧ d ≤ 20000 ∧ ∀ a k, t a = some k → G a ≠ none
/-- what a method of the class leaves alone -/
def cl_F (t : cl_t) (G : hs_G) (t' : cl_t) (G' : hs_G) : Prop := (∀ q k, t q = some k → t' q = some k) ∧ (∀ q, t' q = none → G' q = G q) ∧ ∀ q k, t' q = some k → t q = some k ∨ G q = none
theorem cl_F.rf {t : cl_t} {G : hs_G} : cl_F t G t G := ⟨fun _ _ h => h, fun _ _ => rfl, fun _ _ h => Or.inl h⟩
theorem cl_F.tr {t t1 t2 : cl_t} {G G1 G2 : hs_G} (h : cl_F t G t1 G1) (h2 : cl_F t1 G1 t2 G2) : cl_F t G t2 G2 := by
  refine ⟨fun q k hq => h2.1 q k (h.1 q k hq), fun q hq => ?_, fun q k hq => ?_⟩
  · have e1 : t1 q = none := by
      cases hh : t1 q with
      | none => rfl
      | some k => rw [h2.1 q k hh] at hq; cases hq
    rw [h2.2.1 q hq, h.2.1 q e1]
  · rcases h2.2.2 q k hq with z | z
    · exact h.2.2 q k z
    · cases hh : t1 q with
      | none => exact Or.inr (by rw [← h.2.1 q hh]; exact z)
      | some k' =>
        have e := h2.1 q k' hh
        rw [hq] at e
        cases e
        exact h.2.2 q _ hh
theorem cl_F.put {t : cl_t} {G : hs_G} {a : Nat} {x : va_E} {k : Nat × Nat} (h : t a = some k) : cl_F t G t (hs_up G a x) := by
  refine ⟨fun _ _ h => h, fun q hq => hs_up_ne _ _ (fun z => ?_), fun _ _ h => Or.inl h⟩
  rw [z, h] at hq
  cases hq
theorem cl_g.mono {t t' : cl_t} {g : Value} (ht : ∀ q k, t q = some k → t' q = some k) (h : cl_g t g) : cl_g t' g := h.imp id fun ⟨y, h1, h2⟩ => ⟨y, h1, ht _ _ h2⟩
theorem cl_c.mono {E : hs_E} {t t' : cl_t} {X : Nat → Nat} {d a k : Nat} {x : Option va_E} (ht : ∀ q k, t q = some k → t' q = some k) (h : cl_c E t X d a k x) : cl_c E t' X d a k x := by
  obtain ⟨h0, h1, h2, h3, h4, h5, h6, h7, h50, h51, h52, h53⟩ := h
  refine ⟨h0, h1, h2, h3, h4, h5, h6, h7, fun e => ?_, h51, h52, fun e => ?_⟩
  · obtain ⟨nu, te, t1, s1, s2, st, du, ql, am, fa, pr, ip, g, q1, q2, q3, q4, q5⟩ := h50 e
    exact ⟨nu, te, t1, s1, s2, st, du, ql, am, fa, pr, ip, g, q1, ht _ _ q2, ht _ _ q3, ht _ _ q4, q5.mono ht⟩
  · obtain ⟨L, q1, q2⟩ := h53 e
    exact ⟨L, q1, ht _ _ q2⟩
theorem cl_L.mono {E : hs_E} {t t' : cl_t} {cap cap' : Nat → Nat} {G G' : hs_G} {L mx el : Nat} (ht : ∀ q k, t q = some k → t' q = some k) (hc : cap' L = cap L) (hL : G' L = G L) (hA : ∀ A, (A = eE E ∨ t A = some (60, L)) → G' A = G A) (h : cl_L E t cap G L mx el) : cl_L E t' cap' G' L mx el := by
  obtain ⟨mc, A, sz, f, h1, h2, h3, h4, h5, h6, h7⟩ := h
  refine ⟨mc, A, sz, f, by rw [hL]; exact h1, ?_, by rw [hc]; exact h3, h4, by rw [hc]; exact h5, fun j hj => ?_, ?_⟩
  · rw [hc, hA A (h7.imp (fun z => z.1) (fun z => z.1))]
    exact h2
  · obtain ⟨x, q1, q2⟩ := h6 j hj
    exact ⟨x, q1, ht _ _ q2⟩
  · rw [hc]
    exact h7.imp id fun z => ⟨ht _ _ z.1, z.2⟩
theorem cl_l.mono {E : hs_E} {t t' : cl_t} {cap cap' : Nat → Nat} {G G' : hs_G} {L k : Nat} (ht : ∀ q k, t q = some k → t' q = some k) (hc : cap' L = cap L) (hL : G' L = G L) (hA : ∀ A, (A = eE E ∨ t A = some (60, L)) → G' A = G A) (h : cl_l E t cap G L k) : cl_l E t' cap' G' L k := ⟨fun e => (h.1 e).mono ht hc hL hA, fun e => (h.2.1 e).mono ht hc hL hA, fun e => (h.2.2 e).mono ht hc hL hA⟩
theorem cl_l.no {E : hs_E} {t : cl_t} {cap : Nat → Nat} {G : hs_G} {L k : Nat} (h : k ≠ 8 ∧ k ≠ 9 ∧ k ≠ 54) : cl_l E t cap G L k := ⟨fun e => absurd e h.1, fun e => absurd e h.2.1, fun e => absurd e h.2.2⟩
theorem cl_S.up {E : hs_E} {G : hs_G} {a : Nat} {x : va_E} (h : cl_S E G) (ha : (eH E).size ≤ a) : cl_S E (hs_up G a x) := by
  obtain ⟨h1, h2, ⟨f, h3⟩, f2, h4, h5⟩ := h
  exact ⟨h1, h2, ⟨f, by rw [hs_up_ne _ _ (by omega)]; exact h3⟩, f2, by rw [hs_up_ne _ _ (by omega)]; exact h4, h5⟩
theorem cl_c.no {E : hs_E} {t : cl_t} {X : Nat → Nat} {d a k : Nat} {x : Option va_E} (h : k = 8 ∨ k = 9 ∨ k = 54 ∨ k = 60) : cl_c E t X d a k x := by
  rcases h with rfl | rfl | rfl | rfl <;> exact ⟨fun z => absurd z (by decide), fun z => absurd z (by decide), fun z => absurd z (by decide), fun z => absurd z (by decide), fun z => absurd z (by decide), fun z => absurd z (by decide), fun z => absurd z (by decide), fun z => absurd z (by decide), fun z => absurd z (by decide), fun z => absurd z (by decide), fun z => absurd z (by decide), fun z => absurd z (by decide)⟩
theorem hs_up_nn {G : hs_G} {a b : Nat} {x : va_E} (h : G b ≠ none) : hs_up G a x b ≠ none := by
  by_cases e : b = a
  · subst e
    rw [hs_up_eq]
    exact fun z => nomatch z
  · rw [hs_up_ne _ _ e]
    exact h
/-- a thing that is no list and no list's array is written -/
theorem cl_T.put0 {E : hs_E} {t : cl_t} {cap X : Nat → Nat} {d a : Nat} {G : hs_G} {k : Nat × Nat} {x : va_E} (h : cl_T E t cap X d G) (ha : t a = some k) (hk : k.1 ≠ 8 ∧ k.1 ≠ 9 ∧ k.1 ≠ 54 ∧ k.1 ≠ 60) (h53 : k.1 ≠ 53) (hx : cl_c E t X d a k.1 (some x)) (hbx : k.1 = 50 → cl_b (some x) ∧ cl_u (some x)) (hgx : X 99 = 0 → k.1 = 50 → ∀ g, cl_gr (G a) g → cl_gr (some x) g) : cl_T E t cap X d (hs_up G a x) := by
  obtain ⟨h1, h2, h3, h4, h5⟩ := h
  have hsz := (h1 a k ha).1
  refine ⟨fun b kb hb => ?_, h2, h3, h4.up hsz, h5.1, fun b kb hb => hs_up_nn (h5.2 b kb hb)⟩
  obtain ⟨q1, q2, q3, q4⟩ := h1 b kb hb
  by_cases e : b = a
  · subst e
    rw [ha] at hb
    cases hb
    refine ⟨q1, by rw [hs_up_eq]; exact hx, cl_l.no ⟨hk.1, hk.2.1, hk.2.2.1⟩, fun z => by rw [hs_up_eq]; exact hbx z, fun _ z => absurd z hk.2.2.1⟩
  · have hA9 : ∀ A, (A = eE E ∨ t A = some (60, b)) → hs_up G a x A = G A := fun A hA => hs_up_ne _ _ (fun z => by
      subst z
      rcases hA with z | z
      · have := h4.1
        omega
      · rw [ha] at z
        cases z
        exact hk.2.2.2 rfl)
    refine ⟨q1, by rw [hs_up_ne _ _ e]; exact q2, q3.mono (fun _ _ h => h) rfl (hs_up_ne _ _ e) hA9, q4.mono (fun _ _ h => h) id rfl (hs_up_ne _ _ e) hA9 (fun z9 y g hy hgy => ?_) (fun g hg => hs_up_ne _ _ (fun z => by rw [z, ha] at hg; cases hg; exact h53 rfl))⟩
    by_cases e2 : y = a
    · subst e2
      rw [hs_up_eq]
      rw [ha] at hy
      cases hy
      exact hgx z9 rfl g hgy
    · rw [hs_up_ne _ _ e2]
      exact hgy
theorem cl_T.put {E : hs_E} {t : cl_t} {cap X : Nat → Nat} {d a : Nat} {G : hs_G} {k : Nat × Nat} {x : va_E} (h : cl_T E t cap X d G) (ha : t a = some k) (hk : k.1 ≠ 8 ∧ k.1 ≠ 9 ∧ k.1 ≠ 54 ∧ k.1 ≠ 60 ∧ k.1 ≠ 50 ∧ k.1 ≠ 53) (hx : cl_c E t X d a k.1 (some x)) : cl_T E t cap X d (hs_up G a x) := h.put0 ha ⟨hk.1, hk.2.1, hk.2.2.1, hk.2.2.2.1⟩ hk.2.2.2.2.2 hx (fun z => absurd z hk.2.2.2.2.1) (fun _ z => absurd z hk.2.2.2.2.1)
/-- the day passes -/
theorem cl_T.day {E : hs_E} {t : cl_t} {cap X : Nat → Nat} {d d2 : Nat} {G : hs_G} (h : cl_T E t cap X d G) (hd : d2 ≤ 20000) : cl_T E t cap X d2 (hs_up G (X 1) (.inr (1, [.ref (X 2), .int (nI d2)]))) := by
  obtain ⟨h1, h2, h3, h4, h5⟩ := h
  have ha : t (X 1) = some (1, 0) := h2 1 (Or.inl (by decide))
  have hsz := (h1 (X 1) _ ha).1
  refine ⟨fun b kb hb => ?_, h2, h3, h4.up hsz, hd, fun b kb hb => hs_up_nn (h5.2 b kb hb)⟩
  obtain ⟨q1, q2, q3, q4⟩ := h1 b kb hb
  by_cases e : b = X 1
  · subst e
    rw [ha] at hb
    cases hb
    refine ⟨q1, ?_, cl_l.no (by decide), cl_q.no (by decide)⟩
    rw [hs_up_eq]
    refine ⟨fun z => absurd z (by decide), fun _ => rfl, fun z => absurd z (by decide), fun z => absurd z (by decide), fun z => absurd z (by decide), fun z => absurd z (by decide), fun z => absurd z (by decide), fun z => absurd z (by decide), fun z => absurd z (by decide), fun z => absurd z (by decide), fun z => absurd z (by decide), fun z => absurd z (by decide)⟩
  · have hA9 : ∀ A, (A = eE E ∨ t A = some (60, b)) → hs_up G (X 1) (.inr (1, [.ref (X 2), .int (nI d2)])) A = G A := fun A hA => hs_up_ne _ _ (fun z => by
      subst z
      rcases hA with z | z
      · have := h4.1
        omega
      · rw [ha] at z
        cases z)
    refine ⟨q1, ?_, q3.mono (fun _ _ h => h) rfl (hs_up_ne _ _ e) hA9, q4.mono (fun _ _ h => h) id rfl (hs_up_ne _ _ e) hA9 (fun _ y g hy hgy => ?_) (fun g hg => hs_up_ne _ _ (fun z => by rw [z, ha] at hg; cases hg))⟩
    · rw [hs_up_ne _ _ e]
      obtain ⟨p0, p1, p2⟩ := q2
      exact ⟨p0, fun z => absurd (by have := h3 b kb hb (by omega); rw [z] at this; exact this) e, p2⟩
    · rw [hs_up_ne _ _ (fun z => by rw [z, ha] at hy; cases hy)]
      exact hgy
/-- a list changes: its array is the old one, or a new one -/
theorem cl_T.list {E : hs_E} {t : cl_t} {cap X : Nat → Nat} {d L k o mx el A1 c1 sz : Nat} {G : hs_G} {mc : Int32} {f : Nat → Option Nat} (h : cl_T E t cap X d G) (hL : t L = some (k, o)) (hk : (k = 8 ∧ mx = 150 ∧ el = 50) ∨ (k = 9 ∧ mx = 150 ∧ el = 53) ∨ (k = 54 ∧ mx = 6 ∧ el = 50)) (hA : t A1 = some (60, L) ∨ (G A1 = none ∧ t A1 = none ∧ (eH E).size ≤ A1)) (h1 : sz ≤ c1) (h2 : sz ≤ mx) (h3 : c1 ≤ 223) (h0 : 0 < c1) (hf : ∀ j, j < sz → ∃ x : Nat, f j = some x ∧ t x = some (el, 0)) (hD : X 99 = 0 → k = 54 → (∀ i j, i < sz → j < sz → f i = f j → i = j) ∧ (∀ j, j < sz → ∃ x : Nat, f j = some x ∧ t x = some (50, 0) ∧ cl_gr (G x) o)) :
    cl_T E (va_up t A1 (some (60, L))) (va_up cap L c1) X d (hs_up (hs_up G A1 (al_a E c1 f)) L (al_o mc A1 (nI sz))) ∧ cl_F t G (va_up t A1 (some (60, L))) (hs_up (hs_up G A1 (al_a E c1 f)) L (al_o mc A1 (nI sz))) := by
  obtain ⟨i1, i2, i3, i4, i5⟩ := h
  have hmo : ∀ q kq, t q = some kq → va_up t A1 (some (60, L)) q = some kq := by
    intro q kq hq
    by_cases e : q = A1
    · subst e
      rcases hA with z | z
      · rw [va_up_self, ← z]
        exact hq
      · rw [z.2.1] at hq
        cases hq
    · rw [va_up_ne _ _ e]
      exact hq
  have hAs : (eH E).size ≤ A1 := hA.elim (fun z => (i1 _ _ z).1) (fun z => z.2.2)
  have hLs := (i1 _ _ hL).1
  have hAL : A1 ≠ L := by
    intro z
    rcases hA with y | y
    · rw [z, hL] at y
      rcases hk with w | w | w <;> (rw [w.1] at y; cases y)
    · rw [z, hL] at y
      exact nomatch y.2.1
  have hgr : ∀ x, t x = some (50, 0) → hs_up (hs_up G A1 (al_a E c1 f)) L (al_o mc A1 (nI sz)) x = G x := by
    intro x hx
    have n1 : x ≠ L := fun z => by
      rw [z, hL] at hx
      rcases hk with w | w | w <;> (rw [w.1] at hx; cases hx)
    have n2 : x ≠ A1 := fun z => by
      rw [z] at hx
      rcases hA with y | y
      · rw [y] at hx
        cases hx
      · rw [y.2.1] at hx
        cases hx
    rw [hs_up_ne _ _ n1, hs_up_ne _ _ n2]
  have hgo : ∀ x, t x = some (53, 0) → hs_up (hs_up G A1 (al_a E c1 f)) L (al_o mc A1 (nI sz)) x = G x := by
    intro x hx
    have n1 : x ≠ L := fun z => by
      rw [z, hL] at hx
      rcases hk with w | w | w <;> (rw [w.1] at hx; cases hx)
    have n2 : x ≠ A1 := fun z => by
      rw [z] at hx
      rcases hA with y | y
      · rw [y] at hx
        cases hx
      · rw [y.2.1] at hx
        cases hx
    rw [hs_up_ne _ _ n1, hs_up_ne _ _ n2]
  refine ⟨⟨fun b kb hb => ?_, fun q hq => hmo _ _ (i2 q hq), fun a ka ha hka => ?_, (i4.up hAs).up hLs, i5.1, fun b kb hb => ?_⟩, hmo, fun q hq => ?_, fun q kq hq => ?_⟩
  · by_cases e : b = A1
    · subst e
      rw [va_up_self] at hb
      cases hb
      exact ⟨hAs, cl_c.no (Or.inr (Or.inr (Or.inr rfl))), cl_l.no ⟨fun z => absurd z (by simp), fun z => absurd z (by simp), fun z => absurd z (by simp)⟩, cl_q.no ⟨by simp, by simp⟩⟩
    · rw [va_up_ne _ _ e] at hb
      obtain ⟨q1, q2, q3, q4⟩ := i1 b kb hb
      by_cases e2 : b = L
      · subst e2
        rw [hL] at hb
        cases hb
        have key : cl_L E (va_up t A1 (some (60, b))) (va_up cap b c1) (hs_up (hs_up G A1 (al_a E c1 f)) b (al_o mc A1 (nI sz))) b mx el := by
          refine ⟨mc, A1, sz, f, hs_up_eq _ _ _, ?_, by rw [va_up_self]; exact h1, h2, by rw [va_up_self]; exact h3, fun j hj => ?_, Or.inr ⟨va_up_self _ _ _, by rw [va_up_self]; exact h0⟩⟩
          · rw [hs_up_ne _ _ hAL, hs_up_eq, va_up_self]
          · obtain ⟨x, y1, y2⟩ := hf j hj
            exact ⟨x, y1, hmo _ _ y2⟩
        refine ⟨q1, ?_, ?_, fun z => ?_, fun z9 z => ?_⟩
        · rcases hk with ⟨rfl, -⟩ | ⟨rfl, -⟩ | ⟨rfl, -⟩
          · exact cl_c.no (Or.inl rfl)
          · exact cl_c.no (Or.inr (Or.inl rfl))
          · exact cl_c.no (Or.inr (Or.inr (Or.inl rfl)))
        · rcases hk with ⟨rfl, rfl, rfl⟩ | ⟨rfl, rfl, rfl⟩ | ⟨rfl, rfl, rfl⟩
          · exact ⟨fun _ => key, fun z => absurd z (by simp), fun z => absurd z (by simp)⟩
          · exact ⟨fun z => absurd z (by simp), fun _ => key, fun z => absurd z (by simp)⟩
          · exact ⟨fun z => absurd z (by simp), fun z => absurd z (by simp), fun _ => key⟩
        · replace z : k = 50 := z
          rcases hk with w | w | w <;> omega
        · replace z : k = 54 := z
          obtain ⟨d1, d2⟩ := hD z9 z
          obtain ⟨-, -, -, -, -, -, -, -, -, -, d3, d4⟩ := q4.2 z9 z
          refine ⟨mc, A1, sz, f, hs_up_eq _ _ _, by rw [hs_up_ne _ _ hAL, hs_up_eq, va_up_self], Or.inr (va_up_self _ _ _), by rcases hk with w | w | w <;> omega, d1, fun j hj => ?_, hmo _ _ d3, by rw [hgo o d3]; exact d4⟩
          obtain ⟨x, y1, y2, y3⟩ := d2 j hj
          exact ⟨x, y1, hmo _ _ y2, by rw [hgr x y2]; exact y3⟩
      · have hA9 : ∀ A, (A = eE E ∨ t A = some (60, b)) → hs_up (hs_up G A1 (al_a E c1 f)) L (al_o mc A1 (nI sz)) A = G A := by
          intro A hA2
          have n1 : A ≠ L := by
            rintro rfl
            rcases hA2 with z | z
            · have := i4.1
              omega
            · rw [hL] at z
              rcases hk with w | w | w <;> (rw [w.1] at z; cases z)
          have n2 : A ≠ A1 := by
            rintro rfl
            rcases hA2 with z | z
            · have := i4.1
              omega
            · rcases hA with y | y
              · rw [y] at z
                cases z
                exact e2 rfl
              · rw [y.2.1] at z
                cases z
          rw [hs_up_ne _ _ n1, hs_up_ne _ _ n2]
        have hbb : hs_up (hs_up G A1 (al_a E c1 f)) L (al_o mc A1 (nI sz)) b = G b := by rw [hs_up_ne _ _ e2, hs_up_ne _ _ e]
        refine ⟨q1, ?_, q3.mono hmo (va_up_ne _ _ e2) hbb hA9, q4.mono hmo id (va_up_ne _ _ e2) hbb hA9 (fun _ y g hy hgy => by rw [hgr y hy]; exact hgy) hgo⟩
        rw [hbb]
        exact q2.mono hmo
  · by_cases e : a = A1
    · subst e
      rw [va_up_self] at ha
      cases ha
      exact absurd hka (by simp)
    · rw [va_up_ne _ _ e] at ha
      exact i3 a ka ha hka
  · by_cases e : b = A1
    · subst e
      exact hs_up_nn (by rw [hs_up_eq]; exact fun z => nomatch z)
    · rw [va_up_ne _ _ e] at hb
      exact hs_up_nn (hs_up_nn (i5.2 b kb hb))
  · have n1 : q ≠ A1 := fun z => by rw [z, va_up_self] at hq; cases hq
    rw [va_up_ne _ _ n1] at hq
    have n2 : q ≠ L := fun z => by rw [z, hL] at hq; cases hq
    rw [hs_up_ne _ _ n2, hs_up_ne _ _ n1]
  · by_cases e : q = A1
    · subst e
      rw [va_up_self] at hq
      rcases hA with z | z
      · exact Or.inl (z.trans hq)
      · exact Or.inr z.1
    · rw [va_up_ne _ _ e] at hq
      exact Or.inl hq
theorem cl_T.fresh {E : hs_E} {t : cl_t} {cap X : Nat → Nat} {d a : Nat} {G : hs_G} (h : cl_T E t cap X d G) (ha : G a = none) : t a = none := by
  cases hh : t a with
  | none => rfl
  | some k => exact absurd ha (h.2.2.2.2.2 a k hh)
/-- what is at a list whose cell is known -/
theorem cl_L.at {E : hs_E} {t : cl_t} {cap : Nat → Nat} {G : hs_G} {L mx el A sz : Nat} {mc : Int32} (h : cl_L E t cap G L mx el) (hL : G L = some (al_o mc A (nI sz))) (hs : sz < 2 ^ 31) : ∃ f : Nat → Option Nat, G A = some (al_a E (cap L) f) ∧ sz ≤ cap L ∧ sz ≤ mx ∧ cap L ≤ 223 ∧ (∀ j, j < sz → ∃ x : Nat, f j = some x ∧ t x = some (el, 0)) ∧ ((A = eE E ∧ cap L = 0) ∨ (t A = some (60, L) ∧ 0 < cap L)) := by
  obtain ⟨mc', A', sz', f, h1, h2, h3, h4, h5, h6, h7⟩ := h
  have e := hL.symm.trans h1
  simp only [Option.some.injEq, Sum.inr.injEq, Prod.mk.injEq, List.cons.injEq, Value.int.injEq, Value.ref.injEq, and_true, true_and] at e
  obtain ⟨rfl, rfl, e3⟩ := e
  rw [dt_nI hs (by omega)] at e3
  subst e3
  exact ⟨f, h2, h3, h4, h5, h6, h7⟩
/-- a list is emptied -/
theorem cl_T.clear {E : hs_E} {t : cl_t} {cap X : Nat → Nat} {d L k o mx el A sz : Nat} {G : hs_G} {mc : Int32} {f f1 : Nat → Option Nat} (h : cl_T E t cap X d G) (hL : t L = some (k, o)) (hk : (k = 8 ∧ mx = 150 ∧ el = 50) ∨ (k = 9 ∧ mx = 150 ∧ el = 53) ∨ (k = 54 ∧ mx = 6 ∧ el = 50)) (hLo : G L = some (al_o mc A (nI sz))) (hLa : G A = some (al_a E (cap L) f)) (hsc : sz ≤ cap L) (hcp : cap L ≤ 223) (hAA : (A = eE E ∧ cap L = 0) ∨ (t A = some (60, L) ∧ 0 < cap L)) (hf : sz = 0 → f1 = f) :
    cl_T E t cap X d (hs_up (hs_up G L (al_o (mc + 1) A 0)) A (al_a E (cap L) f1)) ∧ cl_F t G t (hs_up (hs_up G L (al_o (mc + 1) A 0)) A (al_a E (cap L) f1)) := by
  have hAL := al_ne hLo hLa
  rw [← hs_up_sw G hAL]
  rcases hAA with ⟨z1, z2⟩ | ⟨z1, z2⟩
  · rw [hf (by omega), hs_up_id hLa]
    obtain ⟨i1, i2, i3, i4, i5⟩ := h
    have hLs := (i1 _ _ hL).1
    refine ⟨⟨fun b kb hb => ?_, i2, i3, i4.up hLs, i5.1, fun b kb hb => hs_up_nn (i5.2 b kb hb)⟩, cl_F.put hL⟩
    obtain ⟨q1, q2, q3, q4⟩ := i1 b kb hb
    by_cases e : b = L
    · subst e
      rw [hL] at hb
      cases hb
      have key : cl_L E t cap (hs_up G b (al_o (mc + 1) A 0)) b mx el := ⟨mc + 1, A, 0, f, hs_up_eq _ _ _, by rw [hs_up_ne _ _ hAL]; exact hLa, Nat.zero_le _, Nat.zero_le _, hcp, fun j hj => absurd hj (Nat.not_lt_zero _), Or.inl ⟨z1, z2⟩⟩
      refine ⟨q1, ?_, ?_, fun z => ?_, fun z9 z => ?_⟩
      · rcases hk with ⟨rfl, -⟩ | ⟨rfl, -⟩ | ⟨rfl, -⟩
        · exact cl_c.no (Or.inl rfl)
        · exact cl_c.no (Or.inr (Or.inl rfl))
        · exact cl_c.no (Or.inr (Or.inr (Or.inl rfl)))
      · rcases hk with ⟨rfl, rfl, rfl⟩ | ⟨rfl, rfl, rfl⟩ | ⟨rfl, rfl, rfl⟩
        · exact ⟨fun _ => key, fun z => absurd z (by simp), fun z => absurd z (by simp)⟩
        · exact ⟨fun z => absurd z (by simp), fun _ => key, fun z => absurd z (by simp)⟩
        · exact ⟨fun z => absurd z (by simp), fun z => absurd z (by simp), fun _ => key⟩
      · replace z : k = 50 := z
        rcases hk with w | w | w <;> omega
      · obtain ⟨-, -, -, -, -, -, -, -, -, -, d3, d4⟩ := q4.2 z9 z
        exact ⟨mc + 1, A, 0, f, hs_up_eq _ _ _, by rw [hs_up_ne _ _ hAL]; exact hLa, Or.inl z1, Nat.zero_le _, fun i j hi => absurd hi (Nat.not_lt_zero _), fun j hj => absurd hj (Nat.not_lt_zero _), d3, by rw [hs_up_ne _ _ (fun w => by rw [w, hL] at d3; rcases hk with v | v | v <;> (rw [v.1] at d3; cases d3))]; exact d4⟩
    · have hA9 : ∀ A', (A' = eE E ∨ t A' = some (60, b)) → hs_up G L (al_o (mc + 1) A 0) A' = G A' := fun A' hA' => hs_up_ne _ _ (fun z => by
        subst z
        rcases hA' with z | z
        · have := i4.1
          omega
        · rw [hL] at z
          rcases hk with w | w | w <;> (rw [w.1] at z; cases z))
      refine ⟨q1, by rw [hs_up_ne _ _ e]; exact q2, q3.mono (fun _ _ h => h) rfl (hs_up_ne _ _ e) hA9, q4.mono (fun _ _ h => h) id rfl (hs_up_ne _ _ e) hA9 (fun _ y g hy hgy => ?_) (fun g hg => hs_up_ne _ _ (fun w => by rw [w, hL] at hg; rcases hk with v | v | v <;> (rw [v.1] at hg; cases hg)))⟩
      rw [hs_up_ne _ _ (fun z => by rw [z, hL] at hy; rcases hk with w | w | w <;> (rw [w.1] at hy; cases hy))]
      exact hgy
  · have q := h.list (mc := mc + 1) (f := f1) (sz := 0) (c1 := cap L) hL hk (Or.inl z1) (Nat.zero_le _) (Nat.zero_le _) hcp z2 (fun j hj => absurd hj (Nat.not_lt_zero _)) (fun _ _ => ⟨fun i j hi => absurd hi (Nat.not_lt_zero _), fun j hj => absurd hj (Nat.not_lt_zero _)⟩)
    have e1 : va_up t A (some (60, L)) = t := by
      funext j
      by_cases e : j = A
      · subst e
        rw [va_up_self, z1]
      · rw [va_up_ne _ _ e]
    have e2 : va_up cap L (cap L) = cap := by
      funext j
      by_cases e : j = L
      · subst e
        rw [va_up_self]
      · rw [va_up_ne _ _ e]
    rw [e1, e2] at q
    exact q
