/-! the class's things, read and written -/
section CLG
variable {E : hs_E} {t : cl_t} {cap X : Nat → Nat} {d : Nat} {G : hs_G}
theorem cl_T.tag (h : cl_T E t cap X d G) (k : Nat) (hk : k < 10 ∨ (20 ≤ k ∧ k < 36)) : t (X k) = some (k, 0) := h.2.1 k hk
theorem cl_T.sz (h : cl_T E t cap X d G) {a : Nat} {k : Nat × Nat} (ha : t a = some k) : (eH E).size ≤ a := (h.1 a k ha).1
theorem cl_T.szX (h : cl_T E t cap X d G) (k : Nat) (hk : k < 10 ∨ (20 ≤ k ∧ k < 36)) : (eH E).size ≤ X k := h.sz (h.tag k hk)
theorem cl_T.house (h : cl_T E t cap X d G) : G (X 0) = some (.inr (8, [.ref (X 1), .ref (X 3), .ref (X 6), .ref (X 8), .ref (X 9)])) := (h.1 _ _ (h.tag 0 (by decide))).2.1.1 rfl
theorem cl_T.days (h : cl_T E t cap X d G) : G (X 1) = some (.inr (1, [.ref (X 2), .int (nI d)])) := (h.1 _ _ (h.tag 1 (by decide))).2.1.2.1 rfl
theorem cl_T.bits (h : cl_T E t cap X d G) : G (X 2) = some (.inl (eA E 0, 626, .inl (fun i => nI (X (100 + 2 * i))))) := (h.1 _ _ (h.tag 2 (by decide))).2.1.2.2.1 rfl
theorem cl_T.vault (h : cl_T E t cap X d G) : G (X 3) = some (.inr (7, [.ref (X 4), .ref (X 5)])) := (h.1 _ _ (h.tag 3 (by decide))).2.1.2.2.2.1 rfl
theorem cl_T.cells (h : cl_T E t cap X d G) : G (X 4) = some (hs_ra (eA E 3) 16 (fun i => if i < 16 then some (X (20 + i)) else none)) := (h.1 _ _ (h.tag 4 (by decide))).2.1.2.2.2.2.1 rfl
theorem cl_T.row (h : cl_T E t cap X d G) {i : Nat} (hi : i < 16) : G (X (20 + i)) = some (.inl (eA E 1, 9, .inr (.inl (fun a => lN (X (101 + 2 * (64 * a + (20 + i)))))))) := (h.1 _ _ (h.tag (20 + i) (by omega))).2.1.2.2.2.2.2.1 (Or.inr (by show 20 ≤ 20 + i ∧ 20 + i < 36; omega))
theorem cl_T.fund (h : cl_T E t cap X d G) : G (X 5) = some (.inl (eA E 1, 9, .inr (.inl (fun a => lN (X (101 + 2 * (64 * a + 5))))))) := (h.1 _ _ (h.tag 5 (by decide))).2.1.2.2.2.2.2.1 (Or.inl rfl)
theorem cl_T.jour (h : cl_T E t cap X d G) : ∃ r : Nat, r ≤ 1500 ∧ G (X 6) = some (.inr (3, [.ref (X 7), .int (nI r)])) := (h.1 _ _ (h.tag 6 (by decide))).2.1.2.2.2.2.2.2.1 rfl
theorem cl_T.jc (h : cl_T E t cap X d G) : ∃ f : Nat → Int32, G (X 7) = some (.inl (eA E 0, 6000, .inl f)) := (h.1 _ _ (h.tag 7 (by decide))).2.1.2.2.2.2.2.2.2.1 rfl
theorem cl_T.tr (h : cl_T E t cap X d G) {a : Nat} (ha : t a = some (50, 0)) : cl_50 t (G a) := (h.1 _ _ ha).2.1.2.2.2.2.2.2.2.2.1 rfl
theorem cl_T.te (h : cl_T E t cap X d G) {a : Nat} (ha : t a = some (51, 0)) : cl_51 (G a) := (h.1 _ _ ha).2.1.2.2.2.2.2.2.2.2.2.1 rfl
theorem cl_T.si (h : cl_T E t cap X d G) {a : Nat} (ha : t a = some (52, 0)) : ∃ u v : Int32, G a = some (.inr (4, [.int u, .int v])) := (h.1 _ _ ha).2.1.2.2.2.2.2.2.2.2.2.2.1 rfl
theorem cl_T.gr (h : cl_T E t cap X d G) {a : Nat} (ha : t a = some (53, 0)) : ∃ L : Nat, G a = some (.inr (2, [.ref L])) ∧ t L = some (54, a) := (h.1 _ _ ha).2.1.2.2.2.2.2.2.2.2.2.2.2 rfl
theorem cl_T.l8 (h : cl_T E t cap X d G) : cl_L E t cap G (X 8) 150 50 := (h.1 _ _ (h.tag 8 (by decide))).2.2.1.1 rfl
theorem cl_T.l9 (h : cl_T E t cap X d G) : cl_L E t cap G (X 9) 150 53 := (h.1 _ _ (h.tag 9 (by decide))).2.2.1.2.1 rfl
theorem cl_T.l54 (h : cl_T E t cap X d G) {L o : Nat} (hL : t L = some (54, o)) : cl_L E t cap G L 6 50 := (h.1 _ _ hL).2.2.1.2.2 rfl
theorem cl_T.b (h : cl_T E t cap X d G) {a : Nat} (ha : t a = some (50, 0)) : cl_b (G a) := ((h.1 _ _ ha).2.2.2.1 rfl).1
theorem cl_T.u (h : cl_T E t cap X d G) {a : Nat} (ha : t a = some (50, 0)) : cl_u (G a) := ((h.1 _ _ ha).2.2.2.1 rfl).2
theorem cl_T.D (h : cl_T E t cap X d G) (hX : X 99 = 0) {L g : Nat} (hL : t L = some (54, g)) : cl_D E t cap G L g := (h.1 _ _ hL).2.2.2.2 hX rfl
/-- what a method that makes nothing, and no list changes, does -/
def cl_0 (E : hs_E) (t : cl_t) (cap X : Nat → Nat) (d : Nat) (G G1 : hs_G) (k n : Nat) : Prop := k = 0 ∧ n = 0 ∧ cl_T E t cap X d G1 ∧ cl_F t G t G1
theorem cl_no {P : Prop} {n m : Nat} (h : n ≠ m) : n = m → P := fun z => absurd z h
/-- the numbers in X that are no addresses may be others -/
theorem cl_c.re {d a k : Nat} {x : Option va_E} {Y : Nat → Nat} (h0 : ∀ n, n < 90 → Y n = X n) (hB : k = 2 → ∀ i, Y (100 + 2 * i) = X (100 + 2 * i)) (hV : (k = 5 ∨ (20 ≤ k ∧ k < 36)) → ∀ i, Y (101 + 2 * (64 * i + k)) = X (101 + 2 * (64 * i + k))) (h : cl_c E t X d a k x) : cl_c E t Y d a k x := by
  obtain ⟨p0, p1, p2, p3, p4, p5, p6, p7, p8⟩ := h
  refine ⟨fun z => ?_, fun z => ?_, fun z => ?_, fun z => ?_, fun z => ?_, fun z => ?_, fun z => ?_, p7, p8⟩
  · rw [h0 1 (by decide), h0 3 (by decide), h0 6 (by decide), h0 8 (by decide), h0 9 (by decide)]; exact p0 z
  · rw [h0 2 (by decide)]; exact p1 z
  · rw [p2 z]; simp only [hB z]
  · rw [h0 4 (by decide), h0 5 (by decide)]; exact p3 z
  · rw [p4 z]
    congr 2
    funext i
    by_cases hi : i < 16
    · rw [if_pos hi, if_pos hi, h0 (20 + i) (by omega)]
    · rw [if_neg hi, if_neg hi]
  · rw [p5 z]; simp only [hV z]
  · rw [h0 7 (by decide)]; exact p6 z
/-- what is open of a group's list is looked at again -/
theorem cl_T.reX (h : cl_T E t cap X d G) {Y : Nat → Nat} (hY : ∀ n, n ≠ 99 → n ≠ 97 → Y n = X n) (hD : Y 99 = 0 → ∀ L g, t L = some (54, g) → cl_D E t cap G L g) : cl_T E t cap Y d G := by
  obtain ⟨h1, h2, h3, h4, h5⟩ := h
  refine ⟨fun b kb hb => ?_, fun k hk => by rw [hY k (by omega) (by omega)]; exact h2 k hk, fun a k hk hlt => by rw [hY _ (by omega) (by omega)]; exact h3 a k hk hlt, h4, h5⟩
  obtain ⟨q1, q2, q3, q4⟩ := h1 b kb hb
  refine ⟨q1, q2.re (fun n hn => hY n (by omega) (by omega)) (fun _ i => hY _ (by omega) (by omega)) (fun _ i => hY _ (by omega) (by omega)), q3, q4.1, fun z z2 => ?_⟩
  exact hD z b kb.2 (by rw [hb, ← z2])
theorem cl_T.off (h : cl_T E t cap X d G) : cl_T E t cap (va_up X 99 1) d G := h.reX (fun n h1 _ => va_up_ne _ _ h1) (fun z => absurd z (by rw [va_up_self]; decide))
theorem cl_T.on (h : cl_T E t cap (va_up X 99 1) d G) (hD : X 99 = 0 → ∀ L g, t L = some (54, g) → cl_D E t cap G L g) : cl_T E t cap X d G := h.reX (fun n h1 _ => (va_up_ne _ _ h1).symm) hD
/-- a cell of the numbers is written: the bits (k = 2), a row of the vault or what was funded -/
theorem cl_T.num (h : cl_T E t cap X d G) {k : Nat} (hk : k = 2 ∨ k = 5 ∨ (20 ≤ k ∧ k < 36)) {Y : Nat → Nat} {x : va_E} (h0 : ∀ n, n < 100 → Y n = X n) (hB : k ≠ 2 → ∀ i, Y (100 + 2 * i) = X (100 + 2 * i)) (hV : ∀ k', k' ≠ k → (k' = 5 ∨ (20 ≤ k' ∧ k' < 36)) → ∀ i, Y (101 + 2 * (64 * i + k')) = X (101 + 2 * (64 * i + k'))) (hx : cl_c E t Y d (X k) k (some x)) : cl_T E t cap Y d (hs_up G (X k) x) ∧ cl_F t G t (hs_up G (X k) x) := by
  have ha : t (X k) = some (k, 0) := h.tag k (by omega)
  obtain ⟨h1, h2, h3, h4, h5⟩ := h
  have hsz := (h1 _ _ ha).1
  refine ⟨⟨fun b kb hb => ?_, fun j hj => by rw [h0 j (by omega)]; exact h2 j hj, fun a j hj hlt => by rw [h0 _ (by omega)]; exact h3 a j hj hlt, h4.up hsz, h5.1, fun b kb hb => hs_up_nn (h5.2 b kb hb)⟩, cl_F.put ha⟩
  obtain ⟨q1, q2, q3, q4⟩ := h1 b kb hb
  by_cases e : b = X k
  · subst e
    rw [ha] at hb
    cases hb
    refine ⟨q1, by rw [hs_up_eq]; exact hx, cl_l.no ⟨by show k ≠ 8; omega, by show k ≠ 9; omega, by show k ≠ 54; omega⟩, cl_q.no ⟨by show k ≠ 50; omega, by show k ≠ 54; omega⟩⟩
  · have hA9 : ∀ A, (A = eE E ∨ t A = some (60, b)) → hs_up G (X k) x A = G A := fun A hA => hs_up_ne _ _ (fun z => by
      subst z
      rcases hA with z | z
      · have := h4.1
        omega
      · rw [ha] at z
        simp only [Option.some.injEq, Prod.mk.injEq] at z
        omega)
    have hkb : kb.1 ≠ k := fun z => e (by have := h3 b kb hb (by omega); rw [z] at this; exact this)
    refine ⟨q1, by rw [hs_up_ne _ _ e]; exact q2.re (fun n hn => h0 n (by omega)) (fun z => hB (fun w => hkb (by omega))) (fun z => hV _ hkb z), q3.mono (fun _ _ h => h) rfl (hs_up_ne _ _ e) hA9, q4.mono (fun _ _ h => h) (fun z => by rw [← h0 99 (by decide)]; exact z) rfl (hs_up_ne _ _ e) hA9 (fun _ y g hy hgy => ?_) (fun g hg => hs_up_ne _ _ (fun z => by rw [z, ha] at hg; simp only [Option.some.injEq, Prod.mk.injEq] at hg; omega))⟩
    rw [hs_up_ne _ _ (fun z => by rw [z, ha] at hy; simp only [Option.some.injEq, Prod.mk.injEq] at hy; omega)]
    exact hgy
/-- a day is marked -/
theorem cl_T.mark (h : cl_T E t cap X d G) {Y : Nat → Nat} (hY : ∀ k, (k < 100 ∨ k % 2 = 1) → Y k = X k) : cl_T E t cap Y d (hs_up G (X 2) (.inl (eA E 0, 626, .inl (fun i => nI (Y (100 + 2 * i)))))) ∧ cl_F t G t (hs_up G (X 2) (.inl (eA E 0, 626, .inl (fun i => nI (Y (100 + 2 * i)))))) :=
  h.num (k := 2) (Or.inl rfl) (fun n hn => hY n (Or.inl hn)) (fun z => absurd rfl z) (fun k' _ _ i => hY _ (Or.inr (by omega))) ⟨cl_no (by decide), cl_no (by decide), fun _ => rfl, cl_no (by decide), cl_no (by decide), fun z => absurd z (by simp), cl_no (by decide), cl_no (by decide), cl_no (by decide), cl_no (by decide), cl_no (by decide), cl_no (by decide)⟩
/-- a number of the vault -/
def vv (X : Nat → Nat) (k i : Nat) : Int64 := lN (X (101 + 2 * (64 * i + k)))
def vS (X : Nat → Nat) (k i : Nat) (v : Int64) : Nat → Nat := fun n => if n = 101 + 2 * (64 * i + k) then v.toBitVec.toNat else X n
theorem vv_code (v : Int64) : lN v.toBitVec.toNat = v := Int64.toBitVec_inj.mp (by show BitVec.ofNat 64 _ = _; simp)
theorem vS_lo {X : Nat → Nat} {k i n : Nat} {v : Int64} (h : n < 100) : vS X k i v n = X n := if_neg (by omega)
theorem vS_vv {X : Nat → Nat} {k i k' i' : Nat} {v : Int64} (hk : k < 64) (hk' : k' < 64) : vv (vS X k i v) k' i' = if k' = k ∧ i' = i then v else vv X k' i' := by
  unfold vv vS
  by_cases e : k' = k ∧ i' = i
  · rw [if_pos (by omega), if_pos e, vv_code]
  · rw [if_neg (by omega), if_neg e]
/-- a number of the vault is written -/
theorem cl_T.pV (h : cl_T E t cap X d G) {k : Nat} (hk : k = 5 ∨ (20 ≤ k ∧ k < 36)) (i : Nat) (v : Int64) : cl_T E t cap (vS X k i v) d (hs_up G (X k) (.inl (eA E 1, 9, .inr (.inl (vp_updL (fun a => lN (X (101 + 2 * (64 * a + k)))) i v))))) ∧ cl_F t G t (hs_up G (X k) (.inl (eA E 1, 9, .inr (.inl (vp_updL (fun a => lN (X (101 + 2 * (64 * a + k)))) i v))))) := by
  refine h.num (k := k) (by omega) (fun n hn => vS_lo hn) (fun _ j => if_neg (by omega)) (fun k' hk' hr j => if_neg (by omega)) ⟨cl_no (by omega), cl_no (by omega), cl_no (by omega), cl_no (by omega), cl_no (by omega), fun _ => ?_, cl_no (by omega), cl_no (by omega), cl_no (by omega), cl_no (by omega), cl_no (by omega), cl_no (by omega)⟩
  congr 6
  funext a
  by_cases e : a = i
  · subst e
    rw [show vS X k a v (101 + 2 * (64 * a + k)) = v.toBitVec.toNat from if_pos rfl, vv_code]
    simp [vp_updL]
  · rw [show vS X k i v (101 + 2 * (64 * a + k)) = X (101 + 2 * (64 * a + k)) from if_neg (by omega)]
    simp [vp_updL, e]
theorem cl_T.pJ (h : cl_T E t cap X d G) {r : Nat} (hr : r ≤ 1500) : cl_T E t cap X d (hs_up G (X 6) (.inr (3, [.ref (X 7), .int (nI r)]))) ∧ cl_F t G t (hs_up G (X 6) (.inr (3, [.ref (X 7), .int (nI r)]))) :=
  ⟨h.put (h.tag 6 (by decide)) (by simp) ⟨cl_no (by decide), cl_no (by decide), cl_no (by decide), cl_no (by decide), cl_no (by decide), fun z => absurd z (by simp), fun _ => ⟨r, hr, rfl⟩, cl_no (by decide), cl_no (by decide), cl_no (by decide), cl_no (by decide), cl_no (by decide)⟩, cl_F.put (h.tag 6 (by decide))⟩
theorem cl_T.pC (h : cl_T E t cap X d G) (f : Nat → Int32) : cl_T E t cap X d (hs_up G (X 7) (.inl (eA E 0, 6000, .inl f))) ∧ cl_F t G t (hs_up G (X 7) (.inl (eA E 0, 6000, .inl f))) :=
  ⟨h.put (h.tag 7 (by decide)) (by simp) ⟨cl_no (by decide), cl_no (by decide), cl_no (by decide), cl_no (by decide), cl_no (by decide), fun z => absurd z (by simp), cl_no (by decide), fun _ => ⟨f, rfl⟩, cl_no (by decide), cl_no (by decide), cl_no (by decide), cl_no (by decide)⟩, cl_F.put (h.tag 7 (by decide))⟩
theorem cl_T.pT (h : cl_T E t cap X d G) {a : Nat} (ha : t a = some (50, 0)) {nu te : Int32} {t1 s1 s2 : Nat} {st du ql am fa pr ip : Int32} {g : Value} (h1 : t t1 = some (51, 0)) (h2 : t s1 = some (52, 0)) (h3 : t s2 = some (52, 0)) (h4 : cl_g t g) (hb9 : 0 ≤ ql.toInt ∧ ql.toInt ≤ 1000000 ∧ 0 ≤ am.toInt ∧ am.toInt ≤ 1000000000) (hg9 : X 99 = 0 → ∀ g', cl_gr (G a) g' → g = .ref g') (hu9 : st = 0 → g = .null) : cl_T E t cap X d (hs_up G a (cl_tr nu te t1 s1 s2 st du ql am fa pr ip g)) ∧ cl_F t G t (hs_up G a (cl_tr nu te t1 s1 s2 st du ql am fa pr ip g)) :=
  ⟨h.put0 ha (by simp) (by simp) ⟨cl_no (by simp), cl_no (by simp), cl_no (by simp), cl_no (by simp), cl_no (by simp), fun z => absurd z (by simp), cl_no (by simp), cl_no (by simp), fun _ => ⟨nu, te, t1, s1, s2, st, du, ql, am, fa, pr, ip, g, rfl, h1, h2, h3, h4⟩, cl_no (by simp), cl_no (by simp), cl_no (by simp)⟩ (fun _ => ⟨fun nu' te' t1' s1' s2' st' du' ql' am' fa' pr' ip' g' e => by cases e; exact hb9, fun nu' te' t1' s1' s2' st' du' ql' am' fa' pr' ip' g' e => by cases e; exact hu9⟩) (fun z _ g' hg' => ⟨nu, te, t1, s1, s2, st, du, ql, am, fa, pr, ip, by rw [hg9 z g' hg']⟩), cl_F.put ha⟩
theorem cl_T.pS (h : cl_T E t cap X d G) {a : Nat} (ha : t a = some (52, 0)) (u v : Int32) : cl_T E t cap X d (hs_up G a (.inr (4, [.int u, .int v]))) ∧ cl_F t G t (hs_up G a (.inr (4, [.int u, .int v]))) :=
  ⟨h.put ha (by simp) ⟨cl_no (by simp), cl_no (by simp), cl_no (by simp), cl_no (by simp), cl_no (by simp), fun z => absurd z (by simp), cl_no (by simp), cl_no (by simp), cl_no (by simp), cl_no (by simp), fun _ => ⟨u, v, rfl⟩, cl_no (by simp)⟩, cl_F.put ha⟩
theorem cl_T.ne (h : cl_T E t cap X d G) {j k : Nat} (hj : j < 10 ∨ (20 ≤ j ∧ j < 36)) (hk : k < 10 ∨ (20 ≤ k ∧ k < 36)) (hjk : j ≠ k) : X j ≠ X k := by
  intro z
  have h1 := h.tag j hj
  rw [z, h.tag k hk] at h1
  cases h1
  exact hjk rfl
end CLG
theorem cl_d32n {j : Nat} (h1 : j ≤ 20000) : vp_in (nI j / 32) 626 := by
  rw [show (32 : Int32) = nI 32 by decide +kernel, pk_div (by omega) (by decide) (by decide)]
  exact vp_in_nI (by omega) (by decide)
theorem cl_d32 {x : Int32} (h0 : ¬ x < 0) (h1 : ¬ x > 20000) : vp_in (x / 32) 626 := by
  obtain ⟨j, hj, rfl⟩ := nI_of h0
  have h2 : ¬ 20000 < j := fun z => h1 (by rw [show (20000 : Int32) = nI 20000 by decide +kernel]; exact (nI_ltI (by omega) hj).mpr z)
  rw [show (32 : Int32) = nI 32 by decide +kernel, pk_div hj (by decide) (by decide)]
  exact vp_in_nI (by omega) (by decide)
theorem cl_rowR {X : Nat → Nat} {p : Nat} (hp : p < 16) : va_rf ((fun i => if i < 16 then some (X (20 + i)) else none) (nI p).toNatClampNeg) = .ref (X (20 + p)) := by
  rw [nI_clamp (by omega)]
  simp only [if_pos hp]
  rfl
theorem cl_as {g : Nat} (hg : g < 8) : vp_in (nI g - -1) 9 := by
  rw [show nI g - -1 = nI (g + 1) by rw [← nI_1]; rw [Int32.sub_neg]]
  exact vp_in_nI (by omega) (by decide)
theorem cl_as1 : vp_in ((-1 : Int32) - -1) 9 := by unfold vp_in; decide
theorem cl_asset {x : Int32} (h : -1 ≤ x ∧ x ≤ 7) : vp_in (x - -1) 9 := by
  rw [Int32.le_iff_toInt_le, Int32.le_iff_toInt_le, show Int32.toInt (-1) = -1 by decide, show Int32.toInt 7 = 7 by decide] at h
  rw [Int32.sub_neg, vp_in_iff, Int32.toInt_add, Int32.toInt_one]
  have b : (x.toInt + 1).bmod (2 ^ 32) = x.toInt + 1 := by rw [Int.bmod_eq_of_le] <;> omega
  rw [b]
  omega
theorem cl_j0 {r : Nat} (hr : r < 1500) : vp_in (nI r * 4) 6000 := by
  rw [show (4 : Int32) = nI 4 by decide +kernel, pk_mul]
  exact vp_in_nI (by omega) (by decide)
theorem cl_jk {r : Nat} {c : Int32} (k : Nat) (hr : r < 1500) (hc : c = nI k) (hk : k < 4) : vp_in (nI r * 4 + c) 6000 := by
  rw [hc, show (4 : Int32) = nI 4 by decide +kernel, pk_mul, nI_add]
  exact vp_in_nI (by omega) (by decide)
