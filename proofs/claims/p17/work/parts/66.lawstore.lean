/-! the law's store: the class's things, the reference's, out -/
theorem cl_T.ag {E : hs_E} {t : cl_t} {cap X : Nat → Nat} {d : Nat} {G G' : hs_G} (h : cl_T E t cap X d G) (ha : ∀ a k, t a = some k → G' a = G a) (hE : G' (eE E) = G (eE E)) (hM : G' (eM E) = G (eM E)) : cl_T E t cap X d G' := by
  obtain ⟨h1, h2, h3, ⟨s1, s2, ⟨f, s3⟩, f2, s4, s5⟩, h5, h6⟩ := h
  refine ⟨fun a k hk => ?_, h2, h3, ⟨s1, s2, ⟨f, by rw [hE]; exact s3⟩, f2, by rw [hM]; exact s4, s5⟩, h5, fun a k hk => by rw [ha a k hk]; exact h6 a k hk⟩
  obtain ⟨q1, q2, q3, q4⟩ := h1 a k hk
  have hA9 : ∀ A, (A = eE E ∨ t A = some (60, a)) → G' A = G A := fun A hA => by
    rcases hA with rfl | z
    · exact hE
    · exact ha A _ z
  exact ⟨q1, by rw [ha a k hk]; exact q2, q3.mono (fun _ _ z => z) rfl (ha a k hk) hA9, q4.mono (fun _ _ z => z) id rfl (ha a k hk) hA9 (fun _ x g hx hg => by rw [ha x _ hx]; exact hg) (fun g hg => ha g _ hg)⟩
def lw_S (E : hs_E) (X : Nat → Nat) (o mo : Nat) (ar : Nat → Nat) (ix : Nat → Option Nat) (t : cl_t) (cap : Nat → Nat) (d dm : Nat) (sc : Nat → Int32) (mI : Nat → Nat → Int32) (mL : Nat → Nat → Int64) (f : Nat → Int64) (G : hs_G) : Prop :=
  cl_T E t cap X d G ∧ G o = some (lw_o E f) ∧ t o = none ∧ (eH E).size ≤ o ∧ mo_ok E mo ar ix ∧ t mo = none ∧ (∀ k, mo_arr k = true → t (ar k) = none) ∧ o ≠ mo ∧ ix o = none ∧ G = mo_W E mo ar ix sc mI mL G ∧ ∃ N S : Nat, mo_I sc mI N dm S
theorem vJ.ext {X Y : Nat → Nat} (h : vJ X) (hv : ∀ k i, vv Y k i = vv X k i) (h97 : Y 97 = X 97) : vJ Y := by
  intro i hi
  obtain ⟨a1, a2, a3⟩ := h i hi
  refine ⟨fun p hp => by rw [hv]; exact a1 p hp, ?_, by rw [hv, h97]; exact a3⟩
  rw [vsum_ext (X := X) (i := i) 16 (fun p _ => by rw [hv]), hv]
  exact a2
theorem vY_mk {X : Nat → Nat} {j : Nat} (h99 : X 99 = 0) (hJ : vJ X) : vY X (hv_mk X j) := ⟨hv_mk_lo (by decide), (hv_mk_lo (by decide)).trans h99, hJ.ext (fun k i => by unfold vv; rw [hv_mk_lo2 (Or.inr (by omega))]) (hv_mk_lo (by decide)), by rw [hv_mk_lo (by decide)]; omega⟩
theorem vY.q {X Y : Nat → Nat} {j : Nat} (h : vY X Y) (h97 : X 97 ≤ 1000000000 * j) : Y 99 = 0 ∧ vJ Y ∧ Y 97 ≤ 1000000000 * (j + 1) := ⟨h.2.1, h.2.2.1, by have := h.2.2.2; omega⟩
/-- at the head of the law's loop -/
def lw_B (E : hs_E) (x o mo : Nat) (ar : Nat → Nat) (ix : Nat → Option Nat) (jj : Nat) (G : hs_G) : Prop := ∃ (X : Nat → Nat) (t : cl_t) (cap : Nat → Nat) (d : Nat) (sc : Nat → Int32) (mI : Nat → Nat → Int32) (mL : Nat → Nat → Int64) (f : Nat → Int64), X 0 = x ∧ lw_S E X o mo ar ix t cap d d sc mI mL f G ∧ X 99 = 0 ∧ vJ X ∧ X 97 ≤ 1000000000 * jj
theorem lw_B.up {E : hs_E} {x o mo : Nat} {ar : Nat → Nat} {ix : Nat → Option Nat} {jj : Nat} {G : hs_G} (h : lw_B E x o mo ar ix jj G) : lw_B E x o mo ar ix (jj + 1) G := by
  obtain ⟨X, t, cap, d, sc, mI, mL, f, h1, h2, h3, h4, h5⟩ := h
  exact ⟨X, t, cap, d, sc, mI, mL, f, h1, h2, h3, h4, by omega⟩
theorem lw_hc {d : Nat} {x y : Int32} (hx : x = nI d) (hd : d ≤ 20000) : ((x + 1).toInt64 ≤ y.toInt64 ∧ y.toInt64 ≤ 20000) ↔ (nI d < y ∧ y ≤ 20000) := by
  rw [hx, nI_1, Int64.le_iff_toInt_le, Int64.le_iff_toInt_le, Int32.toInt_toInt64, Int32.toInt_toInt64, Int32.lt_iff_toInt_lt, Int32.le_iff_toInt_le, nI_toInt (by omega), nI_toInt (by omega), show (20000 : Int64).toInt = 20000 from rfl, show (20000 : Int32).toInt = 20000 from rfl]
  omega
section LW66
variable {E : hs_E} {X : Nat → Nat} {o mo : Nat} {ar : Nat → Nat} {ix : Nat → Option Nat} {t : cl_t} {cap : Nat → Nat} {d dm : Nat} {sc : Nat → Int32} {mI : Nat → Nat → Int32} {mL : Nat → Nat → Int64} {f : Nat → Int64} {G : hs_G}
theorem lw_W (h : lw_S E X o mo ar ix t cap d dm sc mI mL f G) {H : Heap} (hW : hs_W (eD E) vwCl (eH E) G H) : hs_W (eD E) vwCl (eH E) (mo_W E mo ar ix sc mI mL G) H := by
  have e := h.2.2.2.2.2.2.2.2.2.1
  rw [← e]
  exact hW
/-- a call of the class -/
theorem lw_clsf (h : lw_S E X o mo ar ix t cap d dm sc mI mL f G) {X2 : Nat → Nat} {d2 : Nat} {f' : Nat → Int64} {G1 : hs_G} (hH : lw_Hf E t X2 d2 G o f' G1) : ∃ (t' : cl_t) (cap' : Nat → Nat), lw_S E X2 o mo ar ix t' cap' d2 dm sc mI mL f' G1 := by
  obtain ⟨h1, h2, h3, h4, h5, h6, h7, h8, h9, h10, hI⟩ := h
  obtain ⟨t', cap', Gm, hT', hF', rfl⟩ := hH
  have to : t' o = none := hF'.out h3 (by rw [h2]; exact fun z => nomatch z)
  have gm : G mo ≠ none := by rw [h10, mo_obj]; exact fun z => nomatch z
  have tm : t' mo = none := hF'.out h6 gm
  have ta : ∀ k, mo_arr k = true → t' (ar k) = none := fun k hk => hF'.out (h7 k hk) (by rw [h10, mo_row h5.1 hk]; exact fun z => nomatch z)
  have hne : ∀ a k, t' a = some k → a ≠ o := fun a k hk z => by rw [z, to] at hk; cases hk
  refine ⟨t', cap', hT'.ag (fun a k hk => hs_up_ne _ _ (hne a k hk)) (hs_up_ne _ _ (by have := hT'.2.2.2.1.1; omega)) (hs_up_ne _ _ (by have := hT'.2.2.2.1.2.1; omega)), hs_up_eq _ _ _, to, h4, h5, tm, ta, h8, h9, ?_, hI⟩
  funext a
  unfold mo_W
  by_cases e : a = mo
  · rw [if_pos e, e, hs_up_ne _ _ (Ne.symm h8), hF'.2.1 mo tm, h10, mo_obj]
  · rw [if_neg e]
    cases hq : ix a with
    | none => rfl
    | some k =>
      obtain ⟨e1, e2⟩ := h5.1.2.2 a k hq
      have e3 : a ≠ o := fun z => by rw [z, h9] at hq; cases hq
      rw [hs_up_ne _ _ e3, e1, hF'.2.1 _ (ta k e2), h10, mo_row h5.1 e2]
theorem lw_cls (h : lw_S E X o mo ar ix t cap d dm sc mI mL f G) {d2 : Nat} {G1 : hs_G} (hH : lw_H E t X d2 G o G1) : ∃ (t' : cl_t) (cap' : Nat → Nat) (f' : Nat → Int64) (Y : Nat → Nat), vY X Y ∧ lw_S E Y o mo ar ix t' cap' d2 dm sc mI mL f' G1 := by
  obtain ⟨f', Y, hy, hf⟩ := hH
  obtain ⟨t', cap', h9⟩ := lw_clsf h hf
  exact ⟨t', cap', f', Y, hy, h9⟩
/-- a call of the reference -/
theorem lw_mod (h : lw_S E X o mo ar ix t cap d dm sc mI mL f G) {sc2 : Nat → Int32} {mI2 : Nat → Nat → Int32} {mL2 : Nat → Nat → Int64} {dm2 : Nat} (hI : ∃ N S : Nat, mo_I sc2 mI2 N dm2 S) : lw_S E X o mo ar ix t cap d dm2 sc2 mI2 mL2 f (mo_W E mo ar ix sc2 mI2 mL2 G) := by
  obtain ⟨h1, h2, h3, h4, h5, h6, h7, h8, h9, h10, -⟩ := h
  have hold : ∀ a, a ≠ mo → ix a = none → mo_W E mo ar ix sc2 mI2 mL2 G a = G a := fun a z1 z2 => by
    unfold mo_W
    rw [if_neg z1, z2]
  have hix : ∀ a, (∀ k, mo_arr k = true → a ≠ ar k) → ix a = none := fun a ha => by
    cases hq : ix a with
    | none => rfl
    | some k => exact absurd (h5.1.2.2 a k hq).1 (ha k (h5.1.2.2 a k hq).2)
  have hs := h1.2.2.2.1
  refine ⟨h1.ag (fun a k hk => hold a (fun z => by rw [z, h6] at hk; cases hk) (hix a fun j hj z => by rw [z, h7 j hj] at hk; cases hk)) (hold _ (by have := h5.2.1; have := hs.1; omega) (hix _ fun j hj z => by have := h5.2.2 j hj; have := hs.1; omega)) (hold _ (by have := h5.2.1; have := hs.2.1; omega) (hix _ fun j hj z => by have := h5.2.2 j hj; have := hs.2.1; omega)), (hold o h8 h9).trans h2, h3, h4, h5, h6, h7, h8, h9, ?_, hI⟩
  funext a
  by_cases e : a = mo
  · rw [e, mo_obj, mo_obj]
  · cases hq : ix a with
    | none => rw [hold a e hq]; unfold mo_W; rw [if_neg e, hq]; show G a = if a = mo then _ else _; rw [if_neg e]
    | some k => obtain ⟨e1, e2⟩ := h5.1.2.2 a k hq; rw [e1, mo_row h5.1 e2, mo_row h5.1 e2]
end LW66
section LW66b
variable {p : Program} {l : Launch} {e : Env} {R : Room} {s : State} {m : MethodId} {args : Array Value} {below : List Frame} {meth : Method} {c : Code} {H : Heap} {locs : List Loc} {cells slots : Nat} {Q : State → Prop} {pc : Nat} {ls : Array Slot} {rest : List Value} {D : va_G} {cl : List vw_C} {H0 : Heap} {rm : Room}
variable {cc : ByteArray} {nL : Nat} {tys : List (ClassId × FieldType)} {Zs : List (String × String × String × Value)} {Ts : List Cond} {own : String} {G : hs_G}
theorem hs_sld (hC : hs_C D cl tys Zs H0 Ts p s m args c cc nL own) (hW : hs_W D cl H0 G H) {b L : Nat} {xs : Nat → Int32} (hX : va_X b L xs s H0) (hbl : b < H0.size) {i : Int32} (hin : vp_in i L) (hdg : decode cc pc = .ok (.iaload, 1))
    (kk : W p l e R s m args below meth c H locs cells slots Q (F0 m (pc + 1) ls (.int (xs i.toNatClampNeg) :: rest))) : W p l e R s m args below meth c H locs cells slots Q (F0 m pc ls (.int i :: .ref b :: rest)) := by
  obtain ⟨scr, h1, h2, h3, h4, h5⟩ := hX
  have hlt : i.toNatClampNeg < L := Nat.not_le.mp fun q => hin (Or.inr q)
  exact W.iald (v := .int (xs i.toNatClampNeg)) hC.1 hC.2.1 (by rw [hW.2.2 b hbl]; exact h1) h2 h3 (by rw [h4]; exact hin) (h5 _ hlt) rfl rfl hdg kk
theorem hs_slen (hC : hs_C D cl tys Zs H0 Ts p s m args c cc nL own) (hW : hs_W D cl H0 G H) {b L : Nat} {xs : Nat → Int32} (hX : va_X b L xs s H0) (hbl : b < H0.size) (hdg : decode cc pc = .ok (.arraylength, 1))
    (kk : W p l e R s m args below meth c H locs cells slots Q (F0 m (pc + 1) ls (.int (Int32.ofNat L) :: rest))) : W p l e R s m args below meth c H locs cells slots Q (F0 m pc ls (.ref b :: rest)) := by
  obtain ⟨scr, h1, h2, h3, h4, h5⟩ := hX
  exact W.alen (n := Int32.ofNat L) hC.1 hC.2.1 (by rw [hW.2.2 b hbl]; exact h1) h2 (by rw [h4] <;> rfl) rfl rfl hdg kk
end LW66b
section LW66c
variable {E : hs_E} {p : Program} {l : Launch} {e : Env} {R : Room} {s : State} {m : MethodId} {args : Array Value} {below : List Frame} {meth : Method} {c : Code} {cells slots : Nat} {Q : State → Prop} {pc : Nat} {ls : Array Slot} {rest : List Value} {rm : Room}
variable {X : Nat → Nat} {o mo : Nat} {ar : Nat → Nat} {ix : Nat → Option Nat} {t : cl_t} {cap : Nat → Nat} {d dm dm2 : Nat} {sc : Nat → Int32} {mI : Nat → Nat → Int32} {mL : Nat → Nat → Int64} {f : Nat → Int64} {G : hs_G} {I : Option Value → (Nat → Int32) → (Nat → Nat → Int32) → (Nat → Nat → Int64) → Prop}
/-- behind a call of the reference that answers an int -/
theorem lw_kI (hS : lw_S E X o mo ar ix t cap d dm sc mI mL f G) (h : ∀ v sc2 mI2 mL2, I v sc2 mI2 mL2 → (∃ x : Int32, v = some (.int x)) ∧ ∃ N S : Nat, mo_I sc2 mI2 N dm2 S)
    (kk : ∀ (x : Int32) (sc2 : Nat → Int32) (mI2 : Nat → Nat → Int32) (mL2 : Nat → Nat → Int64) (H1 : Heap) (locs1 : List Loc), I (some (.int x)) sc2 mI2 mL2 → lw_S E X o mo ar ix t cap d dm2 sc2 mI2 mL2 f (mo_W E mo ar ix sc2 mI2 mL2 G) → hs_W (eD E) vwCl (eH E) (mo_W E mo ar ix sc2 mI2 mL2 G) H1 → (∀ q ∈ locs1, (eH E).size ≤ q.base) → W p l e R s m args below meth c H1 locs1 cells slots Q (F0 m (pc + 3) ls (.int x :: rest))) : hs_Kr (eD E) vwCl (eH E) (mo_P E mo ar ix G I) rm p l e R s m args below meth c cells slots Q pc ls rest := by
  refine ⟨?_, ?_⟩
  · rintro v G1 k n H1 locs1 ⟨rfl, rfl, v2, sc2, mI2, mL2, h1, rfl, hI⟩ h3 h4 h5 h6
    cases h1
    obtain ⟨⟨x, rfl⟩, hJ⟩ := h _ _ _ _ hI
    exact kk x sc2 mI2 mL2 H1 locs1 hI (lw_mod hS hJ) h5 h6
  · rintro C x G1 k n H1 locs1 ⟨-, -, v2, sc2, mI2, mL2, h1, -⟩
    cases h1
/-- .. a long -/
theorem lw_kJ (hS : lw_S E X o mo ar ix t cap d dm sc mI mL f G) (h : ∀ v sc2 mI2 mL2, I v sc2 mI2 mL2 → (∃ x : Int64, v = some (.long x)) ∧ ∃ N S : Nat, mo_I sc2 mI2 N dm2 S)
    (kk : ∀ (x : Int64) (sc2 : Nat → Int32) (mI2 : Nat → Nat → Int32) (mL2 : Nat → Nat → Int64) (H1 : Heap) (locs1 : List Loc), I (some (.long x)) sc2 mI2 mL2 → lw_S E X o mo ar ix t cap d dm2 sc2 mI2 mL2 f (mo_W E mo ar ix sc2 mI2 mL2 G) → hs_W (eD E) vwCl (eH E) (mo_W E mo ar ix sc2 mI2 mL2 G) H1 → (∀ q ∈ locs1, (eH E).size ≤ q.base) → W p l e R s m args below meth c H1 locs1 cells slots Q (F0 m (pc + 3) ls (.long x :: rest))) : hs_Kr (eD E) vwCl (eH E) (mo_P E mo ar ix G I) rm p l e R s m args below meth c cells slots Q pc ls rest := by
  refine ⟨?_, ?_⟩
  · rintro v G1 k n H1 locs1 ⟨rfl, rfl, v2, sc2, mI2, mL2, h1, rfl, hI⟩ h3 h4 h5 h6
    cases h1
    obtain ⟨⟨x, rfl⟩, hJ⟩ := h _ _ _ _ hI
    exact kk x sc2 mI2 mL2 H1 locs1 hI (lw_mod hS hJ) h5 h6
  · rintro C x G1 k n H1 locs1 ⟨-, -, v2, sc2, mI2, mL2, h1, -⟩
    cases h1
end LW66c
/-- a call that only sets what 'thrown' tells keeps what is known of the reference -/
theorem lw_keep {sc sc2 : Nat → Int32} {mI mI2 : Nat → Nat → Int32} {N d S : Nat} (h : mo_I sc mI N d S) (h1 : mI2 = mI) (h2 : ∀ j, j ≠ 0 → sc2 j = sc j) : ∃ N S : Nat, mo_I sc2 mI2 N d S := by
  subst h1
  obtain ⟨a1, a2, a3, a4, a5, a6⟩ := h
  exact ⟨N, S, (h2 4 (by decide)).trans a1, a2, (h2 1 (by decide)).trans a3, a4, (h2 23 (by decide)).trans a5, a6⟩
theorem lw_hol {d : Nat} {day : Int32} {mI mI2 : Nat → Nat → Int32} {sc2 : Nat → Int32} {v : Option Value} {P : Prop} [Decidable P] (h : mo_J d sc2 mI2 ∧ sc2 0 = (if P then 0 else 1) ∧ (P → v = some (.int (if mI 2 day.toNatClampNeg = 0 then 1 else 0)) ∧ mI2 2 = upd (mI 2) day.toNatClampNeg 1) ∧ (¬ P → v = some (.int 0) ∧ mI2 2 = mI 2)) : (∃ x : Int32, v = some (.int x)) ∧ ∃ N S : Nat, mo_I sc2 mI2 N d S := by
  refine ⟨?_, h.1⟩
  by_cases z : P
  · exact ⟨_, (h.2.2.1 z).1⟩
  · exact ⟨_, (h.2.2.2 z).1⟩
theorem lw_64 {x : Int32} : (0 ≤ x.toInt64 ∧ x.toInt64 ≤ 4) ↔ (0 ≤ x ∧ x ≤ 4) := by
  rw [Int64.le_iff_toInt_le, Int64.le_iff_toInt_le, Int32.le_iff_toInt_le, Int32.le_iff_toInt_le, Int32.toInt_toInt64, Int64.toInt_zero, Int32.toInt_zero]
  exact Iff.rfl
/-- what goes on behind a case of the law's switch -/
def lw_Kk (E : hs_E) (p : Program) (e : Env) (s : State) (m : MethodId) (args : Array Value) (below : List Frame) (meth : Method) (c : Code) (b : Nat) (i : Int32) (x o mo : Nat) (ar : Nat → Nat) (ix : Nat → Option Nat) (jj cells slots : Nat) (Q : State → Prop) (pc : Nat) : Prop :=
  ∀ (G' : hs_G) (H' : Heap) (locs' : List Loc) (ls' : Array Slot) (k n : Nat), k ≤ 460 → n ≤ 2030 → lw_B E x o mo ar ix (jj + 1) G' → hs_W (eD E) vwCl (eH E) G' H' → (∀ q ∈ locs', (eH E).size ≤ q.base) → lv_has ls' 8 [(0, .ref b), (1, .ref x), (2, .ref mo), (3, .ref o), (4, .int i)] → W p E.1 e room_1 s m args below meth c H' locs' (cells + k) (slots + n) Q (F0 m pc ls' [])
theorem lw_hx {x : Int32} {mj : Int32} {b : Bool} (e : x = if mj = 0 then 1 else 0) (hr : mj = if b = true then 1 else 0) : (x = 0 → (if b = true then (0 : Int64) else 1) = 0) ∧ (¬ x = 0 → (if b = true then (0 : Int64) else 1) = 1) := by
  subst hr
  subst e
  cases b <;> decide
theorem lw_nok {d j : Nat} {dy : Int32} (hok : ¬ (nI d < dy ∧ dy ≤ 20000)) (e : dy = nI j) (h1 : d < j) (h2 : j ≤ 20000) : False := by
  subst e
  refine hok ⟨(nI_ltI (by omega) (by omega)).mpr h1, ?_⟩
  rw [show (20000 : Int32) = nI 20000 by decide +kernel]
  exact (nI_leI (by omega) (by omega)).mpr h2
