/-! parts; the step of settleWholly; end -/
theorem i64_mul {a b : Int64} (h1 : -4611686018427387904 ≤ a.toInt * b.toInt) (h2 : a.toInt * b.toInt ≤ 4611686018427387904) : (a * b).toInt = a.toInt * b.toInt := by
  rw [Int64.toInt_mul]
  exact Int.bmod_eq_of_le (by omega) (by omega)
theorem i64_div {a b : Int64} (ha : 0 ≤ a.toInt) (hb9 : 0 < b.toInt) : (a / b).toInt = a.toInt / b.toInt := by
  rw [Int64.toInt_div, Int.tdiv_eq_ediv_of_nonneg ha]
  have h1 := Int64.toInt_lt a
  have h2 : a.toInt / b.toInt ≤ a.toInt := Int.ediv_le_self _ ha
  have h3 : 0 ≤ a.toInt / b.toInt := Int.ediv_nonneg ha (by omega)
  exact Int.bmod_eq_of_le (by omega) (by omega)
theorem i64_divm {a b : Int64} (ha : a.toInt = -1) (hb9 : 0 < b.toInt) : -1 ≤ (a / b).toInt ∧ (a / b).toInt ≤ 0 := by
  rw [Int64.toInt_div, ha, Int.neg_tdiv, Int.tdiv_eq_ediv_of_nonneg (by omega)]
  have h2 : (1 : Int) / b.toInt ≤ 1 := Int.ediv_le_self _ (by omega)
  have h3 : 0 ≤ (1 : Int) / b.toInt := Int.ediv_nonneg (by omega) (by omega)
  have h4 : (-(1 / b.toInt)).bmod (2 ^ 64) = -(1 / b.toInt) := Int.bmod_eq_of_le (by omega) (by omega)
  rw [h4]
  omega
theorem i64_32 {a : Int64} (h1 : -1073741824 ≤ a.toInt) (h2 : a.toInt ≤ 1073741824) : a.toInt32.toInt = a.toInt := by
  rw [Int64.toInt_toInt32]
  exact Int.bmod_eq_of_le (by omega) (by omega)
theorem gp_min (a b : Int64) : (if lg_cmp a b > 0 then b else a).toInt ≤ a.toInt ∧ (if lg_cmp a b > 0 then b else a).toInt ≤ b.toInt ∧ ((if lg_cmp a b > 0 then b else a).toInt = a.toInt ∨ (if lg_cmp a b > 0 then b else a).toInt = b.toInt) := by
  by_cases z : lg_cmp a b > 0
  · have h := (lg_cmp_gt a b).mp z
    rw [Int64.lt_iff_toInt_lt] at h
    rw [if_pos z]
    omega
  · have h : ¬ b < a := fun w => z ((lg_cmp_gt a b).mpr w)
    rw [Int64.lt_iff_toInt_lt] at h
    rw [if_neg z]
    omega
theorem gp_q1 {ql : Int32} (hq : 0 ≤ ql.toInt ∧ ql.toInt ≤ 1000000) : (ql - 1).toInt64.toInt = ql.toInt - 1 := by
  rw [hs_64, Int32.toInt_sub, show (1 : Int32).toInt = 1 by decide]
  exact Int.bmod_eq_of_le (by omega) (by omega)
/-- x of a trade of ql against am may be settled: the deliverer has hd, the receiver ca -/
def gpQ (ql am x : Int32) (hd ca : Int) : Prop := 0 < x.toInt → x.toInt ≤ ql.toInt - 1 ∧ x.toInt ≤ hd ∧ am.toInt * x.toInt / ql.toInt ≤ ca
theorem gp_sh {am x q : Int} (ham : 0 ≤ am) (hq : 0 < q) (h : x ≤ q) : am * x / q ≤ am := by
  have h1 : am * x ≤ am * q := Int.mul_le_mul_of_nonneg_left h ham
  have h2 := Int.ediv_le_ediv hq h1
  rw [Int.mul_ediv_cancel _ (by omega)] at h2
  exact h2
theorem gp_A {ql am : Int32} {hd : Int64} {ca : Int} (hq : 0 ≤ ql.toInt ∧ ql.toInt ≤ 1000000) (ham : 0 ≤ am.toInt) (hh : 0 ≤ hd.toInt) (hc : am.toInt ≤ ca) : gpQ ql am (if lg_cmp (ql - 1).toInt64 hd > 0 then hd else (ql - 1).toInt64).toInt32 hd.toInt ca := by
  have h1 := gp_min (ql - 1).toInt64 hd
  rw [gp_q1 hq] at h1
  generalize (if lg_cmp (ql - 1).toInt64 hd > 0 then hd else (ql - 1).toInt64) = y at h1 ⊢
  intro hx
  rw [i64_32 (by omega) (by omega)] at hx ⊢
  have h2 := gp_sh (x := y.toInt) (q := ql.toInt) ham (by omega) (by omega)
  omega
theorem gp_C {ql am : Int32} {hd ca : Int64} (hq : 0 ≤ ql.toInt ∧ ql.toInt ≤ 1000000) (ham : 0 < am.toInt ∧ am.toInt ≤ 1000000000) (hh : 0 ≤ hd.toInt) (hc : 0 ≤ ca.toInt ∧ ca.toInt < am.toInt) : gpQ ql am (if lg_cmp (if lg_cmp (ql - 1).toInt64 hd > 0 then hd else (ql - 1).toInt64) (((ca + 1) * ql.toInt64 - 1) / am.toInt64) > 0 then (((ca + 1) * ql.toInt64 - 1) / am.toInt64) else (if lg_cmp (ql - 1).toInt64 hd > 0 then hd else (ql - 1).toInt64)).toInt32 hd.toInt ca.toInt := by
  have h1 := gp_min (ql - 1).toInt64 hd
  rw [gp_q1 hq] at h1
  generalize (if lg_cmp (ql - 1).toInt64 hd > 0 then hd else (ql - 1).toInt64) = y at h1 ⊢
  have e1 : Int64.toInt 1 = 1 := by decide
  have a1 : (ca + 1).toInt = ca.toInt + 1 := by rw [i64_add (by omega) (by omega), e1]
  have b1 : 0 ≤ (ca.toInt + 1) * ql.toInt := Int.mul_nonneg (by omega) hq.1
  have b2 : (ca.toInt + 1) * ql.toInt ≤ 1000000000 * 1000000 := Int.mul_le_mul (by omega) hq.2 hq.1 (by omega)
  have a2 : ((ca + 1) * ql.toInt64).toInt = (ca.toInt + 1) * ql.toInt := by rw [i64_mul (by rw [a1, hs_64]; omega) (by rw [a1, hs_64]; omega), a1, hs_64]
  have a3 : ((ca + 1) * ql.toInt64 - 1).toInt = (ca.toInt + 1) * ql.toInt - 1 := by rw [i64_sub (by rw [a2, e1]; omega) (by rw [a2, e1]; omega), a2, e1]
  have h2 := gp_min y (((ca + 1) * ql.toInt64 - 1) / am.toInt64)
  have e64 : am.toInt64.toInt = am.toInt := hs_64 am
  generalize hz : (((ca + 1) * ql.toInt64 - 1) / am.toInt64) = z at h2 ⊢
  by_cases q0 : ql.toInt = 0
  · have h3 := i64_divm (a := (ca + 1) * ql.toInt64 - 1) (b := am.toInt64) (by rw [a3, q0]; omega) (by omega)
    rw [hz] at h3
    generalize (if lg_cmp y z > 0 then z else y) = w at h2 ⊢
    intro hx
    rw [i64_32 (by omega) (by omega)] at hx
    omega
  · have b3 : ca.toInt + 1 ≤ (ca.toInt + 1) * ql.toInt := by
      have := Int.mul_le_mul_of_nonneg_left (show 1 ≤ ql.toInt by omega) (show 0 ≤ ca.toInt + 1 by omega)
      omega
    have h3 := i64_div (a := (ca + 1) * ql.toInt64 - 1) (b := am.toInt64) (by rw [a3]; omega) (by omega)
    rw [hz, a3, e64] at h3
    have h4 : 0 ≤ ((ca.toInt + 1) * ql.toInt - 1) / am.toInt := Int.ediv_nonneg (by omega) (by omega)
    generalize (if lg_cmp y z > 0 then z else y) = w at h2 ⊢
    intro hx
    rw [i64_32 (by omega) (by omega)] at hx ⊢
    have h5 : w.toInt ≤ ((ca.toInt + 1) * ql.toInt - 1) / am.toInt := by omega
    have h6 := (Int.le_ediv_iff_mul_le ham.1).mp h5
    refine ⟨by omega, by omega, ?_⟩
    have h7 : am.toInt * w.toInt < (ca.toInt + 1) * ql.toInt := by rw [Int.mul_comm]; omega
    have h8 := Int.ediv_lt_of_lt_mul (show 0 < ql.toInt by omega) h7
    omega
/-- the share of the amount -/
theorem gp_share {ql am pa : Int32} (hq : 0 < ql.toInt ∧ ql.toInt ≤ 1000000) (ham : 0 ≤ am.toInt ∧ am.toInt ≤ 1000000000) (hp : 0 ≤ pa.toInt ∧ pa.toInt ≤ ql.toInt) : (am.toInt64 * pa.toInt64 / ql.toInt64).toInt32.toInt = am.toInt * pa.toInt / ql.toInt ∧ 0 ≤ am.toInt * pa.toInt / ql.toInt ∧ am.toInt * pa.toInt / ql.toInt ≤ am.toInt := by
  have b1 : 0 ≤ am.toInt * pa.toInt := Int.mul_nonneg ham.1 hp.1
  have b2 : am.toInt * pa.toInt ≤ 1000000000 * 1000000 := Int.mul_le_mul ham.2 (by omega) hp.1 (by omega)
  have a1 : (am.toInt64 * pa.toInt64).toInt = am.toInt * pa.toInt := by rw [i64_mul (by rw [hs_64, hs_64]; omega) (by rw [hs_64, hs_64]; omega), hs_64, hs_64]
  have e64 : ql.toInt64.toInt = ql.toInt := hs_64 ql
  have h3 := i64_div (a := am.toInt64 * pa.toInt64) (b := ql.toInt64) (by omega) (by omega)
  rw [a1, e64] at h3
  have h4 : 0 ≤ am.toInt * pa.toInt / ql.toInt := Int.ediv_nonneg b1 (by omega)
  have h5 := gp_sh (x := pa.toInt) (q := ql.toInt) ham.1 (by omega) (by omega)
  rw [i64_32 (by omega) (by omega), h3]
  omega
theorem sw_step {E : hs_E} {t : cl_t} {cap X Y : Nat → Nat} {d g L A sz j x9 : Nat} {G G1 G2 G3 G4 : hs_G} {f f1 : Nat → Option Nat} {nu te : Int32} {t1 s1 s2 : Nat} {st du ql am fa pr ip : Int32} {g9 : Value} {de re se : Nat} {q0 m0 : Int32} {dy lg : Nat} {y y2 : va_E} {y3 : hs_G}
    (i1 : j + 1 ≤ sz) (hmx : sz ≤ 6) (i2 : cl_T E t cap Y d G1) (i6 : G1 g = some (.inr (2, [.ref L]))) (i7 : vK X Y G f sz G1 f1 (j + 1)) (hT : cl_T E t cap X d G) (hel : ∀ j, j < sz → ∃ x : Nat, f j = some x ∧ t x = some (50, 0)) (hel1 : ∀ u, u < j + 1 → ∃ x : Nat, f1 u = some x ∧ t x = some (50, 0)) (hJ : vJ X) (hB : X 97 ≤ 1152921504606846976) (hinj : ∀ a b, a < j + 1 → b < j + 1 → f1 a = f1 b → a = b) (hfx : f1 0 = some x9) (htx : t x9 = some (50, 0)) (hX : G1 x9 = some (cl_tr nu te t1 s1 s2 st du ql am fa pr ip g9)) (hTe : G1 t1 = some (cl_te de re se q0 m0 dy lg)) (hde : de < 16) (hre : re < 16) (hse : se < 8) (hne : de ≠ re) (hb9 : 0 ≤ ql.toInt ∧ ql.toInt ≤ 1000000 ∧ 0 ≤ am.toInt ∧ am.toInt ≤ 1000000000) (hgt : t g = some (53, 0)) (hLt : t L = some (54, g)) (hA : t A = some (60, L)) (hfr2 : ∀ q kq, t q = some kq → 40 ≤ kq.1 → q ≠ x9 → G2 q = G1 q) (e3 : G3 = hs_up G4 x9 y)
    (hdr : (G4 = y3 ∧ ∀ u, u < j + 1 → f1 u ≠ some x9) ∨ ∃ (i : Nat) (f2 : Nat → Option Nat) (mc2 : Int32), i < j + 1 ∧ f1 i = some x9 ∧ (∀ u, u < i → f1 u ≠ some x9) ∧ (∀ u, u < j + 1 - 1 → f2 u = f1 (if u < i then u else u + 1)) ∧ G4 = hs_up (hs_up (hs_up G2 x9 y2) A (al_a E (cap L) f2)) L (al_o mc2 A (nI (j + 1 - 1)))) :
    ∃ (mc2 : Int32) (f2 : Nat → Option Nat), G3 L = some (al_o mc2 A (nI j)) ∧ G3 A = some (al_a E (cap L) f2) ∧ G3 g = some (.inr (2, [.ref L])) ∧ vK X (vSt Y de re se ql.toInt64 am.toInt64) G f sz G3 f2 j := by
  rcases hdr with ⟨-, hn⟩ | ⟨i, f2, mc2, hi, hfi, hno, hf2, e4⟩
  · exact absurd hfx (hn 0 (by omega))
  have hi0 : i = 0 := by
    rcases Nat.eq_zero_or_pos i with z | z
    · exact z
    · exact absurd hfx (hno 0 z)
  subst hi0
  have nk : ∀ {x y : Nat} {k : Nat × Nat} {k' : Nat × Nat}, t x = some k → t y = some k' → k ≠ k' → x ≠ y := fun hx hy hk z => hk (by rw [z, hy] at hx; cases hx; rfl)
  have nLx : L ≠ x9 := nk hLt htx (by simp)
  have nAx : A ≠ x9 := nk hA htx (by simp)
  have nAL : A ≠ L := nk hA hLt (by simp)
  have hfr3 : ∀ q kq, t q = some kq → 40 ≤ kq.1 → q ≠ x9 → q ≠ L → q ≠ A → G3 q = G1 q := fun q kq hq h40 n1 n2 n3 => by
    rw [e3, e4, hs_up_ne _ _ n1, hs_up_ne _ _ n2, hs_up_ne _ _ n3, hs_up_ne _ _ n1]
    exact hfr2 q kq hq h40 n1
  have e64 : ∀ x : Int32, x.toInt64.toInt = x.toInt := fun x => hs_64 x
  refine ⟨mc2, f2, ?_, ?_, ?_, i7.step hJ hB hde hre hne (by rw [e64]; omega) (by rw [e64]; omega) hmx (by omega) (fun p i u hu => tcO_bd hT hel p i u hu) (fun p i u hu => tcO_bd i2 hel1 p i u hu) (fun p i => ?_) (fun p i u hu => ?_)⟩
  · rw [e3, e4, hs_up_ne _ _ nLx, hs_up_eq]
    rfl
  · rw [e3, e4, hs_up_ne _ _ nAx, hs_up_ne _ _ nAL, hs_up_eq]
  · rw [hfr3 g _ hgt (by simp) (nk hgt htx (by simp)) (nk hgt hLt (by simp)) (nk hgt hA (by simp))]
    exact i6
  · rw [hfx, e64, e64]
    exact tcG_at hX hTe hde hre hse
  · rw [hf2 u (by omega), if_neg (by omega)]
    obtain ⟨z, hz, htz⟩ := hel1 (u + 1) (by omega)
    rw [hz]
    have nz : z ≠ x9 := fun w => by
      have := hinj (u + 1) 0 (by omega) (by omega) (by rw [hz, hfx, w])
      omega
    exact tcG_fr i2 htz (hfr3 z _ htz (by simp) nz (nk htz hLt (by simp)) (nk htz hA (by simp))) (fun q hq => hfr3 q _ hq (by simp) (nk hq htx (by simp)) (nk hq hLt (by simp)) (nk hq hA (by simp))) p i
/-- Trade.end -/
theorem ct_X5_end (E : hs_E) (t : cl_t) (cap X : Nat → Nat) (d : Nat) (G : hs_G) (hT : cl_T E t cap X d G) (a : Nat) (ha : t a = some (50, 0)) (h99 : X 99 = 0) (es : Int32) (hes : es ≠ 0) : hM E yX5_end ({ frames := 4, cells := 0, slots := 0, locals := 130 }) [.ref a, .int es] G (hs_V (cl_0 E t cap X d G)) := by
  obtain ⟨nu, te, t1, s1, s2, st, du, ql, am, fa, pr, ip, g, hX, ht1, ht2, ht3, hg9⟩ := hT.tr ha
  have hb9 := hT.b ha _ _ _ _ _ _ _ _ _ _ _ _ _ hX
  rcases hg9 with rfl | ⟨y, rfl, hy⟩
  · refine (ct_X5_endN E t cap X d G hT a ha nu te t1 s1 s2 st du ql am fa pr ip hX ht1 ht2 ht3 hb9 es hes).mono ?_
    rintro r G1 k n ⟨q0, q1, q2, q3, q4, -⟩
    exact ⟨q0, q1, q2, q3, q4⟩
  · obtain ⟨L, hGr, hLt⟩ := hT.gr hy
    obtain ⟨mc, A, sz, f, hLo, hLa, hsc, hmx, hcp, hel, hAA⟩ := hT.l54 hLt
    refine (ct_X5_endG E t cap X d G hT a ha nu te t1 s1 s2 st du ql am fa pr ip y L A sz mc f hLt hGr hLo hLa hsc hmx hcp hel hAA hy h99 hX ht1 ht2 ht3 hb9 es hes).mono ?_
    rintro r G1 k n ⟨q0, q1, q2, q3, q4, -⟩
    exact ⟨q0, q1, q2, q3, q4⟩
