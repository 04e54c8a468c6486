/-! the class: end told -/
theorem cl_T.pN {E : hs_E} {t : cl_t} {cap X : Nat → Nat} {d a : Nat} {G : hs_G} (h : cl_T E t cap X d G) (ha : t a = some (50, 0)) {nu te : Int32} {t1 s1 s2 : Nat} {st du ql am fa pr ip : Int32} (h1 : t t1 = some (51, 0)) (h2 : t s1 = some (52, 0)) (h3 : t s2 = some (52, 0)) (hb9 : 0 ≤ ql.toInt ∧ ql.toInt ≤ 1000000 ∧ 0 ≤ am.toInt ∧ am.toInt ≤ 1000000000) (hno : X 99 = 0 → ∀ (L g : Nat) (mc : Int32) (A sz : Nat) (f : Nat → Option Nat), t L = some (54, g) → G L = some (al_o mc A (nI sz)) → sz ≤ 6 → G A = some (al_a E (cap L) f) → ∀ u, u < sz → f u ≠ some a) :
    cl_T E t cap X d (hs_up G a (cl_tr nu te t1 s1 s2 st du ql am fa pr ip .null)) ∧ cl_F t G t (hs_up G a (cl_tr nu te t1 s1 s2 st du ql am fa pr ip .null)) := by
  have hq := h.off.pT (nu := nu) (te := te) (st := st) (du := du) (ql := ql) (am := am) (fa := fa) (pr := pr) (ip := ip) (g := .null) ha h1 h2 h3 (Or.inl rfl) hb9 (fun z => absurd z (by rw [va_up_self]; decide)) (fun _ => rfl)
  refine ⟨hq.1.on (fun z L g hL => ?_), hq.2⟩
  obtain ⟨mc, A, sz, f, d1, d2, d3, d4, d5, d6, d7, d8⟩ := h.D z hL
  have nL : L ≠ a := fun w => by rw [w, ha] at hL; cases hL
  have nA : A ≠ a := fun w => by
    rcases d3 with y | y
    · have y1 := h.2.2.2.1.1
      have y2 := h.sz ha
      omega
    · rw [w, ha] at y
      cases y
  have ng : g ≠ a := fun w => by rw [w, ha] at d7; cases d7
  refine ⟨mc, A, sz, f, by rw [hs_up_ne _ _ nL]; exact d1, by rw [hs_up_ne _ _ nA]; exact d2, d3, d4, d5, fun u hu => ?_, d7, by rw [hs_up_ne _ _ ng]; exact d8⟩
  obtain ⟨x, y1, y2, y3⟩ := d6 u hu
  have nx : x ≠ a := fun w => hno z L g mc A sz f hL d1 d4 d2 u hu (by rw [y1, w])
  exact ⟨x, y1, y2, by rw [hs_up_ne _ _ nx]; exact y3⟩
set_option maxHeartbeats 4000000 in
set_option maxRecDepth 100000 in
/-- Trade.end of a trade in no group -/
theorem ct_X5_endN (E : hs_E) (t : cl_t) (cap X : Nat → Nat) (d : Nat) (G : hs_G) (hT : cl_T E t cap X d G) (a : Nat) (ha : t a = some (50, 0)) (nu te : Int32) (t1 s1 s2 : Nat) (st du ql am fa pr ip : Int32) (hX : G a = some (cl_tr nu te t1 s1 s2 st du ql am fa pr ip .null)) (ht1 : t t1 = some (51, 0)) (ht2 : t s1 = some (52, 0)) (ht3 : t s2 = some (52, 0)) (hb9 : 0 ≤ ql.toInt ∧ ql.toInt ≤ 1000000 ∧ 0 ≤ am.toInt ∧ am.toInt ≤ 1000000000) (es : Int32) (hes : es ≠ 0) : hM E yX5_end ({ frames := 4, cells := 0, slots := 0, locals := 130 }) [.ref a, .int es] G (hs_V (fun G1 k n => k = 0 ∧ n = 0 ∧ cl_T E t cap X d G1 ∧ cl_F t G t G1 ∧ G1 = hs_up G a (cl_tr nu te t1 s1 s2 es du ql am fa pr ip .null))) := by
  refine hs_ofW (cc := cX5_end) (maxL := 2) (ret := none) (by decide) co_X5_end ?_
  intro p e s m args below meth c hC hlocks hr hin0 hnoh hW
  obtain ⟨hx, hb, hml, hown, hts, -⟩ := id hC
  have hE := hW
  have hL : ∀ q ∈ ([] : List Loc), (eH E).size ≤ q.base := fun q hq => nomatch hq
  have hl := lv_entry ([.ref a, .int es] : List Value) (n := 2) (Nat.le_of_ble_eq_true rfl)
  rw [lg_entry_eq]
  generalize (lg_sl [.ref a, .int es] ++ List.replicate (2 - (lg_sl [.ref a, .int es]).length) Slot.unset).toArray = ls at hl ⊢
  have hl : lv_has ls 2 [(0, .ref a), (1, .int es)] := hl
  have hg0 : cl_g t .null := Or.inl rfl
  refine lv_aload_n hx hb dX5_end_0 rfl (lv_at hl 0 rfl) ?_
  refine lv_iload_n hx hb dX5_end_1 rfl (lv_at hl 1 rfl) ?_
  refine hs_put hC hW hL hi_X5 tyX5 tyX5_ok nmX5 rfl 5 (by decide) lk_X5_21 rfl rfl hX (hT.sz ha) rfl rfl (Nat.le_of_ble_eq_true rfl) dX5_end_2 (fun H locs hW hL => ?_)
  have hT1 := hT.pT (st := es) (nu := nu) (te := te) (du := du) (ql := ql) (am := am) (fa := fa) (pr := pr) (ip := ip) ha ht1 ht2 ht3 hg0 hb9 (fun _ g' hg' => cl_grI (by rw [hX] at hg'; exact hg')) (fun z => absurd z hes)
  refine lv_aload_n hx hb dX5_end_5 rfl (lv_at hl 0 rfl) ?_
  refine hs_get hC hW hi_X5 rfl 12 (by decide) lk_X5_38 rfl (hs_up_eq _ _ _) rfl dX5_end_6 ?_
  refine lv_ifnullN (tgt := 25) hx hb dX5_end_9 (by decide) ?_
  exact hs_vret hC hW hL hr hlocks (by decide) (by decide) dX5_end_25 ⟨rfl, rfl, rfl, hT1.1, hT1.2, rfl⟩
theorem cl_end {E : hs_E} {t : cl_t} {cap X : Nat → Nat} {d a g L A sz : Nat} {G G2 : hs_G} {mc : Int32} {f : Nat → Option Nat} {y : va_E} {nu te : Int32} {t1 s1 s2 : Nat} {st du ql am fa pr ip : Int32} (hT2 : cl_T E t cap X d G2) (h99 : X 99 = 0) (hLt : t L = some (54, g)) (hGr : G g = some (.inr (2, [.ref L]))) (hLo : G L = some (al_o mc A (nI sz))) (hmx : sz ≤ 6) (hLa : G A = some (al_a E (cap L) f)) (hsc : sz ≤ cap L) (nL : L ≠ a) (nA : A ≠ a) (ng : g ≠ a) (hXa : G2 a = some (cl_tr nu te t1 s1 s2 st du ql am fa pr ip (.ref g))) (hdr : (G2 = hs_up G a y ∧ ∀ u, u < sz → f u ≠ some a) ∨ ∃ (i : Nat) (f2 : Nat → Option Nat) (mc2 : Int32), i < sz ∧ f i = some a ∧ (∀ u, u < i → f u ≠ some a) ∧ (∀ j, j < sz - 1 → f2 j = f (if j < i then j else j + 1)) ∧ G2 = hs_up (hs_up (hs_up G a y) A (al_a E (cap L) f2)) L (al_o mc2 A (nI (sz - 1)))) (hinj : ∀ i j, i < sz → j < sz → f i = f j → i = j) (nAg : A ≠ g) (ngL : g ≠ L) : X 99 = 0 → ∀ (L' g' : Nat) (mc' : Int32) (A' sz' : Nat) (f' : Nat → Option Nat), t L' = some (54, g') → G2 L' = some (al_o mc' A' (nI sz')) → sz' ≤ 6 → G2 A' = some (al_a E (cap L') f') → ∀ u, u < sz' → f' u ≠ some a := by
  intro z L' g' mc' A' sz' f' hL' h1 h2 h3 u hu hfa
  obtain ⟨q1, q2⟩ := (hT2.D z hL').at h1 h2 h3
  obtain ⟨x, y1, -, y3⟩ := q2 u hu
  rw [hfa] at y1
  cases y1
  rw [hXa] at y3
  have e := cl_grI y3
  cases e
  obtain ⟨-, -, -, -, -, -, -, -, -, -, -, d8⟩ := hT2.D z hL'
  obtain ⟨-, -, -, -, -, -, -, -, -, -, -, d9⟩ := hT2.D z hLt
  rw [d8] at d9
  cases d9
  have nAL : A ≠ L := al_ne hLo hLa
  rcases hdr with ⟨e, hn⟩ | ⟨i, f2, mc2, hi, hfi, -, hf2, e⟩
  · rw [e, hs_up_ne _ _ nL, hLo] at h1
    simp only [Option.some.injEq, Sum.inr.injEq, Prod.mk.injEq, List.cons.injEq, Value.int.injEq, Value.ref.injEq, and_true, true_and] at h1
    obtain ⟨rfl, rfl, e3⟩ := h1
    rw [dt_nI (by omega) (by omega)] at e3
    subst e3
    rw [e, hs_up_ne _ _ nA, hLa] at h3
    cases h3
    exact hn u hu hfa
  · rw [e, hs_up_eq] at h1
    simp only [Option.some.injEq, Sum.inr.injEq, Prod.mk.injEq, List.cons.injEq, Value.int.injEq, Value.ref.injEq, and_true, true_and] at h1
    obtain ⟨rfl, rfl, e3⟩ := h1
    rw [dt_nI (by omega) (by omega)] at e3
    subst e3
    rw [e, hs_up_ne _ _ nAL, hs_up_eq] at h3
    cases h3
    rw [hf2 u hu] at hfa
    have w := hinj _ _ (by split <;> omega) hi (hfa.trans hfi.symm)
    split at w <;> omega
set_option maxHeartbeats 4000000 in
set_option maxRecDepth 100000 in
/-- Trade.end of a trade in a group -/
theorem ct_X5_endG (E : hs_E) (t : cl_t) (cap X : Nat → Nat) (d : Nat) (G : hs_G) (hT : cl_T E t cap X d G) (a : Nat) (ha : t a = some (50, 0)) (nu te : Int32) (t1 s1 s2 : Nat) (st du ql am fa pr ip : Int32) (g L A sz : Nat) (mc : Int32) (f : Nat → Option Nat) (hLt : t L = some (54, g)) (hGr : G g = some (.inr (2, [.ref L]))) (hLo : G L = some (al_o mc A (nI sz))) (hLa : G A = some (al_a E (cap L) f)) (hsc : sz ≤ cap L) (hmx : sz ≤ 6) (hcp : cap L ≤ 223) (hel : ∀ j, j < sz → ∃ x : Nat, f j = some x ∧ t x = some (50, 0)) (hAA : (A = eE E ∧ cap L = 0) ∨ (t A = some (60, L) ∧ 0 < cap L)) (hgt : t g = some (53, 0)) (h99 : X 99 = 0) (hX : G a = some (cl_tr nu te t1 s1 s2 st du ql am fa pr ip (.ref g))) (ht1 : t t1 = some (51, 0)) (ht2 : t s1 = some (52, 0)) (ht3 : t s2 = some (52, 0)) (hb9 : 0 ≤ ql.toInt ∧ ql.toInt ≤ 1000000 ∧ 0 ≤ am.toInt ∧ am.toInt ≤ 1000000000) (es : Int32) (hes : es ≠ 0) : hM E yX5_end ({ frames := 4, cells := 0, slots := 0, locals := 130 }) [.ref a, .int es] G (hs_V (fun G1 k n => k = 0 ∧ n = 0 ∧ cl_T E t cap X d G1 ∧ cl_F t G t G1 ∧ ∃ G2, G1 = hs_up G2 a (cl_tr nu te t1 s1 s2 es du ql am fa pr ip .null) ∧ ((G2 = hs_up G a (cl_tr nu te t1 s1 s2 es du ql am fa pr ip (.ref g)) ∧ ∀ u, u < sz → f u ≠ some a) ∨ ∃ (i : Nat) (f2 : Nat → Option Nat) (mc2 : Int32), i < sz ∧ f i = some a ∧ (∀ u, u < i → f u ≠ some a) ∧ (∀ j, j < sz - 1 → f2 j = f (if j < i then j else j + 1)) ∧ G2 = hs_up (hs_up (hs_up G a (cl_tr nu te t1 s1 s2 es du ql am fa pr ip (.ref g))) A (al_a E (cap L) f2)) L (al_o mc2 A (nI (sz - 1)))))) := by
  refine hs_ofW (cc := cX5_end) (maxL := 2) (ret := none) (by decide) co_X5_end ?_
  intro p e s m args below meth c hC hlocks hr hin0 hnoh hW
  obtain ⟨hx, hb, hml, hown, hts, -⟩ := id hC
  have hE := hW
  have hL : ∀ q ∈ ([] : List Loc), (eH E).size ≤ q.base := fun q hq => nomatch hq
  have hl := lv_entry ([.ref a, .int es] : List Value) (n := 2) (Nat.le_of_ble_eq_true rfl)
  rw [lg_entry_eq]
  generalize (lg_sl [.ref a, .int es] ++ List.replicate (2 - (lg_sl [.ref a, .int es]).length) Slot.unset).toArray = ls at hl ⊢
  have hl : lv_has ls 2 [(0, .ref a), (1, .int es)] := hl
  have hg0 : cl_g t (.ref g) := Or.inr ⟨g, rfl, hgt⟩
  have nL : L ≠ a := fun w => by rw [w, ha] at hLt; cases hLt
  have ng : g ≠ a := fun w => by rw [w, ha] at hgt; cases hgt
  have nA : A ≠ a := fun w => by rw [w, hX] at hLa; cases hLa
  refine lv_aload_n hx hb dX5_end_0 rfl (lv_at hl 0 rfl) ?_
  refine lv_iload_n hx hb dX5_end_1 rfl (lv_at hl 1 rfl) ?_
  refine hs_put hC hW hL hi_X5 tyX5 tyX5_ok nmX5 rfl 5 (by decide) lk_X5_21 rfl rfl hX (hT.sz ha) rfl rfl (Nat.le_of_ble_eq_true rfl) dX5_end_2 (fun H locs hW hL => ?_)
  have hT1 := hT.pT (st := es) (nu := nu) (te := te) (du := du) (ql := ql) (am := am) (fa := fa) (pr := pr) (ip := ip) ha ht1 ht2 ht3 hg0 hb9 (fun _ g' hg' => cl_grI (by rw [hX] at hg'; exact hg')) (fun z => absurd z hes)
  refine lv_aload_n hx hb dX5_end_5 rfl (lv_at hl 0 rfl) ?_
  refine hs_get hC hW hi_X5 rfl 12 (by decide) lk_X5_38 rfl (hs_up_eq _ _ _) rfl dX5_end_6 ?_
  refine lv_ifnull hx hb dX5_end_9 ?_
  refine lv_aload_n hx hb dX5_end_12 rfl (lv_at hl 0 rfl) ?_
  refine hs_get hC hW hi_X5 rfl 12 (by decide) lk_X5_38 rfl (hs_up_eq _ _ _) rfl dX5_end_13 ?_
  refine lv_aload_n hx hb dX5_end_16 rfl (lv_at hl 0 rfl) ?_
  refine hs_callVN hC hs_Tok hW hL (ct_X1_drop E t cap X d _ hT1.1 g L A sz mc f hLt ((hs_up_ne _ _ ng).trans hGr) ((hs_up_ne _ _ nL).trans hLo) ((hs_up_ne _ _ nA).trans hLa) hsc hmx hcp hel hAA a) cw_X1_drop lk_X5_72 im_X1_drop se_X1_drop (hs_recv hC hW ((hs_up_ne _ _ ng).trans hGr) rfl) hl.1 (by decide) (Nat.le_of_ble_eq_true rfl) dX5_end_17 (hs_kV (fun G2 k n H locs hI hk hn hW hL => ?_))
  obtain ⟨rfl, rfl, hT2, hF2, hdr⟩ := hI
  have hXa : G2 a = some (cl_tr nu te t1 s1 s2 es du ql am fa pr ip (.ref g)) := by (rcases hdr with ⟨e, -⟩ | ⟨i, f2, mc2, -, -, -, -, e⟩; rw [e, hs_up_eq]; rw [e, hs_up_ne _ _ nL.symm, hs_up_ne _ _ nA.symm, hs_up_eq])
  have hno : X 99 = 0 → ∀ (L' g' : Nat) (mc' : Int32) (A' sz' : Nat) (f' : Nat → Option Nat), t L' = some (54, g') → G2 L' = some (al_o mc' A' (nI sz')) → sz' ≤ 6 → G2 A' = some (al_a E (cap L') f') → ∀ u, u < sz' → f' u ≠ some a := cl_end hT2 h99 hLt hGr hLo hmx hLa hsc nL nA ng hXa hdr ((hT.D h99 hLt).at hLo hmx hLa).1 (al_ne hGr hLa) (fun w => by rw [w, hLo] at hGr; cases hGr)
  have hT3 := hT2.pN (nu := nu) (te := te) (st := es) (du := du) (fa := fa) (pr := pr) (ip := ip) ha ht1 ht2 ht3 hb9 hno
  refine lv_aload_n hx hb dX5_end_20 rfl (lv_at hl 0 rfl) ?_
  refine lv_null hx hb dX5_end_21 ?_
  refine hs_put hC hW hL hi_X5 tyX5 tyX5_ok nmX5 rfl 12 (by decide) lk_X5_38 rfl rfl hXa (hT.sz ha) rfl rfl (Nat.le_of_ble_eq_true rfl) dX5_end_22 (fun H locs hW hL => ?_)
  exact hs_vret hC hW hL hr hlocks (by decide) (by decide) dX5_end_25 ⟨rfl, rfl, rfl, hT3.1, (hT1.2.tr hF2).tr hT3.2, G2, rfl, hdr⟩
