/-! the class: settle told -/
section CLY
variable {E : hs_E} {t : cl_t} {cap X Y : Nat → Nat} {d : Nat} {G : hs_G}
theorem cl_T.houseY (h : cl_T E t cap Y d G) (e : ∀ n, n < 100 → Y n = X n) : G (X 0) = some (.inr (8, [.ref (X 1), .ref (X 3), .ref (X 6), .ref (X 8), .ref (X 9)])) := by
  have z := h.house
  rw [e 0 (by decide), e 1 (by decide), e 3 (by decide), e 6 (by decide), e 8 (by decide), e 9 (by decide)] at z
  exact z
theorem cl_T.daysY (h : cl_T E t cap Y d G) (e : ∀ n, n < 100 → Y n = X n) : G (X 1) = some (.inr (1, [.ref (X 2), .int (nI d)])) := by
  have z := h.days
  rw [e 1 (by decide), e 2 (by decide)] at z
  exact z
theorem cl_T.vaultY (h : cl_T E t cap Y d G) (e : ∀ n, n < 100 → Y n = X n) : G (X 3) = some (.inr (7, [.ref (X 4), .ref (X 5)])) := by
  have z := h.vault
  rw [e 3 (by decide), e 4 (by decide), e 5 (by decide)] at z
  exact z
theorem cl_T.jourY (h : cl_T E t cap Y d G) (e : ∀ n, n < 100 → Y n = X n) : ∃ r : Nat, r ≤ 1500 ∧ G (X 6) = some (.inr (3, [.ref (X 7), .int (nI r)])) := by
  obtain ⟨r, h1, z⟩ := h.jour
  rw [e 6 (by decide), e 7 (by decide)] at z
  exact ⟨r, h1, z⟩
end CLY
theorem i32_sub {a b : Int32} (h : 0 ≤ b.toInt ∧ b.toInt ≤ a.toInt) : (a - b).toInt = a.toInt - b.toInt := by
  have := Int32.toInt_lt a
  rw [Int32.toInt_sub]
  exact Int.bmod_eq_of_le (by omega) (by omega)
theorem cl_grI {nu te : Int32} {t1 s1 s2 : Nat} {st du ql am fa pr ip : Int32} {g : Value} {g' : Nat} (h : cl_gr (some (cl_tr nu te t1 s1 s2 st du ql am fa pr ip g)) g') : g = .ref g' := by
  obtain ⟨_, _, _, _, _, _, _, _, _, _, _, _, e⟩ := h
  cases e
  rfl
set_option maxHeartbeats 4000000 in
set_option maxRecDepth 100000 in
/-- settle -/
theorem ct_X7_settle (E : hs_E) (t : cl_t) (cap X : Nat → Nat) (d : Nat) (G : hs_G) (hT : cl_T E t cap X d G) (a : Nat) (ha : t a = some (50, 0)) (nu te : Int32) (t1 s1 s2 : Nat) (st du ql am fa pr ip : Int32) (g : Value) (hX : G a = some (cl_tr nu te t1 s1 s2 st du ql am fa pr ip g)) (de re se : Nat) (q0 m0 : Int32) (dy lg : Nat) (hTe : G t1 = some (cl_te de re se q0 m0 dy lg)) (hde : de < 16) (hre : re < 16) (hse : se < 8) (ht1 : t t1 = some (51, 0)) (ht2 : t s1 = some (52, 0)) (ht3 : t s2 = some (52, 0)) (hg9 : cl_g t g) (hb9 : 0 ≤ ql.toInt ∧ ql.toInt ≤ 1000000 ∧ 0 ≤ am.toInt ∧ am.toInt ≤ 1000000000) (qu an : Int32) (hq9 : 0 ≤ qu.toInt ∧ qu.toInt ≤ ql.toInt) (ha9 : 0 ≤ an.toInt ∧ an.toInt ≤ am.toInt) : hM E yX7_settle ({ frames := 1, cells := 0, slots := 0, locals := 40 }) [.ref (X 0), .ref a, .int qu, .int an] G (hs_V (fun G1 k n => k = 0 ∧ n = 0 ∧ cl_T E t cap (vSt X de re se qu.toInt64 an.toInt64) d G1 ∧ cl_F t G t G1 ∧ G1 a = some (cl_tr nu te t1 s1 s2 st du (ql - qu) (am - an) fa pr ip g) ∧ ∀ q kq, t q = some kq → 40 ≤ kq.1 → q ≠ a → G1 q = G q)) := by
  refine hs_ofW (cc := cX7_settle) (maxL := 5) (ret := none) (by decide) co_X7_settle ?_
  intro p e s m args below meth c hC hlocks hr hin0 hnoh hW
  obtain ⟨hx, hb, hml, hown, hts, -⟩ := id hC
  have hE := hW
  have hL : ∀ q ∈ ([] : List Loc), (eH E).size ≤ q.base := fun q hq => nomatch hq
  have hl := lv_entry ([.ref (X 0), .ref a, .int qu, .int an] : List Value) (n := 5) (Nat.le_of_ble_eq_true rfl)
  rw [lg_entry_eq]
  generalize (lg_sl [.ref (X 0), .ref a, .int qu, .int an] ++ List.replicate (5 - (lg_sl [.ref (X 0), .ref a, .int qu, .int an]).length) Slot.unset).toArray = ls at hl ⊢
  have hl : lv_has ls 5 [(0, .ref (X 0)), (1, .ref a), (2, .int qu), (3, .int an)] := hl
  refine lv_aload_n hx hb dX7_settle_0 rfl (lv_at hl 1 rfl) ?_
  refine hs_getN hC hW hi_X5 rfl 2 (by decide) lk_X7_172 rfl hX rfl dX7_settle_1 ?_
  refine lv_astore (lv' := [(4, .ref _), (0, .ref _), (1, .ref _), (2, .int _), (3, .int _)]) hx hb dX7_settle_4 hl (by decide) rfl (fun ls hl => ?_)
  refine lv_aload_n hx hb dX7_settle_6 rfl (lv_at hl 1 rfl) ?_
  refine hs_get hC hW hi_X7 rfl 1 (by decide) lk_X7_19 rfl hT.house rfl dX7_settle_7 ?_
  refine lv_aload hx hb dX7_settle_10 (lv_at hl 0 rfl) ?_
  refine hs_getN hC hW hi_X4 rfl 0 (by decide) lk_X7_176 rfl hTe rfl dX7_settle_12 ?_
  refine lv_aload hx hb dX7_settle_15 (lv_at hl 0 rfl) ?_
  refine hs_getN hC hW hi_X4 rfl 1 (by decide) lk_X7_179 rfl hTe rfl dX7_settle_17 ?_
  refine lv_aload hx hb dX7_settle_20 (lv_at hl 0 rfl) ?_
  refine hs_getN hC hW hi_X4 rfl 2 (by decide) lk_X7_182 rfl hTe rfl dX7_settle_22 ?_
  refine lv_iload_n hx hb dX7_settle_25 rfl (lv_at hl 3 rfl) ?_
  refine hs_callVN hC hs_Tok hW hL (ct_X6_move E t cap X d G hT de re hde hre (nI se) qu (cl_as hse)) cw_X6_move lk_X7_290 im_X6_move se_X6_move (hs_recv hC hW hT.vault rfl) hl.1 (by decide) (Nat.le_of_ble_eq_true rfl) dX7_settle_26 (hs_kV (fun G1 k n H locs hI hk hn hW hL => ?_))
  obtain ⟨rfl, rfl, hT1, hF1, hfr1⟩ := hI
  rw [cl_s1 hse] at hT1
  generalize hX1 : vMv X de re (se + 1) qu.toInt64 = X1 at hT1
  have e1 : ∀ n, n < 100 → X1 n = X n := fun n hn => by rw [← hX1]; exact vMv_lo hn
  have hXa := (hfr1 a _ ha (by decide)).trans hX
  have hTe1 := (hfr1 t1 _ ht1 (by decide)).trans hTe
  have hH1 := hT1.houseY e1
  have hV1 := hT1.vaultY e1
  have hmv := ct_X6_move E t cap X1 d G1 hT1 re de hre hde (-1) an cl_as1
  rw [e1 3 (by decide), cl_s0] at hmv
  refine lv_aload_n hx hb dX7_settle_29 rfl (lv_at hl 1 rfl) ?_
  refine hs_get hC hW hi_X7 rfl 1 (by decide) lk_X7_19 rfl hH1 rfl dX7_settle_30 ?_
  refine lv_aload hx hb dX7_settle_33 (lv_at hl 0 rfl) ?_
  refine hs_getN hC hW hi_X4 rfl 1 (by decide) lk_X7_179 rfl hTe1 rfl dX7_settle_35 ?_
  refine lv_aload hx hb dX7_settle_38 (lv_at hl 0 rfl) ?_
  refine hs_getN hC hW hi_X4 rfl 0 (by decide) lk_X7_176 rfl hTe1 rfl dX7_settle_40 ?_
  refine lv_iconst (v := (-1)) hx hb dX7_settle_43 (by decide) ?_
  refine lv_iload_n hx hb dX7_settle_44 rfl (lv_at hl 4 rfl) ?_
  refine hs_callVN hC hs_Tok hW hL hmv cw_X6_move lk_X7_290 im_X6_move se_X6_move (hs_recv hC hW hV1 rfl) hl.1 (by decide) (Nat.le_of_ble_eq_true rfl) dX7_settle_45 (hs_kV (fun G2 k n H locs hI hk hn hW hL => ?_))
  obtain ⟨rfl, rfl, hT2, hF2, hfr2⟩ := hI
  generalize hX2 : vMv X1 re de 0 an.toInt64 = X2 at hT2
  have e2 : ∀ n, n < 100 → X2 n = X n := fun n hn => by rw [← hX2]; exact (vMv_lo hn).trans (e1 n hn)
  have hXb := (hfr2 a _ ha (by decide)).trans hXa
  refine lv_aload_n hx hb dX7_settle_48 rfl (lv_at hl 2 rfl) ?_
  refine lv_dup hx hb dX7_settle_49 rfl ?_
  refine hs_getN hC hW hi_X5 rfl 7 (by decide) lk_X7_166 rfl hXb rfl dX7_settle_50 ?_
  refine lv_iload_n hx hb dX7_settle_53 rfl (lv_at hl 3 rfl) ?_
  refine lv_isub hx hb dX7_settle_54 ?_
  refine hs_putN hC hW hL hi_X5 tyX5 tyX5_ok nmX5 rfl 7 (by decide) lk_X7_166 rfl rfl hXb (hT.sz ha) rfl rfl (Nat.le_of_ble_eq_true rfl) dX7_settle_55 (fun H locs hW hL => ?_)
  have hu9 := hT.u ha _ _ _ _ _ _ _ _ _ _ _ _ _ hX
  have hT3 := hT2.pT (nu := nu) (te := te) (st := st) (du := du) (ql := ql - qu) (am := am) (fa := fa) (pr := pr) (ip := ip) ha ht1 ht2 ht3 hg9 (by rw [i32_sub hq9]; omega) (fun _ g' hg' => cl_grI (by rw [hXb] at hg'; exact hg')) hu9
  refine lv_aload_n hx hb dX7_settle_58 rfl (lv_at hl 2 rfl) ?_
  refine lv_dup hx hb dX7_settle_59 rfl ?_
  refine hs_getN hC hW hi_X5 rfl 8 (by decide) lk_X7_169 rfl (hs_up_eq _ _ _) rfl dX7_settle_60 ?_
  refine lv_iload_n hx hb dX7_settle_63 rfl (lv_at hl 4 rfl) ?_
  refine lv_isub hx hb dX7_settle_64 ?_
  refine hs_putN hC hW hL hi_X5 tyX5 tyX5_ok nmX5 rfl 8 (by decide) lk_X7_169 rfl rfl (hs_up_eq _ _ _) (hT.sz ha) rfl rfl (Nat.le_of_ble_eq_true rfl) dX7_settle_65 (fun H locs hW hL => ?_)
  have hT4 := hT3.1.pT (nu := nu) (te := te) (st := st) (du := du) (ql := ql - qu) (am := am - an) (fa := fa) (pr := pr) (ip := ip) ha ht1 ht2 ht3 hg9 (by rw [i32_sub hq9, i32_sub ha9]; omega) (fun _ g' hg' => cl_grI (by rw [hs_up_eq] at hg'; exact hg')) hu9
  rw [hs_up_up] at hW hT4
  have hH4 := hT4.1.houseY e2
  have hD4 := hT4.1.daysY e2
  obtain ⟨r9, -, hJ9⟩ := hT4.1.jourY e2
  have hwr := ct_X2_write E t cap X2 d _ hT4.1 nu qu an (nI d)
  rw [e2 6 (by decide)] at hwr
  refine lv_aload_n hx hb dX7_settle_68 rfl (lv_at hl 1 rfl) ?_
  refine hs_get hC hW hi_X7 rfl 2 (by decide) lk_X7_26 rfl hH4 rfl dX7_settle_69 ?_
  refine lv_aload_n hx hb dX7_settle_72 rfl (lv_at hl 2 rfl) ?_
  refine hs_getN hC hW hi_X5 rfl 0 (by decide) lk_X7_98 rfl (hs_up_eq _ _ _) rfl dX7_settle_73 ?_
  refine lv_iload_n hx hb dX7_settle_76 rfl (lv_at hl 3 rfl) ?_
  refine lv_iload_n hx hb dX7_settle_77 rfl (lv_at hl 4 rfl) ?_
  refine lv_aload_n hx hb dX7_settle_78 rfl (lv_at hl 1 rfl) ?_
  refine hs_get hC hW hi_X7 rfl 0 (by decide) lk_X7_12 rfl hH4 rfl dX7_settle_79 ?_
  refine hs_getN hC hW hi_X0 rfl 1 (by decide) lk_X7_69 rfl hD4 rfl dX7_settle_82 ?_
  refine hs_callVN hC hs_Tok hW hL hwr cw_X2_write lk_X7_294 im_X2_write se_X2_write (hs_recv hC hW hJ9 rfl) hl.1 (by decide) (Nat.le_of_ble_eq_true rfl) dX7_settle_85 (hs_kV (fun G5 k n H locs hI hk hn hW hL => ?_))
  obtain ⟨⟨rfl, rfl, hT5, hF5⟩, hfr5⟩ := hI
  exact hs_vret hC hW hL hr hlocks (by decide) (by decide) dX7_settle_88 ⟨rfl, rfl, rfl, by unfold vSt; rw [hX1, hX2]; exact hT5, (((hF1.tr hF2).tr hT3.2).tr hT4.2).tr hF5, (hfr5 a _ ha (by decide)).trans (hs_up_eq _ _ _), fun q kq hq h40 hqa => (hfr5 q kq hq h40).trans ((hs_up_ne _ _ hqa).trans ((hfr2 q kq hq h40).trans (hfr1 q kq hq h40)))⟩
