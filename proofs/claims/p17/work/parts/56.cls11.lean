/-! the class: match, link -/
set_option maxHeartbeats 4000000 in
set_option maxRecDepth 100000 in
/-- match -/
theorem ct_X7_match (E : hs_E) (t : cl_t) (cap X : Nat → Nat) (d : Nat) (G : hs_G) (hT : cl_T E t cap X d G) (a : Nat) (ha : t a = some (50, 0)) (hno : ∀ g', ¬ cl_gr (G a) g') (h99 : X 99 = 0) : hM E yX7_match ({ frames := 7, cells := 3, slots := 234, locals := 270 }) [.ref (X 0), .ref a] G (hs_V (cl_M E t cap X d G 3 234)) := by
  refine hs_ofW (cc := cX7_match) (maxL := 2) (ret := none) (by decide) co_X7_match ?_
  intro p e s m args below meth c hC hlocks hr hin0 hnoh hW
  obtain ⟨hx, hb, hml, hown, hts, -⟩ := id hC
  have hE := hW
  have hL : ∀ q ∈ ([] : List Loc), (eH E).size ≤ q.base := fun q hq => nomatch hq
  have hl := lv_entry ([.ref (X 0), .ref a] : List Value) (n := 2) (Nat.le_of_ble_eq_true rfl)
  rw [lg_entry_eq]
  generalize (lg_sl [.ref (X 0), .ref a] ++ List.replicate (2 - (lg_sl [.ref (X 0), .ref a]).length) Slot.unset).toArray = ls at hl ⊢
  have hl : lv_has ls 2 [(0, .ref (X 0)), (1, .ref a)] := hl
  obtain ⟨nu9, te9, t9, s8, s9, st9, du9, ql9, am9, fa9, pr9, ip9, g9, hX, ht1, ht2, ht3, hg9⟩ := hT.tr ha
  have hg0 : g9 = .null := by (rcases hg9 with z | ⟨y, z, -⟩; exact z; exact absurd ⟨nu9, te9, t9, s8, s9, st9, du9, ql9, am9, fa9, pr9, ip9, by rw [hX, z]⟩ (hno y))
  subst hg0
  have hb9 := hT.b ha _ _ _ _ _ _ _ _ _ _ _ _ _ hX
  obtain ⟨de9, re9, se9, qq9, aa9, dy9, lg9, hTe0, hde, hre, hse, hdy, hlg, -⟩ := hT.te ht1
  have nta : t9 ≠ a := fun z => by (rw [z, ha] at ht1; cases ht1)
  refine lv_aload_n hx hb dX7_match_0 rfl (lv_at hl 1 rfl) ?_
  refine lv_iconst (v := 1) hx hb dX7_match_1 (by decide) ?_
  refine hs_putN hC hW hL hi_X5 tyX5 tyX5_ok nmX5 rfl 5 (by decide) lk_X7_151 rfl rfl hX (hT.sz ha) rfl rfl (Nat.le_of_ble_eq_true rfl) dX7_match_2 (fun H locs hW hL => ?_)
  have hT1 := hT.pT (nu := nu9) (te := te9) (st := 1) (du := du9) (ql := ql9) (am := am9) (fa := fa9) (pr := pr9) (ip := ip9) ha ht1 ht2 ht3 hg9 hb9 (fun _ g' hg' => cl_grI (by rw [hX] at hg'; exact hg')) (fun z => absurd z (by decide))
  have hTe1 := (hs_up_ne G (cl_tr nu9 te9 t9 s8 s9 1 du9 ql9 am9 fa9 pr9 ip9 .null) nta).trans hTe0
  refine lv_aload_n hx hb dX7_match_5 rfl (lv_at hl 1 rfl) ?_
  refine lv_aload_n hx hb dX7_match_6 rfl (lv_at hl 0 rfl) ?_
  refine hs_get hC hW hi_X7 rfl 0 (by decide) lk_X7_12 rfl hT1.1.house rfl dX7_match_7 ?_
  refine lv_aload_n hx hb dX7_match_10 rfl (lv_at hl 1 rfl) ?_
  refine hs_getN hC hW hi_X5 rfl 2 (by decide) lk_X7_172 rfl (hs_up_eq _ _ _) rfl dX7_match_11 ?_
  refine hs_getN hC hW hi_X4 rfl 5 (by decide) lk_X7_223 rfl hTe1 rfl dX7_match_14 ?_
  refine lv_aload_n hx hb dX7_match_17 rfl (lv_at hl 1 rfl) ?_
  refine hs_getN hC hW hi_X5 rfl 2 (by decide) lk_X7_172 rfl (hs_up_eq _ _ _) rfl dX7_match_18 ?_
  refine hs_getN hC hW hi_X4 rfl 6 (by decide) lk_X7_226 rfl hTe1 rfl dX7_match_21 ?_
  refine hs_callVN hC hs_Tok hW hL (ct_X0_businessDayBehind E t cap X d _ hT1.1 dy9 hdy lg9 (by omega)) cw_X0_businessDayBehind lk_X7_195 im_X0_businessDayBehind se_X0_businessDayBehind (hs_recv hC hW hT1.1.days rfl) hl.1 (by decide) (Nat.le_of_ble_eq_true rfl) dX7_match_24 (hs_ke (fun x H locs hJ hW hL => ?_))
  refine hs_putN hC hW hL hi_X5 tyX5 tyX5_ok nmX5 rfl 6 (by decide) lk_X7_163 rfl rfl (hs_up_eq _ _ _) (hT.sz ha) rfl rfl (Nat.le_of_ble_eq_true rfl) dX7_match_27 (fun H locs hW hL => ?_)
  have hT2 := hT1.1.pT (nu := nu9) (te := te9) (st := 1) (du := x) (ql := ql9) (am := am9) (fa := fa9) (pr := pr9) (ip := ip9) ha ht1 ht2 ht3 hg9 hb9 (fun _ g' hg' => cl_grI (by rw [hs_up_eq] at hg'; exact hg')) (fun z => absurd z (by decide))
  rw [hs_up_up] at hW hT2
  refine hs_new (ci := 2) hC hW hi_X1 tyX1 tyX1_ok lk_X7_142 ib_X1 ii_X1 rfl (fs := [.null]) (by decide) (by decide) (by decide) dX7_match_30 (fun q H hqs hfq hW => ?_)
  refine lv_dup hx hb dX7_match_33 rfl ?_
  refine hs_callIN hC hs_Tok hW hL (ct_X1_init E _ q (hs_up_eq _ _ _) hqs) cw_X1_init lk_X7_229 im_X1_init rfl hl.1 (by decide) (Nat.le_of_ble_eq_true rfl) dX7_match_34 (hs_kV (fun G3 k n H locs hI hk hn hW hL => ?_))
  obtain ⟨rfl, rfl, L9, hfL, hLs, hLq, rfl⟩ := hI
  rw [al_S2 (E := E) hLq] at hW
  rw [hs_up_ne _ _ hLq] at hfL
  obtain ⟨t3, cap3, hT3, hF3, htq, htL, hcap3⟩ := hT2.1.nG (L := L9) (q := q) hfL hLs hfq hqs hLq.symm 0
  have ha3 := hF3.1 _ _ ha
  have haq : a ≠ q := fun z => by (rw [z, htq] at ha3; cases ha3)
  have haL : a ≠ L9 := fun z => by (rw [z, htL] at ha3; cases ha3)
  have hXa : (hs_up (hs_up (hs_up G a (cl_tr nu9 te9 t9 s8 s9 1 x ql9 am9 fa9 pr9 ip9 .null)) L9 (al_o 0 (eE E) (nI 0))) q (.inr (2, [.ref L9]))) a = some (cl_tr nu9 te9 t9 s8 s9 1 x ql9 am9 fa9 pr9 ip9 .null) := by rw [hs_up_ne _ _ haq, hs_up_ne _ _ haL, hs_up_eq]
  have hLo3 : (hs_up (hs_up (hs_up G a (cl_tr nu9 te9 t9 s8 s9 1 x ql9 am9 fa9 pr9 ip9 .null)) L9 (al_o 0 (eE E) (nI 0))) q (.inr (2, [.ref L9]))) L9 = some (al_o 0 (eE E) (nI 0)) := (hs_up_ne _ _ hLq).trans (hs_up_eq _ _ _)
  obtain ⟨f3, hLa3, -⟩ := (hT3.l54 htL).at hLo3 (by decide)
  refine lv_aload_n hx hb dX7_match_37 rfl (lv_at hl 1 rfl) ?_
  refine hs_callVN hC hs_Tok hW hL (ct_X1_takeIn E t3 cap3 (va_up X 99 1) d _ hT3.off q htq a ha3 L9 (eE E) 0 0 f3 (hs_up_eq _ _ _) htL hLo3 hLa3 (by decide) (by rw [va_up_self]; decide) (fun _ _ _ _ _ _ _ _ _ _ _ _ _ hq z => by (rw [hXa] at hq; cases hq; exact absurd z (by decide)))) cw_X1_takeIn lk_X7_230 im_X1_takeIn se_X1_takeIn (hs_recv hC hW (hs_up_eq _ _ _) rfl) hl.1 (by decide) (Nat.le_of_ble_eq_true rfl) dX7_match_38 (hs_kV (fun G4 k4 n4 H locs hI hk hn hW hL => ?_))
  obtain ⟨hk4, hn4, t4, cap4, mc4, A4, f4, i4, hT4, hF4, hL4, hA4, hA4t, hi4, hf4, hcap4, hgr4, hold4, hfr4⟩ := hI
  have hT5 := hT4.on (fun _ L8 g8 hL8 => cl_mt hT3 h99 hF4 ⟨hT3.2.2.2.1.1, fun q k hq => hT4.sz hq⟩ hold4 hcap4 htq (hs_up_eq _ _ _) htL hL4 hA4 hA4t hi4 hf4 hgr4 (fun g8 y => by (rw [hXa] at y; have z := cl_grI y; cases z)) ha3 hfr4 L8 g8 hL8)
  have h9L : X 9 ≠ L9 := fun z => by have h1 := hT.tag 9 (by decide); rw [z, hT2.1.fresh hfL] at h1; cases h1
  have h9q : X 9 ≠ q := fun z => by have h1 := hT.tag 9 (by decide); rw [z, hT2.1.fresh hfq] at h1; cases h1
  have hc9 : cap4 (X 9) = cap (X 9) := (hcap4 _ h9L).trans (hcap3 _ h9L h9q)
  exact hs_vret hC hW hL hr hlocks (by show _ ≤ 3; omega) (by show _ ≤ 234; omega) dX7_match_41 ⟨rfl, t4, cap4, hT5, ((hT1.2.tr hT2.2).tr hF3).tr hF4, by omega, by omega, by omega⟩
set_option maxHeartbeats 4000000 in
set_option maxRecDepth 100000 in
/-- Group.size -/
theorem ct_X1_sizeN (E : hs_E) (G : hs_G) (g L A sz : Nat) (mc : Int32) (hGr : G g = some (.inr (2, [.ref L]))) (hLo : G L = some (al_o mc A (nI sz))) : hM E yX1_size ({ frames := 1, cells := 0, slots := 0, locals := 30 }) [.ref g] G (hs_pu (some (.int (nI sz))) G) := by
  refine hs_ofW (cc := cX1_size) (maxL := 1) (ret := (some .int)) (by decide) co_X1_size ?_
  intro p e s m args below meth c hC hlocks hr hin0 hnoh hW
  obtain ⟨hx, hb, hml, hown, hts, -⟩ := id hC
  have hE := hW
  have hL : ∀ q ∈ ([] : List Loc), (eH E).size ≤ q.base := fun q hq => nomatch hq
  have hl := lv_entry ([.ref g] : List Value) (n := 1) (Nat.le_of_ble_eq_true rfl)
  rw [lg_entry_eq]
  generalize (lg_sl [.ref g] ++ List.replicate (1 - (lg_sl [.ref g]).length) Slot.unset).toArray = ls at hl ⊢
  have hl : lv_has ls 1 [(0, .ref g)] := hl
  refine lv_aload_n hx hb dX1_size_0 rfl (lv_at hl 0 rfl) ?_
  refine hs_get hC hW hi_X1 rfl 0 (by decide) lk_X1_10 rfl hGr rfl dX1_size_1 ?_
  refine hs_callV hC hs_Tok hW hL (ct_size E G L A sz mc hLo) cw_Jx4a65c_size_8abf5 lk_X1_16 im_Jx4a65c_size_8abf5 se_Jx4a65c_size_8abf5 (hs_recv hC hW hLo rfl) hl.1 (by decide) (Nat.le_of_ble_eq_true rfl) dX1_size_4 (hs_kp1 (fun H locs hW hL => ?_))
  exact hs_iret hC hW hL hr hlocks (by decide) (by decide) dX1_size_7 ⟨by rfl, rfl, rfl, rfl⟩
set_option maxHeartbeats 4000000 in
set_option maxRecDepth 100000 in
/-- link -/
theorem ct_X7_link (E : hs_E) (hST : E.1.stackTraces = false) (t : cl_t) (cap X : Nat → Nat) (d : Nat) (G : hs_G) (hT : cl_T E t cap X d G) (h99 : X 99 = 0) (i j : Int32) : hM E yX7_link ({ frames := 8, cells := 6, slots := 1380, locals := 310 }) [.ref (X 0), .int i, .int j] G (hs_or2 (hs_I (fun _ G1 k n => cl_M E t cap X (d) G 6 1380 G1 k n)) G (fun C => C = "java/lang/IllegalArgumentException" ∨ C = "java/lang/IllegalStateException")) := by
  refine hs_ofW (cc := cX7_link) (maxL := 5) (ret := (some .int)) (by decide) co_X7_link ?_
  intro p e s m args below meth c hC hlocks hr hin0 hnoh hW
  obtain ⟨hx, hb, hml, hown, hts, -⟩ := id hC
  have hE := hW
  have hL : ∀ q ∈ ([] : List Loc), (eH E).size ≤ q.base := fun q hq => nomatch hq
  have hl := lv_entry ([.ref (X 0), .int i, .int j] : List Value) (n := 5) (Nat.le_of_ble_eq_true rfl)
  rw [lg_entry_eq]
  generalize (lg_sl [.ref (X 0), .int i, .int j] ++ List.replicate (5 - (lg_sl [.ref (X 0), .int i, .int j]).length) Slot.unset).toArray = ls at hl ⊢
  have hl : lv_has ls 5 [(0, .ref (X 0)), (1, .int i), (2, .int j)] := hl
  refine lv_aload_n hx hb dX7_link_0 rfl (lv_at hl 0 rfl) ?_
  refine lv_iload_n hx hb dX7_link_1 rfl (lv_at hl 1 rfl) ?_
  refine hs_callV hC hs_Tok hW hL (ct_X7_find E hST t cap X d G hT _) cw_X7_find lk_X7_110 im_X7_find se_X7_find (hs_recv hC hW hT.house rfl) hl.1 (by decide) (Nat.le_of_ble_eq_true rfl) dX7_link_2 (hs_kor2 hnoh hlocks (by decide) (by decide) (fun C9 hC9 => Or.inr ⟨C9, Or.inl hC9, rfl, rfl, rfl, rfl⟩) (hs_kO (fun a9 G1 k n H locs hI hk hn hW hL => ?_)))
  obtain ⟨hta, hGG, rfl, rfl⟩ := hI
  rw [hGG] at hW
  clear hGG
  obtain ⟨nu9, te9, t9, s8, s9, st9, du9, ql9, am9, fa9, pr9, ip9, g9, hX, ht1, ht2, ht3, hg9⟩ := hT.tr hta
  rcases hg9 with rfl | ⟨y9, rfl, hy9⟩
  · refine hs_getN hC hW hi_X5 rfl 12 (by decide) lk_X7_134 rfl hX rfl dX7_link_5 ?_
    refine lv_astore_nN (lv' := [(3, .null), (0, .ref _), (1, .int _), (2, .int _)]) hx hb dX7_link_8 rfl hl (by decide) rfl (fun ls hl => ?_)
    refine lv_aload_n hx hb dX7_link_9 rfl (lv_at hl 1 rfl) ?_
    refine lv_iload_n hx hb dX7_link_10 rfl (lv_at hl 3 rfl) ?_
    refine hs_callV hC hs_Tok hW hL (ct_X7_find E hST t cap X d G hT _) cw_X7_find lk_X7_110 im_X7_find se_X7_find (hs_recv hC hW hT.house rfl) hl.1 (by decide) (Nat.le_of_ble_eq_true rfl) dX7_link_11 (hs_kor2 hnoh hlocks (by decide) (by decide) (fun C9 hC9 => Or.inr ⟨C9, Or.inl hC9, rfl, rfl, rfl, rfl⟩) (hs_kO (fun b9 G1 k n H locs hI hk hn hW hL => ?_)))
    obtain ⟨htb, hGG, rfl, rfl⟩ := hI
    rw [hGG] at hW
    clear hGG
    obtain ⟨nu5, te5, t5, w6, w7, st5, du5, ql5, am5, fa5, pr5, ip5, g5, hXb, -, -, -, hg5⟩ := hT.tr htb
    rcases hg5 with rfl | ⟨z9, rfl, hz9⟩
    · refine hs_getN hC hW hi_X5 rfl 12 (by decide) lk_X7_134 rfl hXb rfl dX7_link_14 ?_
      refine lv_astoreN (lv' := [(4, .null), (3, .null), (0, .ref _), (1, .int _), (2, .int _)]) hx hb dX7_link_17 hl (by decide) rfl (fun ls hl => ?_)
      refine lv_aload_nN hx hb dX7_link_19 rfl (lv_at hl 1 rfl) ?_
      refine lv_ifnullN (tgt := 28) hx hb dX7_link_20 (by decide) ?_
      exact hs_throw (names := hs_up2) hC (Or.inr hE.2.2) hW hL hlocks hST (by decide +kernel) tf_up2 lk_X7_138 ii_O_IllegalStateException ta_ISE tg_ISE hl.1 dX7_link_28 dX7_link_31 dX7_link_32 dX7_link_35 (fun x hx => (hnoh x hx).elim) (by decide) (by decide) (by decide) (Or.inr ⟨_, Or.inr rfl, rfl, rfl, rfl, rfl⟩)
    · refine hs_getN hC hW hi_X5 rfl 12 (by decide) lk_X7_134 rfl hXb rfl dX7_link_14 ?_
      refine lv_astore (lv' := [(4, .ref _), (3, .null), (0, .ref _), (1, .int _), (2, .int _)]) hx hb dX7_link_17 hl (by decide) rfl (fun ls hl => ?_)
      refine lv_aload_nN hx hb dX7_link_19 rfl (lv_at hl 1 rfl) ?_
      refine lv_ifnullN (tgt := 28) hx hb dX7_link_20 (by decide) ?_
      exact hs_throw (names := hs_up2) hC (Or.inr hE.2.2) hW hL hlocks hST (by decide +kernel) tf_up2 lk_X7_138 ii_O_IllegalStateException ta_ISE tg_ISE hl.1 dX7_link_28 dX7_link_31 dX7_link_32 dX7_link_35 (fun x hx => (hnoh x hx).elim) (by decide) (by decide) (by decide) (Or.inr ⟨_, Or.inr rfl, rfl, rfl, rfl, rfl⟩)
  · refine hs_getN hC hW hi_X5 rfl 12 (by decide) lk_X7_134 rfl hX rfl dX7_link_5 ?_
    refine lv_astore_n (lv' := [(3, .ref _), (0, .ref _), (1, .int _), (2, .int _)]) hx hb dX7_link_8 rfl hl (by decide) rfl (fun ls hl => ?_)
    refine lv_aload_n hx hb dX7_link_9 rfl (lv_at hl 1 rfl) ?_
    refine lv_iload_n hx hb dX7_link_10 rfl (lv_at hl 3 rfl) ?_
    refine hs_callV hC hs_Tok hW hL (ct_X7_find E hST t cap X d G hT _) cw_X7_find lk_X7_110 im_X7_find se_X7_find (hs_recv hC hW hT.house rfl) hl.1 (by decide) (Nat.le_of_ble_eq_true rfl) dX7_link_11 (hs_kor2 hnoh hlocks (by decide) (by decide) (fun C9 hC9 => Or.inr ⟨C9, Or.inl hC9, rfl, rfl, rfl, rfl⟩) (hs_kO (fun b9 G1 k n H locs hI hk hn hW hL => ?_)))
    obtain ⟨htb, hGG, rfl, rfl⟩ := hI
    rw [hGG] at hW
    clear hGG
    obtain ⟨nu5, te5, t5, w6, w7, st5, du5, ql5, am5, fa5, pr5, ip5, g5, hXb, -, -, -, hg5⟩ := hT.tr htb
    rcases hg5 with rfl | ⟨z9, rfl, hz9⟩
    · refine hs_getN hC hW hi_X5 rfl 12 (by decide) lk_X7_134 rfl hXb rfl dX7_link_14 ?_
      refine lv_astoreN (lv' := [(4, .null), (3, .ref _), (0, .ref _), (1, .int _), (2, .int _)]) hx hb dX7_link_17 hl (by decide) rfl (fun ls hl => ?_)
      refine lv_aload_n hx hb dX7_link_19 rfl (lv_at hl 1 rfl) ?_
      refine lv_ifnull hx hb dX7_link_20 ?_
      refine lv_aloadN hx hb dX7_link_23 (lv_at hl 0 rfl) ?_
      refine lv_ifnonnullN hx hb dX7_link_25 ?_
      exact hs_throw (names := hs_up2) hC (Or.inr hE.2.2) hW hL hlocks hST (by decide +kernel) tf_up2 lk_X7_138 ii_O_IllegalStateException ta_ISE tg_ISE hl.1 dX7_link_28 dX7_link_31 dX7_link_32 dX7_link_35 (fun x hx => (hnoh x hx).elim) (by decide) (by decide) (by decide) (Or.inr ⟨_, Or.inr rfl, rfl, rfl, rfl, rfl⟩)
    · refine hs_getN hC hW hi_X5 rfl 12 (by decide) lk_X7_134 rfl hXb rfl dX7_link_14 ?_
      refine lv_astore (lv' := [(4, .ref _), (3, .ref _), (0, .ref _), (1, .int _), (2, .int _)]) hx hb dX7_link_17 hl (by decide) rfl (fun ls hl => ?_)
      refine lv_aload_n hx hb dX7_link_19 rfl (lv_at hl 1 rfl) ?_
      refine lv_ifnull hx hb dX7_link_20 ?_
      refine lv_aload hx hb dX7_link_23 (lv_at hl 0 rfl) ?_
      refine lv_ifnonnull (tgt := 36) hx hb dX7_link_25 (by decide) ?_
      obtain ⟨L9, hGr, hLt⟩ := hT.gr hy9
      obtain ⟨mc9, A9, sz9, f9, hLo, -, -, hmx, -⟩ := hT.l54 hLt
      obtain ⟨L8, hGo, hLto⟩ := hT.gr hz9
      obtain ⟨mc8, A8, sz8, f8, hLo8, -, -, hmx8, -⟩ := hT.l54 hLto
      refine lv_aload_n hx hb dX7_link_36 rfl (lv_at hl 1 rfl) ?_
      refine lv_aload hx hb dX7_link_37 (lv_at hl 0 rfl) ?_
      refine lv_acmp_eq (rx := some _) (ry := some _) (tgt := 71) hx hb dX7_link_39 (by decide) (fun c39 => ?_) (fun c39 => ?_)
      · refine lv_aload_n hx hb dX7_link_71 rfl (lv_at hl 1 rfl) ?_
        refine hs_callVN hC hs_Tok hW hL (ct_X1_size E t cap X d G hT y9 hy9) cw_X1_size lk_X7_141 im_X1_size se_X1_size (hs_recv hC hW hGr rfl) hl.1 (by decide) (Nat.le_of_ble_eq_true rfl) dX7_link_72 (hs_ke (fun x H locs hJ hW hL => ?_))
        first | exact hs_iret hC hW hL hr hlocks (by show _ ≤ 6; omega) (by show _ ≤ 1380; omega) dX7_link_75 (Or.inl ⟨_, rfl, t2, cap2, hT2, hF2, hc2, by omega, by omega⟩) | exact hs_iret hC hW hL hr hlocks (by decide) (by decide) dX7_link_75 (Or.inl ⟨_, rfl, t, cap, hT, cl_F.rf, Nat.le_refl _, Nat.zero_le _, Nat.zero_le _⟩)
      refine lv_aload_n hx hb dX7_link_42 rfl (lv_at hl 1 rfl) ?_
      refine hs_callVN hC hs_Tok hW hL (ct_X1_sizeN E G y9 L9 A9 sz9 mc9 hGr hLo) cw_X1_size lk_X7_141 im_X1_size se_X1_size (hs_recv hC hW hGr rfl) hl.1 (by decide) (Nat.le_of_ble_eq_true rfl) dX7_link_43 (hs_kp1 (fun H locs hW hL => ?_))
      refine lv_aload hx hb dX7_link_46 (lv_at hl 0 rfl) ?_
      refine hs_callVN hC hs_Tok hW hL (ct_X1_sizeN E G z9 L8 A8 sz8 mc8 hGo hLo8) cw_X1_size lk_X7_141 im_X1_size se_X1_size (hs_recv hC hW hGo rfl) hl.1 (by decide) (Nat.le_of_ble_eq_true rfl) dX7_link_48 (hs_kp1 (fun H locs hW hL => ?_))
      refine lv_iadd hx hb dX7_link_51 ?_
      refine lv_bipush (v := 6) hx hb dX7_link_52 (by decide) ?_
      refine lv_icmp_gt (tgt := 61) hx hb dX7_link_54 (by decide) (fun c54 => ?_) (fun c54 => ?_)
      · refine lv_iconst (v := 0) hx hb dX7_link_61 (by decide) ?_
        refine hs_callS hC hs_Tok hW hL (ct_X7_checkState E hST G _) cw_X7_checkState lk_X7_62 st_X7_checkState hl.1 (by decide) (Nat.le_of_ble_eq_true rfl) dX7_link_62 (hs_kck hnoh hlocks (by decide) (by decide) (fun hno => Or.inr ⟨_, Or.inr rfl, rfl, rfl, rfl, rfl⟩) (fun hok62 H locs hW hL => ?_))
        exact absurd rfl hok62
      refine lv_iconst (v := 1) hx hb dX7_link_57 (by decide) ?_
      refine lv_goto (tgt := 62) hx hb dX7_link_58 (by decide) ?_
      refine hs_callS hC hs_Tok hW hL (ct_X7_checkState E hST G _) cw_X7_checkState lk_X7_62 st_X7_checkState hl.1 (by decide) (Nat.le_of_ble_eq_true rfl) dX7_link_62 (hs_kck hnoh hlocks (by decide) (by decide) (fun hno => Or.inr ⟨_, Or.inr rfl, rfl, rfl, rfl, rfl⟩) (fun hok62 H locs hW hL => ?_))
      have hsum : sz9 + sz8 ≤ 6 := by (have c9 : ¬ nI sz9 + nI sz8 > 6 := c54); rw [nI_add, show (6 : Int32) = nI 6 by decide +kernel] at c9; exact Nat.not_lt.mp fun z => c9 ((nI_ltI (by decide) (by omega)).mpr z)
      refine lv_aload_n hx hb dX7_link_65 rfl (lv_at hl 1 rfl) ?_
      refine lv_aload hx hb dX7_link_66 (lv_at hl 0 rfl) ?_
      refine hs_callVN hC hs_Tok hW hL (ct_X1_absorb E t cap X d G hT y9 hy9 h99 z9 hz9 L9 A9 sz9 mc9 hGr hLt hLo L8 A8 sz8 mc8 hGo hLto hLo8 (fun z => c39 (congrArg some z)) hsum) cw_X1_absorb lk_X7_144 im_X1_absorb se_X1_absorb (hs_recv hC hW hGr rfl) hl.1 (by decide) (Nat.le_of_ble_eq_true rfl) dX7_link_68 (hs_kV (fun G2 k n H locs hI hk hn hW hL => ?_))
      obtain ⟨t2, cap2, hT2, hF2, hc2, hk2, hn2⟩ := hI
      replace hk : k ≤ 6 := hk
      replace hn : n ≤ 1380 := hn
      have hy2 := hF2.1 _ _ hy9
      obtain ⟨L7, hGr2, -⟩ := hT2.gr hy2
      refine lv_aload_n hx hb dX7_link_71 rfl (lv_at hl 1 rfl) ?_
      refine hs_callVN hC hs_Tok hW hL (ct_X1_size E t2 cap2 X d _ hT2 y9 hy2) cw_X1_size lk_X7_141 im_X1_size se_X1_size (hs_recv hC hW hGr2 rfl) hl.1 (by refine ⟨by decide, by decide, ?_, ?_⟩ <;> dsimp only <;> omega) (Nat.le_of_ble_eq_true rfl) dX7_link_72 (hs_ke (fun x H locs hJ hW hL => ?_))
      first | exact hs_iret hC hW hL hr hlocks (by show _ ≤ 6; omega) (by show _ ≤ 1380; omega) dX7_link_75 (Or.inl ⟨_, rfl, t2, cap2, hT2, hF2, hc2, by omega, by omega⟩) | exact hs_iret hC hW hL hr hlocks (by decide) (by decide) dX7_link_75 (Or.inl ⟨_, rfl, t, cap, hT, cl_F.rf, Nat.le_refl _, Nat.zero_le _, Nat.zero_le _⟩)
