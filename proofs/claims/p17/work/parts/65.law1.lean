/-! the law's helpers -/
theorem cw_L_fund : hs_CwT hs_Ts yL_fund cL_fund 6 (some .int) [(0, 11, 14, 13), (0, 11, 18, 15)] 5 := ⟨ii_L, co_L_fund, ⟨by decide, by decide⟩, by decide +kernel⟩
set_option maxHeartbeats 4000000 in
set_option maxRecDepth 100000 in
/-- fund -/
theorem ct_L_fund (E : hs_E) (hST : E.1.stackTraces = false) (t : cl_t) (cap X : Nat → Nat) (d : Nat) (G : hs_G) (hT : cl_T E t cap X d G) (o : Nat) (f9 : Nat → Int64) (ho : G o = some (lw_o E f9)) (hto : t o = none) (hos : (eH E).size ≤ o) (h99 : X 99 = 0) (hJ : vJ X) (hB : X 97 ≤ 1152921504606846976) (pa se n9 : Int32) : hM E yL_fund ({ frames := 8, cells := 1, slots := 6, locals := 160 }) [.ref (X 0), .int pa, .int se, .int n9, .ref o] G (hs_I (fun _ G1 _ _ => lw_H E t X (d) G o G1)) := by
  refine hs_ofWT (cc := cL_fund) (maxL := 6) (ret := (some .int)) (by decide) co_L_fund ?_
  intro p e s m args below meth c hC hlocks hr hhd hW
  obtain ⟨hx, hb, hml, hown, hts, -⟩ := id hC
  have hE := hW
  have hL : ∀ q ∈ ([] : List Loc), (eH E).size ≤ q.base := fun q hq => nomatch hq
  have hl := lv_entry ([.ref (X 0), .int pa, .int se, .int n9, .ref o] : List Value) (n := 6) (Nat.le_of_ble_eq_true rfl)
  rw [lg_entry_eq]
  generalize (lg_sl [.ref (X 0), .int pa, .int se, .int n9, .ref o] ++ List.replicate (6 - (lg_sl [.ref (X 0), .int pa, .int se, .int n9, .ref o]).length) Slot.unset).toArray = ls at hl ⊢
  have hl : lv_has ls 6 [(0, .ref (X 0)), (1, .int pa), (2, .int se), (3, .int n9), (4, .ref o)] := hl
  refine lv_aload hx hb dL_fund_0 (lv_at hl 4 rfl) ?_
  refine lv_iconst (v := 0) hx hb dL_fund_2 (by decide) ?_
  refine lv_aload_n hx hb dL_fund_3 rfl (lv_at hl 0 rfl) ?_
  refine lv_iload_n hx hb dL_fund_4 rfl (lv_at hl 1 rfl) ?_
  refine lv_iload_n hx hb dL_fund_5 rfl (lv_at hl 2 rfl) ?_
  refine lv_iload_n hx hb dL_fund_6 rfl (lv_at hl 3 rfl) ?_
  refine hs_callV hC hs_Tok hW hL (ct_X7_fund E hST t cap X d G hT h99 hJ hB pa se n9) cw_X7_fund lk_L_7 im_X7_fund se_X7_fund (hs_recv hC hW hT.house rfl) hl.1 (by decide) (Nat.le_of_ble_eq_true rfl) dL_fund_7 (hs_kT2 hC hhd (by decide) (by decide) (by decide) lk_L_13 lk_L_15 ca_O_IllegalArgumentException_O_IllegalArgumentException ca_O_IllegalStateException_O_IllegalStateException (fun C h => h) (hs_kJ (fun z G1 k n H locs hI hk hn hW hL => ?_)) (fun q H locs hW hL => ?_) (fun q H locs hW hL => ?_))
  obtain ⟨Y2, hyy, hT2, hF2⟩ := hI
  replace hk : k ≤ 1 := hk
  replace hn : n ≤ 6 := hn
  have ho1 : G1 o = some (lw_o E f9) := hF2.at hto ho
  refine hs_last hC hW hL 1 ho1 hos rfl (vp_in_nI (n := 0) (by decide) (by decide)) dL_fund_10 (fun H locs hW hL => ?_)
  refine lv_goto (tgt := 22) hx hb dL_fund_11 (by decide) ?_
  refine lv_iconst (v := 0) hx hb dL_fund_22 (by decide) ?_
  exact hs_iret hC hW hL hr hlocks (by show 0 + k ≤ 1; omega) (by show 0 + n ≤ 6; omega) dL_fund_23 ⟨_, rfl, _, _, hyy, _, _, G1, hT2, hF2, rfl⟩
  refine lv_astore (lv' := [(5, .ref _), (0, .ref _), (1, .int _), (2, .int _), (3, .int _), (4, .ref _)]) hx hb dL_fund_14 hl (by decide) rfl (fun ls hl => ?_)
  refine lv_iconst (v := 1) hx hb dL_fund_16 (by decide) ?_
  exact hs_iret hC hW hL hr hlocks (by decide) (by decide) dL_fund_17 ⟨_, rfl, f9, X, vY.rf h99 hJ, t, cap, G, hT, cl_F.rf, (hs_up_id ho).symm⟩
  refine lv_astore (lv' := [(5, .ref _), (0, .ref _), (1, .int _), (2, .int _), (3, .int _), (4, .ref _)]) hx hb dL_fund_18 hl (by decide) rfl (fun ls hl => ?_)
  refine lv_iconst (v := 2) hx hb dL_fund_20 (by decide) ?_
  exact hs_iret hC hW hL hr hlocks (by decide) (by decide) dL_fund_21 ⟨_, rfl, f9, X, vY.rf h99 hJ, t, cap, G, hT, cl_F.rf, (hs_up_id ho).symm⟩
theorem cw_L_holiday : hs_CwT hs_Ts yL_holiday cL_holiday 4 (some .int) [(0, 16, 19, 13)] 3 := ⟨ii_L, co_L_holiday, ⟨by decide, by decide⟩, by decide +kernel⟩
set_option maxHeartbeats 4000000 in
set_option maxRecDepth 100000 in
/-- holiday -/
theorem ct_L_holiday (E : hs_E) (hST : E.1.stackTraces = false) (t : cl_t) (cap X : Nat → Nat) (d : Nat) (G : hs_G) (hT : cl_T E t cap X d G) (o : Nat) (f9 : Nat → Int64) (ho : G o = some (lw_o E f9)) (hto : t o = none) (hos : (eH E).size ≤ o) (h99 : X 99 = 0) (hJ : vJ X) (hB : X 97 ≤ 1152921504606846976) (dy : Int32) : hM E yL_holiday ({ frames := 8, cells := 1, slots := 6, locals := 160 }) [.ref (X 0), .int dy, .ref o] G (hs_I (fun r G1 _ _ => (r = 0 ∧ ∃ (j : Nat) (f : Nat → Int64), dy = nI j ∧ d < j ∧ j ≤ 20000 ∧ f 0 = (if hv X j = true then 0 else 1) ∧ lw_Hf E t (hv_mk X j) d G o f G1) ∨ (r = 1 ∧ ¬ (nI d < dy ∧ dy ≤ 20000) ∧ G1 = G))) := by
  refine hs_ofWT (cc := cL_holiday) (maxL := 4) (ret := (some .int)) (by decide) co_L_holiday ?_
  intro p e s m args below meth c hC hlocks hr hhd hW
  obtain ⟨hx, hb, hml, hown, hts, -⟩ := id hC
  have hE := hW
  have hL : ∀ q ∈ ([] : List Loc), (eH E).size ≤ q.base := fun q hq => nomatch hq
  have hl := lv_entry ([.ref (X 0), .int dy, .ref o] : List Value) (n := 4) (Nat.le_of_ble_eq_true rfl)
  rw [lg_entry_eq]
  generalize (lg_sl [.ref (X 0), .int dy, .ref o] ++ List.replicate (4 - (lg_sl [.ref (X 0), .int dy, .ref o]).length) Slot.unset).toArray = ls at hl ⊢
  have hl : lv_has ls 4 [(0, .ref (X 0)), (1, .int dy), (2, .ref o)] := hl
  refine lv_aload_n hx hb dL_holiday_0 rfl (lv_at hl 2 rfl) ?_
  refine lv_iconst (v := 0) hx hb dL_holiday_1 (by decide) ?_
  refine lv_aload_n hx hb dL_holiday_2 rfl (lv_at hl 0 rfl) ?_
  refine lv_iload_n hx hb dL_holiday_3 rfl (lv_at hl 1 rfl) ?_
  refine hs_callV hC hs_Tok hW hL (ct_X7_holiday E hST t cap X d G hT dy) cw_X7_holiday lk_L_17 im_X7_holiday se_X7_holiday (hs_recv hC hW hT.house rfl) hl.1 (by decide) (Nat.le_of_ble_eq_true rfl) dL_holiday_4 (hs_kT1 hC hhd (by decide) (by decide) lk_L_13 ca_O_IllegalArgumentException_O_IllegalArgumentException (fun C h => h.1) (hs_kI (fun z G1 k n H locs hI hk hn hW hL => ?_)) (fun q H locs hP9 hW hL => ?_))
  obtain ⟨hz9, j, hdy, hj1, hj2, hz, hT2, hF2⟩ := hI
  replace hk : k ≤ 1 := hk
  replace hn : n ≤ 6 := hn
  have ho1 : G1 o = some (lw_o E f9) := hF2.at hto ho
  refine lv_if_eq (tgt := 14) hx hb dL_holiday_7 (by decide) (fun c7 => ?_) (fun c7 => ?_)
  · refine lv_lconst (v := 0) hx hb dL_holiday_14 (by decide) ?_
    refine hs_last hC hW hL 1 ho1 hos rfl (vp_in_nI (n := 0) (by decide) (by decide)) dL_holiday_15 (fun H locs hW hL => ?_)
    refine lv_goto (tgt := 22) hx hb dL_holiday_16 (by decide) ?_
    refine lv_iconst (v := 0) hx hb dL_holiday_22 (by decide) ?_
    exact hs_iret hC hW hL hr hlocks (by show 0 + k ≤ 1; omega) (by show 0 + n ≤ 6; omega) dL_holiday_23 ⟨_, rfl, Or.inl ⟨rfl, j, _, hdy, hj1, hj2, by first | (rw [if_pos (cl_zt hz c7)]; rfl) | (rw [if_neg (cl_zf hz9 hz c7)]; rfl), t, cap, G1, hT2, hF2, rfl⟩⟩
  refine lv_lconst (v := 1) hx hb dL_holiday_10 (by decide) ?_
  refine lv_goto (tgt := 15) hx hb dL_holiday_11 (by decide) ?_
  refine hs_last hC hW hL 1 ho1 hos rfl (vp_in_nI (n := 0) (by decide) (by decide)) dL_holiday_15 (fun H locs hW hL => ?_)
  refine lv_goto (tgt := 22) hx hb dL_holiday_16 (by decide) ?_
  refine lv_iconst (v := 0) hx hb dL_holiday_22 (by decide) ?_
  exact hs_iret hC hW hL hr hlocks (by show 0 + k ≤ 1; omega) (by show 0 + n ≤ 6; omega) dL_holiday_23 ⟨_, rfl, Or.inl ⟨rfl, j, _, hdy, hj1, hj2, by first | (rw [if_pos (cl_zt hz c7)]; rfl) | (rw [if_neg (cl_zf hz9 hz c7)]; rfl), t, cap, G1, hT2, hF2, rfl⟩⟩
  refine lv_astore_n (lv' := [(3, .ref _), (0, .ref _), (1, .int _), (2, .ref _)]) hx hb dL_holiday_19 rfl hl (by decide) rfl (fun ls hl => ?_)
  refine lv_iconst (v := 1) hx hb dL_holiday_20 (by decide) ?_
  exact hs_iret hC hW hL hr hlocks (by decide) (by decide) dL_holiday_21 ⟨_, rfl, Or.inr ⟨rfl, hP9.2, rfl⟩⟩
theorem cw_L_tell : hs_CwT hs_Ts yL_tell cL_tell 11 (some .int) [(0, 22, 25, 13), (0, 22, 29, 15)] 10 := ⟨ii_L, co_L_tell, ⟨by decide, by decide⟩, by decide +kernel⟩
set_option maxHeartbeats 4000000 in
set_option maxRecDepth 100000 in
/-- tell -/
theorem ct_L_tell (E : hs_E) (hST : E.1.stackTraces = false) (t : cl_t) (cap X : Nat → Nat) (d : Nat) (G : hs_G) (hT : cl_T E t cap X d G) (o : Nat) (f9 : Nat → Int64) (ho : G o = some (lw_o E f9)) (hto : t o = none) (hos : (eH E).size ≤ o) (h99 : X 99 = 0) (hJ : vJ X) (hB : X 97 ≤ 1152921504606846976) (pa ot dl se qu am day lag : Int32) : hM E yL_tell ({ frames := 9, cells := 5, slots := 260, locals := 360 }) [.ref (X 0), .int pa, .int ot, .int dl, .int se, .int qu, .int am, .int day, .int lag, .ref o] G (hs_I (fun _ G1 _ _ => lw_H E t X (d) G o G1)) := by
  refine hs_ofWT (cc := cL_tell) (maxL := 11) (ret := (some .int)) (by decide) co_L_tell ?_
  intro p e s m args below meth c hC hlocks hr hhd hW
  obtain ⟨hx, hb, hml, hown, hts, -⟩ := id hC
  have hE := hW
  have hL : ∀ q ∈ ([] : List Loc), (eH E).size ≤ q.base := fun q hq => nomatch hq
  have hl := lv_entry ([.ref (X 0), .int pa, .int ot, .int dl, .int se, .int qu, .int am, .int day, .int lag, .ref o] : List Value) (n := 11) (Nat.le_of_ble_eq_true rfl)
  rw [lg_entry_eq]
  generalize (lg_sl [.ref (X 0), .int pa, .int ot, .int dl, .int se, .int qu, .int am, .int day, .int lag, .ref o] ++ List.replicate (11 - (lg_sl [.ref (X 0), .int pa, .int ot, .int dl, .int se, .int qu, .int am, .int day, .int lag, .ref o]).length) Slot.unset).toArray = ls at hl ⊢
  have hl : lv_has ls 11 [(0, .ref (X 0)), (1, .int pa), (2, .int ot), (3, .int dl), (4, .int se), (5, .int qu), (6, .int am), (7, .int day), (8, .int lag), (9, .ref o)] := hl
  refine lv_aload hx hb dL_tell_0 (lv_at hl 9 rfl) ?_
  refine lv_iconst (v := 0) hx hb dL_tell_2 (by decide) ?_
  refine lv_aload_n hx hb dL_tell_3 rfl (lv_at hl 0 rfl) ?_
  refine lv_iload_n hx hb dL_tell_4 rfl (lv_at hl 1 rfl) ?_
  refine lv_iload_n hx hb dL_tell_5 rfl (lv_at hl 2 rfl) ?_
  refine lv_iload_n hx hb dL_tell_6 rfl (lv_at hl 3 rfl) ?_
  refine lv_iload hx hb dL_tell_7 (lv_at hl 4 rfl) ?_
  refine lv_iload hx hb dL_tell_9 (lv_at hl 5 rfl) ?_
  refine lv_iload hx hb dL_tell_11 (lv_at hl 6 rfl) ?_
  refine lv_iload hx hb dL_tell_13 (lv_at hl 7 rfl) ?_
  refine lv_iload hx hb dL_tell_15 (lv_at hl 8 rfl) ?_
  refine hs_callV hC hs_Tok hW hL (ct_X7_tell E hST t cap X d G hT h99 pa ot dl se qu am day lag) cw_X7_tell lk_L_21 im_X7_tell se_X7_tell (hs_recv hC hW hT.house rfl) hl.1 (by decide) (Nat.le_of_ble_eq_true rfl) dL_tell_17 (hs_kT2 hC hhd (by decide) (by decide) (by decide) lk_L_13 lk_L_15 ca_O_IllegalArgumentException_O_IllegalArgumentException ca_O_IllegalStateException_O_IllegalStateException (fun C h => h) (hs_kI (fun z G1 k n H locs hI hk hn hW hL => ?_)) (fun q H locs hW hL => ?_) (fun q H locs hW hL => ?_))
  obtain ⟨t2, cap2, hT2, hF2, -⟩ := hI
  have hyy := vY.rf h99 hJ
  replace hk : k ≤ 5 := hk
  replace hn : n ≤ 260 := hn
  have ho1 : G1 o = some (lw_o E f9) := hF2.at hto ho
  refine lv_i2l hx hb dL_tell_20 rfl ?_
  refine hs_last hC hW hL 1 ho1 hos rfl (vp_in_nI (n := 0) (by decide) (by decide)) dL_tell_21 (fun H locs hW hL => ?_)
  refine lv_goto (tgt := 33) hx hb dL_tell_22 (by decide) ?_
  refine lv_iconst (v := 0) hx hb dL_tell_33 (by decide) ?_
  exact hs_iret hC hW hL hr hlocks (by show 0 + k ≤ 5; omega) (by show 0 + n ≤ 260; omega) dL_tell_34 ⟨_, rfl, _, _, hyy, _, _, G1, hT2, hF2, rfl⟩
  refine lv_astore (lv' := [(10, .ref _), (0, .ref _), (1, .int _), (2, .int _), (3, .int _), (4, .int _), (5, .int _), (6, .int _), (7, .int _), (8, .int _), (9, .ref _)]) hx hb dL_tell_25 hl (by decide) rfl (fun ls hl => ?_)
  refine lv_iconst (v := 1) hx hb dL_tell_27 (by decide) ?_
  exact hs_iret hC hW hL hr hlocks (by decide) (by decide) dL_tell_28 ⟨_, rfl, f9, X, vY.rf h99 hJ, t, cap, G, hT, cl_F.rf, (hs_up_id ho).symm⟩
  refine lv_astore (lv' := [(10, .ref _), (0, .ref _), (1, .int _), (2, .int _), (3, .int _), (4, .int _), (5, .int _), (6, .int _), (7, .int _), (8, .int _), (9, .ref _)]) hx hb dL_tell_29 hl (by decide) rfl (fun ls hl => ?_)
  refine lv_iconst (v := 2) hx hb dL_tell_31 (by decide) ?_
  exact hs_iret hC hW hL hr hlocks (by decide) (by decide) dL_tell_32 ⟨_, rfl, f9, X, vY.rf h99 hJ, t, cap, G, hT, cl_F.rf, (hs_up_id ho).symm⟩
theorem cw_L_hold : hs_CwT hs_Ts yL_hold cL_hold 6 (some .int) [(0, 19, 22, 13), (0, 19, 26, 15)] 5 := ⟨ii_L, co_L_hold, ⟨by decide, by decide⟩, by decide +kernel⟩
set_option maxHeartbeats 4000000 in
set_option maxRecDepth 100000 in
/-- hold -/
theorem ct_L_hold (E : hs_E) (hST : E.1.stackTraces = false) (t : cl_t) (cap X : Nat → Nat) (d : Nat) (G : hs_G) (hT : cl_T E t cap X d G) (o : Nat) (f9 : Nat → Int64) (ho : G o = some (lw_o E f9)) (hto : t o = none) (hos : (eH E).size ≤ o) (h99 : X 99 = 0) (hJ : vJ X) (hB : X 97 ≤ 1152921504606846976) (i pa on : Int32) (hon : on = 0 ∨ on = 1) : hM E yL_hold ({ frames := 8, cells := 1, slots := 6, locals := 160 }) [.ref (X 0), .int i, .int pa, .int on, .ref o] G (hs_I (fun _ G1 _ _ => lw_H E t X (d) G o G1)) := by
  refine hs_ofWT (cc := cL_hold) (maxL := 6) (ret := (some .int)) (by decide) co_L_hold ?_
  intro p e s m args below meth c hC hlocks hr hhd hW
  obtain ⟨hx, hb, hml, hown, hts, -⟩ := id hC
  have hE := hW
  have hL : ∀ q ∈ ([] : List Loc), (eH E).size ≤ q.base := fun q hq => nomatch hq
  have hl := lv_entry ([.ref (X 0), .int i, .int pa, .int on, .ref o] : List Value) (n := 6) (Nat.le_of_ble_eq_true rfl)
  rw [lg_entry_eq]
  generalize (lg_sl [.ref (X 0), .int i, .int pa, .int on, .ref o] ++ List.replicate (6 - (lg_sl [.ref (X 0), .int i, .int pa, .int on, .ref o]).length) Slot.unset).toArray = ls at hl ⊢
  have hl : lv_has ls 6 [(0, .ref (X 0)), (1, .int i), (2, .int pa), (3, .int on), (4, .ref o)] := hl
  refine lv_aload hx hb dL_hold_0 (lv_at hl 4 rfl) ?_
  refine lv_iconst (v := 0) hx hb dL_hold_2 (by decide) ?_
  refine lv_aload_n hx hb dL_hold_3 rfl (lv_at hl 0 rfl) ?_
  refine lv_iload_n hx hb dL_hold_4 rfl (lv_at hl 1 rfl) ?_
  refine lv_iload_n hx hb dL_hold_5 rfl (lv_at hl 2 rfl) ?_
  refine lv_iload_n hx hb dL_hold_6 rfl (lv_at hl 3 rfl) ?_
  refine hs_callV hC hs_Tok hW hL (ct_X7_hold E hST t cap X d G hT  i pa on hon) cw_X7_hold lk_L_25 im_X7_hold se_X7_hold (hs_recv hC hW hT.house rfl) hl.1 (by decide) (Nat.le_of_ble_eq_true rfl) dL_hold_7 (hs_kT2 hC hhd (by decide) (by decide) (by decide) lk_L_13 lk_L_15 ca_O_IllegalArgumentException_O_IllegalArgumentException ca_O_IllegalStateException_O_IllegalStateException (fun C h => h) (hs_kI (fun z G1 k n H locs hI hk hn hW hL => ?_)) (fun q H locs hW hL => ?_) (fun q H locs hW hL => ?_))
  obtain ⟨t2, cap2, hT2, hF2, -⟩ := hI
  have hyy := vY.rf h99 hJ
  replace hk : k ≤ 1 := hk
  replace hn : n ≤ 6 := hn
  have ho1 : G1 o = some (lw_o E f9) := hF2.at hto ho
  refine lv_if_eq (tgt := 17) hx hb dL_hold_10 (by decide) (fun c10 => ?_) (fun c10 => ?_)
  · refine lv_lconst (v := 0) hx hb dL_hold_17 (by decide) ?_
    refine hs_last hC hW hL 1 ho1 hos rfl (vp_in_nI (n := 0) (by decide) (by decide)) dL_hold_18 (fun H locs hW hL => ?_)
    refine lv_goto (tgt := 30) hx hb dL_hold_19 (by decide) ?_
    refine lv_iconst (v := 0) hx hb dL_hold_30 (by decide) ?_
    exact hs_iret hC hW hL hr hlocks (by show 0 + k ≤ 1; omega) (by show 0 + n ≤ 6; omega) dL_hold_31 ⟨_, rfl, _, _, hyy, _, _, G1, hT2, hF2, rfl⟩
  refine lv_lconst (v := 1) hx hb dL_hold_13 (by decide) ?_
  refine lv_goto (tgt := 18) hx hb dL_hold_14 (by decide) ?_
  refine hs_last hC hW hL 1 ho1 hos rfl (vp_in_nI (n := 0) (by decide) (by decide)) dL_hold_18 (fun H locs hW hL => ?_)
  refine lv_goto (tgt := 30) hx hb dL_hold_19 (by decide) ?_
  refine lv_iconst (v := 0) hx hb dL_hold_30 (by decide) ?_
  exact hs_iret hC hW hL hr hlocks (by show 0 + k ≤ 1; omega) (by show 0 + n ≤ 6; omega) dL_hold_31 ⟨_, rfl, _, _, hyy, _, _, G1, hT2, hF2, rfl⟩
  refine lv_astore (lv' := [(5, .ref _), (0, .ref _), (1, .int _), (2, .int _), (3, .int _), (4, .ref _)]) hx hb dL_hold_22 hl (by decide) rfl (fun ls hl => ?_)
  refine lv_iconst (v := 1) hx hb dL_hold_24 (by decide) ?_
  exact hs_iret hC hW hL hr hlocks (by decide) (by decide) dL_hold_25 ⟨_, rfl, f9, X, vY.rf h99 hJ, t, cap, G, hT, cl_F.rf, (hs_up_id ho).symm⟩
  refine lv_astore (lv' := [(5, .ref _), (0, .ref _), (1, .int _), (2, .int _), (3, .int _), (4, .ref _)]) hx hb dL_hold_26 hl (by decide) rfl (fun ls hl => ?_)
  refine lv_iconst (v := 2) hx hb dL_hold_28 (by decide) ?_
  exact hs_iret hC hW hL hr hlocks (by decide) (by decide) dL_hold_29 ⟨_, rfl, f9, X, vY.rf h99 hJ, t, cap, G, hT, cl_F.rf, (hs_up_id ho).symm⟩
theorem cw_L_rank : hs_CwT hs_Ts yL_rank cL_rank 6 (some .int) [(0, 12, 15, 13), (0, 12, 19, 15)] 5 := ⟨ii_L, co_L_rank, ⟨by decide, by decide⟩, by decide +kernel⟩
set_option maxHeartbeats 4000000 in
set_option maxRecDepth 100000 in
/-- rank -/
theorem ct_L_rank (E : hs_E) (hST : E.1.stackTraces = false) (t : cl_t) (cap X : Nat → Nat) (d : Nat) (G : hs_G) (hT : cl_T E t cap X d G) (o : Nat) (f9 : Nat → Int64) (ho : G o = some (lw_o E f9)) (hto : t o = none) (hos : (eH E).size ≤ o) (h99 : X 99 = 0) (hJ : vJ X) (hB : X 97 ≤ 1152921504606846976) (i pr on : Int32) (hon : on = 0 ∨ on = 1) : hM E yL_rank ({ frames := 8, cells := 1, slots := 6, locals := 160 }) [.ref (X 0), .int i, .int pr, .int on, .ref o] G (hs_I (fun _ G1 _ _ => lw_H E t X (d) G o G1)) := by
  refine hs_ofWT (cc := cL_rank) (maxL := 6) (ret := (some .int)) (by decide) co_L_rank ?_
  intro p e s m args below meth c hC hlocks hr hhd hW
  obtain ⟨hx, hb, hml, hown, hts, -⟩ := id hC
  have hE := hW
  have hL : ∀ q ∈ ([] : List Loc), (eH E).size ≤ q.base := fun q hq => nomatch hq
  have hl := lv_entry ([.ref (X 0), .int i, .int pr, .int on, .ref o] : List Value) (n := 6) (Nat.le_of_ble_eq_true rfl)
  rw [lg_entry_eq]
  generalize (lg_sl [.ref (X 0), .int i, .int pr, .int on, .ref o] ++ List.replicate (6 - (lg_sl [.ref (X 0), .int i, .int pr, .int on, .ref o]).length) Slot.unset).toArray = ls at hl ⊢
  have hl : lv_has ls 6 [(0, .ref (X 0)), (1, .int i), (2, .int pr), (3, .int on), (4, .ref o)] := hl
  refine lv_aload hx hb dL_rank_0 (lv_at hl 4 rfl) ?_
  refine lv_iconst (v := 0) hx hb dL_rank_2 (by decide) ?_
  refine lv_aload_n hx hb dL_rank_3 rfl (lv_at hl 0 rfl) ?_
  refine lv_iload_n hx hb dL_rank_4 rfl (lv_at hl 1 rfl) ?_
  refine lv_iload_n hx hb dL_rank_5 rfl (lv_at hl 2 rfl) ?_
  refine lv_iload_n hx hb dL_rank_6 rfl (lv_at hl 3 rfl) ?_
  refine hs_callV hC hs_Tok hW hL (ct_X7_rank E hST t cap X d G hT  i pr on hon) cw_X7_rank lk_L_29 im_X7_rank se_X7_rank (hs_recv hC hW hT.house rfl) hl.1 (by decide) (Nat.le_of_ble_eq_true rfl) dL_rank_7 (hs_kT2 hC hhd (by decide) (by decide) (by decide) lk_L_13 lk_L_15 ca_O_IllegalArgumentException_O_IllegalArgumentException ca_O_IllegalStateException_O_IllegalStateException (fun C h => h) (hs_kI (fun z G1 k n H locs hI hk hn hW hL => ?_)) (fun q H locs hW hL => ?_) (fun q H locs hW hL => ?_))
  obtain ⟨t2, cap2, hT2, hF2, -⟩ := hI
  have hyy := vY.rf h99 hJ
  replace hk : k ≤ 1 := hk
  replace hn : n ≤ 6 := hn
  have ho1 : G1 o = some (lw_o E f9) := hF2.at hto ho
  refine lv_i2l hx hb dL_rank_10 rfl ?_
  refine hs_last hC hW hL 1 ho1 hos rfl (vp_in_nI (n := 0) (by decide) (by decide)) dL_rank_11 (fun H locs hW hL => ?_)
  refine lv_goto (tgt := 23) hx hb dL_rank_12 (by decide) ?_
  refine lv_iconst (v := 0) hx hb dL_rank_23 (by decide) ?_
  exact hs_iret hC hW hL hr hlocks (by show 0 + k ≤ 1; omega) (by show 0 + n ≤ 6; omega) dL_rank_24 ⟨_, rfl, _, _, hyy, _, _, G1, hT2, hF2, rfl⟩
  refine lv_astore (lv' := [(5, .ref _), (0, .ref _), (1, .int _), (2, .int _), (3, .int _), (4, .ref _)]) hx hb dL_rank_15 hl (by decide) rfl (fun ls hl => ?_)
  refine lv_iconst (v := 1) hx hb dL_rank_17 (by decide) ?_
  exact hs_iret hC hW hL hr hlocks (by decide) (by decide) dL_rank_18 ⟨_, rfl, f9, X, vY.rf h99 hJ, t, cap, G, hT, cl_F.rf, (hs_up_id ho).symm⟩
  refine lv_astore (lv' := [(5, .ref _), (0, .ref _), (1, .int _), (2, .int _), (3, .int _), (4, .ref _)]) hx hb dL_rank_19 hl (by decide) rfl (fun ls hl => ?_)
  refine lv_iconst (v := 2) hx hb dL_rank_21 (by decide) ?_
  exact hs_iret hC hW hL hr hlocks (by decide) (by decide) dL_rank_22 ⟨_, rfl, f9, X, vY.rf h99 hJ, t, cap, G, hT, cl_F.rf, (hs_up_id ho).symm⟩
theorem cw_L_link : hs_CwT hs_Ts yL_link cL_link 5 (some .int) [(0, 10, 13, 13), (0, 10, 17, 15)] 4 := ⟨ii_L, co_L_link, ⟨by decide, by decide⟩, by decide +kernel⟩
set_option maxHeartbeats 4000000 in
set_option maxRecDepth 100000 in
/-- link -/
theorem ct_L_link (E : hs_E) (hST : E.1.stackTraces = false) (t : cl_t) (cap X : Nat → Nat) (d : Nat) (G : hs_G) (hT : cl_T E t cap X d G) (o : Nat) (f9 : Nat → Int64) (ho : G o = some (lw_o E f9)) (hto : t o = none) (hos : (eH E).size ≤ o) (h99 : X 99 = 0) (hJ : vJ X) (hB : X 97 ≤ 1152921504606846976) (i j : Int32) : hM E yL_link ({ frames := 9, cells := 6, slots := 1380, locals := 350 }) [.ref (X 0), .int i, .int j, .ref o] G (hs_I (fun _ G1 _ _ => lw_H E t X (d) G o G1)) := by
  refine hs_ofWT (cc := cL_link) (maxL := 5) (ret := (some .int)) (by decide) co_L_link ?_
  intro p e s m args below meth c hC hlocks hr hhd hW
  obtain ⟨hx, hb, hml, hown, hts, -⟩ := id hC
  have hE := hW
  have hL : ∀ q ∈ ([] : List Loc), (eH E).size ≤ q.base := fun q hq => nomatch hq
  have hl := lv_entry ([.ref (X 0), .int i, .int j, .ref o] : List Value) (n := 5) (Nat.le_of_ble_eq_true rfl)
  rw [lg_entry_eq]
  generalize (lg_sl [.ref (X 0), .int i, .int j, .ref o] ++ List.replicate (5 - (lg_sl [.ref (X 0), .int i, .int j, .ref o]).length) Slot.unset).toArray = ls at hl ⊢
  have hl : lv_has ls 5 [(0, .ref (X 0)), (1, .int i), (2, .int j), (3, .ref o)] := hl
  refine lv_aload_n hx hb dL_link_0 rfl (lv_at hl 3 rfl) ?_
  refine lv_iconst (v := 0) hx hb dL_link_1 (by decide) ?_
  refine lv_aload_n hx hb dL_link_2 rfl (lv_at hl 0 rfl) ?_
  refine lv_iload_n hx hb dL_link_3 rfl (lv_at hl 1 rfl) ?_
  refine lv_iload_n hx hb dL_link_4 rfl (lv_at hl 2 rfl) ?_
  refine hs_callV hC hs_Tok hW hL (ct_X7_link E hST t cap X d G hT h99 i j) cw_X7_link lk_L_33 im_X7_link se_X7_link (hs_recv hC hW hT.house rfl) hl.1 (by decide) (Nat.le_of_ble_eq_true rfl) dL_link_5 (hs_kT2 hC hhd (by decide) (by decide) (by decide) lk_L_13 lk_L_15 ca_O_IllegalArgumentException_O_IllegalArgumentException ca_O_IllegalStateException_O_IllegalStateException (fun C h => h) (hs_kI (fun z G1 k n H locs hI hk hn hW hL => ?_)) (fun q H locs hW hL => ?_) (fun q H locs hW hL => ?_))
  obtain ⟨t2, cap2, hT2, hF2, -⟩ := hI
  have hyy := vY.rf h99 hJ
  replace hk : k ≤ 6 := hk
  replace hn : n ≤ 1380 := hn
  have ho1 : G1 o = some (lw_o E f9) := hF2.at hto ho
  refine lv_i2l hx hb dL_link_8 rfl ?_
  refine hs_last hC hW hL 1 ho1 hos rfl (vp_in_nI (n := 0) (by decide) (by decide)) dL_link_9 (fun H locs hW hL => ?_)
  refine lv_goto (tgt := 21) hx hb dL_link_10 (by decide) ?_
  refine lv_iconst (v := 0) hx hb dL_link_21 (by decide) ?_
  exact hs_iret hC hW hL hr hlocks (by show 0 + k ≤ 6; omega) (by show 0 + n ≤ 1380; omega) dL_link_22 ⟨_, rfl, _, _, hyy, _, _, G1, hT2, hF2, rfl⟩
  refine lv_astore (lv' := [(4, .ref _), (0, .ref _), (1, .int _), (2, .int _), (3, .ref _)]) hx hb dL_link_13 hl (by decide) rfl (fun ls hl => ?_)
  refine lv_iconst (v := 1) hx hb dL_link_15 (by decide) ?_
  exact hs_iret hC hW hL hr hlocks (by decide) (by decide) dL_link_16 ⟨_, rfl, f9, X, vY.rf h99 hJ, t, cap, G, hT, cl_F.rf, (hs_up_id ho).symm⟩
  refine lv_astore (lv' := [(4, .ref _), (0, .ref _), (1, .int _), (2, .int _), (3, .ref _)]) hx hb dL_link_17 hl (by decide) rfl (fun ls hl => ?_)
  refine lv_iconst (v := 2) hx hb dL_link_19 (by decide) ?_
  exact hs_iret hC hW hL hr hlocks (by decide) (by decide) dL_link_20 ⟨_, rfl, f9, X, vY.rf h99 hJ, t, cap, G, hT, cl_F.rf, (hs_up_id ho).symm⟩
theorem cw_L_cancel : hs_CwT hs_Ts yL_cancel cL_cancel 5 (some .int) [(0, 10, 13, 13), (0, 10, 17, 15)] 4 := ⟨ii_L, co_L_cancel, ⟨by decide, by decide⟩, by decide +kernel⟩
set_option maxHeartbeats 4000000 in
set_option maxRecDepth 100000 in
/-- cancel -/
theorem ct_L_cancel (E : hs_E) (hST : E.1.stackTraces = false) (t : cl_t) (cap X : Nat → Nat) (d : Nat) (G : hs_G) (hT : cl_T E t cap X d G) (o : Nat) (f9 : Nat → Int64) (ho : G o = some (lw_o E f9)) (hto : t o = none) (hos : (eH E).size ≤ o) (h99 : X 99 = 0) (hJ : vJ X) (hB : X 97 ≤ 1152921504606846976) (i pa : Int32) : hM E yL_cancel ({ frames := 8, cells := 1, slots := 6, locals := 210 }) [.ref (X 0), .int i, .int pa, .ref o] G (hs_I (fun _ G1 _ _ => lw_H E t X (d) G o G1)) := by
  refine hs_ofWT (cc := cL_cancel) (maxL := 5) (ret := (some .int)) (by decide) co_L_cancel ?_
  intro p e s m args below meth c hC hlocks hr hhd hW
  obtain ⟨hx, hb, hml, hown, hts, -⟩ := id hC
  have hE := hW
  have hL : ∀ q ∈ ([] : List Loc), (eH E).size ≤ q.base := fun q hq => nomatch hq
  have hl := lv_entry ([.ref (X 0), .int i, .int pa, .ref o] : List Value) (n := 5) (Nat.le_of_ble_eq_true rfl)
  rw [lg_entry_eq]
  generalize (lg_sl [.ref (X 0), .int i, .int pa, .ref o] ++ List.replicate (5 - (lg_sl [.ref (X 0), .int i, .int pa, .ref o]).length) Slot.unset).toArray = ls at hl ⊢
  have hl : lv_has ls 5 [(0, .ref (X 0)), (1, .int i), (2, .int pa), (3, .ref o)] := hl
  refine lv_aload_n hx hb dL_cancel_0 rfl (lv_at hl 3 rfl) ?_
  refine lv_iconst (v := 0) hx hb dL_cancel_1 (by decide) ?_
  refine lv_aload_n hx hb dL_cancel_2 rfl (lv_at hl 0 rfl) ?_
  refine lv_iload_n hx hb dL_cancel_3 rfl (lv_at hl 1 rfl) ?_
  refine lv_iload_n hx hb dL_cancel_4 rfl (lv_at hl 2 rfl) ?_
  refine hs_callV hC hs_Tok hW hL (ct_X7_cancel E hST t cap X d G hT h99 i pa) cw_X7_cancel lk_L_37 im_X7_cancel se_X7_cancel (hs_recv hC hW hT.house rfl) hl.1 (by decide) (Nat.le_of_ble_eq_true rfl) dL_cancel_5 (hs_kT2 hC hhd (by decide) (by decide) (by decide) lk_L_13 lk_L_15 ca_O_IllegalArgumentException_O_IllegalArgumentException ca_O_IllegalStateException_O_IllegalStateException (fun C h => h) (hs_kI (fun z G1 k n H locs hI hk hn hW hL => ?_)) (fun q H locs hW hL => ?_) (fun q H locs hW hL => ?_))
  obtain ⟨t2, cap2, hT2, hF2, -⟩ := hI
  have hyy := vY.rf h99 hJ
  replace hk : k ≤ 1 := hk
  replace hn : n ≤ 6 := hn
  have ho1 : G1 o = some (lw_o E f9) := hF2.at hto ho
  refine lv_i2l hx hb dL_cancel_8 rfl ?_
  refine hs_last hC hW hL 1 ho1 hos rfl (vp_in_nI (n := 0) (by decide) (by decide)) dL_cancel_9 (fun H locs hW hL => ?_)
  refine lv_goto (tgt := 21) hx hb dL_cancel_10 (by decide) ?_
  refine lv_iconst (v := 0) hx hb dL_cancel_21 (by decide) ?_
  exact hs_iret hC hW hL hr hlocks (by show 0 + k ≤ 1; omega) (by show 0 + n ≤ 6; omega) dL_cancel_22 ⟨_, rfl, _, _, hyy, _, _, G1, hT2, hF2, rfl⟩
  refine lv_astore (lv' := [(4, .ref _), (0, .ref _), (1, .int _), (2, .int _), (3, .ref _)]) hx hb dL_cancel_13 hl (by decide) rfl (fun ls hl => ?_)
  refine lv_iconst (v := 1) hx hb dL_cancel_15 (by decide) ?_
  exact hs_iret hC hW hL hr hlocks (by decide) (by decide) dL_cancel_16 ⟨_, rfl, f9, X, vY.rf h99 hJ, t, cap, G, hT, cl_F.rf, (hs_up_id ho).symm⟩
  refine lv_astore (lv' := [(4, .ref _), (0, .ref _), (1, .int _), (2, .int _), (3, .ref _)]) hx hb dL_cancel_17 hl (by decide) rfl (fun ls hl => ?_)
  refine lv_iconst (v := 2) hx hb dL_cancel_19 (by decide) ?_
  exact hs_iret hC hW hL hr hlocks (by decide) (by decide) dL_cancel_20 ⟨_, rfl, f9, X, vY.rf h99 hJ, t, cap, G, hT, cl_F.rf, (hs_up_id ho).symm⟩
theorem cw_L_nextDay : hs_CwT hs_Ts yL_nextDay cL_nextDay 3 (some .int) [(0, 8, 11, 15)] 2 := ⟨ii_L, co_L_nextDay, ⟨by decide, by decide⟩, by decide +kernel⟩
set_option maxHeartbeats 4000000 in
set_option maxRecDepth 100000 in
/-- nextDay -/
theorem ct_L_nextDay (E : hs_E) (hST : E.1.stackTraces = false) (t : cl_t) (cap X : Nat → Nat) (d : Nat) (G : hs_G) (hT : cl_T E t cap X d G) (o : Nat) (f9 : Nat → Int64) (ho : G o = some (lw_o E f9)) (hto : t o = none) (hos : (eH E).size ≤ o) (h99 : X 99 = 0) (hJ : vJ X) (hB : X 97 ≤ 1152921504606846976) : hM E yL_nextDay ({ frames := 11, cells := 230, slots := 1130, locals := 390 }) [.ref (X 0), .ref o] G (hs_I (fun _ G1 _ _ => lw_H E t X (if d < 20000 then d + 1 else d) G o G1)) := by
  refine hs_ofWT (cc := cL_nextDay) (maxL := 3) (ret := (some .int)) (by decide) co_L_nextDay ?_
  intro p e s m args below meth c hC hlocks hr hhd hW
  obtain ⟨hx, hb, hml, hown, hts, -⟩ := id hC
  have hE := hW
  have hL : ∀ q ∈ ([] : List Loc), (eH E).size ≤ q.base := fun q hq => nomatch hq
  have hl := lv_entry ([.ref (X 0), .ref o] : List Value) (n := 3) (Nat.le_of_ble_eq_true rfl)
  rw [lg_entry_eq]
  generalize (lg_sl [.ref (X 0), .ref o] ++ List.replicate (3 - (lg_sl [.ref (X 0), .ref o]).length) Slot.unset).toArray = ls at hl ⊢
  have hl : lv_has ls 3 [(0, .ref (X 0)), (1, .ref o)] := hl
  refine lv_aload_n hx hb dL_nextDay_0 rfl (lv_at hl 1 rfl) ?_
  refine lv_iconst (v := 0) hx hb dL_nextDay_1 (by decide) ?_
  refine lv_aload_n hx hb dL_nextDay_2 rfl (lv_at hl 0 rfl) ?_
  refine hs_callV hC hs_Tok hW hL (ct_X7_nextDay E hST t cap X d G hT h99 hJ hB ) cw_X7_nextDay lk_L_40 im_X7_nextDay se_X7_nextDay (hs_recv hC hW hT.house rfl) hl.1 (by decide) (Nat.le_of_ble_eq_true rfl) dL_nextDay_3 (hs_kT1 hC hhd (by decide) (by decide) lk_L_15 ca_O_IllegalStateException_O_IllegalStateException (fun C h => h.1) (hs_kI (fun z G1 k n H locs hI hk hn hW hL => ?_)) (fun q H locs hP9 hW hL => ?_))
  obtain ⟨t2, cap2, ⟨Y2, hT2, hY2, hJ2⟩, hF2, -⟩ := hI
  have hyy := vY.of h99 hY2 hJ2
  replace hk : k ≤ 230 := hk
  replace hn : n ≤ 1130 := hn
  have ho1 : G1 o = some (lw_o E f9) := hF2.at hto ho
  refine lv_i2l hx hb dL_nextDay_6 rfl ?_
  refine hs_last hC hW hL 1 ho1 hos rfl (vp_in_nI (n := 0) (by decide) (by decide)) dL_nextDay_7 (fun H locs hW hL => ?_)
  refine lv_goto (tgt := 14) hx hb dL_nextDay_8 (by decide) ?_
  refine lv_iconst (v := 0) hx hb dL_nextDay_14 (by decide) ?_
  exact hs_iret hC hW hL hr hlocks (by show 0 + k ≤ 230; omega) (by show 0 + n ≤ 1130; omega) dL_nextDay_15 ⟨_, rfl, _, _, hyy, _, _, G1, hT2, hF2, rfl⟩
  refine lv_astore_n (lv' := [(2, .ref _), (0, .ref _), (1, .ref _)]) hx hb dL_nextDay_11 rfl hl (by decide) rfl (fun ls hl => ?_)
  refine lv_iconst (v := 1) hx hb dL_nextDay_12 (by decide) ?_
  exact hs_iret hC hW hL hr hlocks (by decide) (by decide) dL_nextDay_13 ⟨_, rfl, f9, X, vY.rf h99 hJ, t, cap, G, (by rw [if_neg hP9.2]; exact hT), cl_F.rf, (hs_up_id ho).symm⟩
theorem cw_L_goTo : hs_CwT hs_Ts yL_goTo cL_goTo 4 (some .int) [(0, 9, 12, 13)] 3 := ⟨ii_L, co_L_goTo, ⟨by decide, by decide⟩, by decide +kernel⟩
set_option maxHeartbeats 4000000 in
set_option maxRecDepth 100000 in
/-- goTo -/
theorem ct_L_goTo (E : hs_E) (hST : E.1.stackTraces = false) (t : cl_t) (cap X : Nat → Nat) (d : Nat) (G : hs_G) (hT : cl_T E t cap X d G) (o : Nat) (f9 : Nat → Int64) (ho : G o = some (lw_o E f9)) (hto : t o = none) (hos : (eH E).size ≤ o) (h99 : X 99 = 0) (hJ : vJ X) (hB : X 97 ≤ 1152921504606846976) (dy : Int32) : hM E yL_goTo ({ frames := 11, cells := 460, slots := 2030, locals := 390 }) [.ref (X 0), .int dy, .ref o] G (hs_I (fun _ G1 _ _ => lw_H E t X (mo_go d dy) G o G1)) := by
  refine hs_ofWT (cc := cL_goTo) (maxL := 4) (ret := (some .int)) (by decide) co_L_goTo ?_
  intro p e s m args below meth c hC hlocks hr hhd hW
  obtain ⟨hx, hb, hml, hown, hts, -⟩ := id hC
  have hE := hW
  have hL : ∀ q ∈ ([] : List Loc), (eH E).size ≤ q.base := fun q hq => nomatch hq
  have hl := lv_entry ([.ref (X 0), .int dy, .ref o] : List Value) (n := 4) (Nat.le_of_ble_eq_true rfl)
  rw [lg_entry_eq]
  generalize (lg_sl [.ref (X 0), .int dy, .ref o] ++ List.replicate (4 - (lg_sl [.ref (X 0), .int dy, .ref o]).length) Slot.unset).toArray = ls at hl ⊢
  have hl : lv_has ls 4 [(0, .ref (X 0)), (1, .int dy), (2, .ref o)] := hl
  refine lv_aload_n hx hb dL_goTo_0 rfl (lv_at hl 2 rfl) ?_
  refine lv_iconst (v := 0) hx hb dL_goTo_1 (by decide) ?_
  refine lv_aload_n hx hb dL_goTo_2 rfl (lv_at hl 0 rfl) ?_
  refine lv_iload_n hx hb dL_goTo_3 rfl (lv_at hl 1 rfl) ?_
  refine hs_callV hC hs_Tok hW hL (ct_X7_goTo E hST t cap X d G hT h99 hJ hB dy) cw_X7_goTo lk_L_44 im_X7_goTo se_X7_goTo (hs_recv hC hW hT.house rfl) hl.1 (by decide) (Nat.le_of_ble_eq_true rfl) dL_goTo_4 (hs_kT1 hC hhd (by decide) (by decide) lk_L_13 ca_O_IllegalArgumentException_O_IllegalArgumentException (fun C h => h.1) (hs_kI (fun z G1 k n H locs hI hk hn hW hL => ?_)) (fun q H locs hP9 hW hL => ?_))
  obtain ⟨t2, cap2, ⟨Y2, hT2, hY2, hJ2⟩, hF2, -⟩ := hI
  have hyy := vY.of h99 hY2 hJ2
  replace hk : k ≤ 460 := hk
  replace hn : n ≤ 2030 := hn
  have ho1 : G1 o = some (lw_o E f9) := hF2.at hto ho
  refine lv_i2l hx hb dL_goTo_7 rfl ?_
  refine hs_last hC hW hL 1 ho1 hos rfl (vp_in_nI (n := 0) (by decide) (by decide)) dL_goTo_8 (fun H locs hW hL => ?_)
  refine lv_goto (tgt := 15) hx hb dL_goTo_9 (by decide) ?_
  refine lv_iconst (v := 0) hx hb dL_goTo_15 (by decide) ?_
  exact hs_iret hC hW hL hr hlocks (by show 0 + k ≤ 460; omega) (by show 0 + n ≤ 2030; omega) dL_goTo_16 ⟨_, rfl, _, _, hyy, _, _, G1, hT2, hF2, rfl⟩
  refine lv_astore_n (lv' := [(3, .ref _), (0, .ref _), (1, .int _), (2, .ref _)]) hx hb dL_goTo_12 rfl hl (by decide) rfl (fun ls hl => ?_)
  refine lv_iconst (v := 1) hx hb dL_goTo_13 (by decide) ?_
  exact hs_iret hC hW hL hr hlocks (by decide) (by decide) dL_goTo_14 ⟨_, rfl, f9, X, vY.rf h99 hJ, t, cap, G, (by rw [hP9.2]; exact hT), cl_F.rf, (hs_up_id ho).symm⟩
theorem cw_L_has : hs_CwT hs_Ts yL_has cL_has 5 (some .int) [(0, 9, 12, 13)] 4 := ⟨ii_L, co_L_has, ⟨by decide, by decide⟩, by decide +kernel⟩
set_option maxHeartbeats 4000000 in
set_option maxRecDepth 100000 in
/-- has -/
theorem ct_L_has (E : hs_E) (hST : E.1.stackTraces = false) (t : cl_t) (cap X : Nat → Nat) (d : Nat) (G : hs_G) (hT : cl_T E t cap X d G) (o : Nat) (f9 : Nat → Int64) (ho : G o = some (lw_o E f9)) (hto : t o = none) (hos : (eH E).size ≤ o) (h99 : X 99 = 0) (hJ : vJ X) (hB : X 97 ≤ 1152921504606846976) (pa se : Int32) : hM E yL_has ({ frames := 8, cells := 1, slots := 6, locals := 160 }) [.ref (X 0), .int pa, .int se, .ref o] G (hs_I (fun _ G1 _ _ => lw_H E t X (d) G o G1)) := by
  refine hs_ofWT (cc := cL_has) (maxL := 5) (ret := (some .int)) (by decide) co_L_has ?_
  intro p e s m args below meth c hC hlocks hr hhd hW
  obtain ⟨hx, hb, hml, hown, hts, -⟩ := id hC
  have hE := hW
  have hL : ∀ q ∈ ([] : List Loc), (eH E).size ≤ q.base := fun q hq => nomatch hq
  have hl := lv_entry ([.ref (X 0), .int pa, .int se, .ref o] : List Value) (n := 5) (Nat.le_of_ble_eq_true rfl)
  rw [lg_entry_eq]
  generalize (lg_sl [.ref (X 0), .int pa, .int se, .ref o] ++ List.replicate (5 - (lg_sl [.ref (X 0), .int pa, .int se, .ref o]).length) Slot.unset).toArray = ls at hl ⊢
  have hl : lv_has ls 5 [(0, .ref (X 0)), (1, .int pa), (2, .int se), (3, .ref o)] := hl
  refine lv_aload_n hx hb dL_has_0 rfl (lv_at hl 3 rfl) ?_
  refine lv_iconst (v := 0) hx hb dL_has_1 (by decide) ?_
  refine lv_aload_n hx hb dL_has_2 rfl (lv_at hl 0 rfl) ?_
  refine lv_iload_n hx hb dL_has_3 rfl (lv_at hl 1 rfl) ?_
  refine lv_iload_n hx hb dL_has_4 rfl (lv_at hl 2 rfl) ?_
  refine hs_callV hC hs_Tok hW hL (ct_X7_has E hST t cap X d G hT  pa se) cw_X7_has lk_L_48 im_X7_has se_X7_has (hs_recv hC hW hT.house rfl) hl.1 (by decide) (Nat.le_of_ble_eq_true rfl) dL_has_5 (hs_kT1 hC hhd (by decide) (by decide) lk_L_13 ca_O_IllegalArgumentException_O_IllegalArgumentException (fun C h => h) (hs_kJ (fun z G1 k n H locs hI hk hn hW hL => ?_)) (fun q H locs hP9 hW hL => ?_))
  obtain ⟨t2, cap2, hT2, hF2, -⟩ := hI
  have hyy := vY.rf h99 hJ
  replace hk : k ≤ 1 := hk
  replace hn : n ≤ 6 := hn
  have ho1 : G1 o = some (lw_o E f9) := hF2.at hto ho
  refine hs_last hC hW hL 1 ho1 hos rfl (vp_in_nI (n := 0) (by decide) (by decide)) dL_has_8 (fun H locs hW hL => ?_)
  refine lv_goto (tgt := 16) hx hb dL_has_9 (by decide) ?_
  refine lv_iconst (v := 0) hx hb dL_has_16 (by decide) ?_
  exact hs_iret hC hW hL hr hlocks (by show 0 + k ≤ 1; omega) (by show 0 + n ≤ 6; omega) dL_has_17 ⟨_, rfl, _, _, hyy, _, _, G1, hT2, hF2, rfl⟩
  refine lv_astore (lv' := [(4, .ref _), (0, .ref _), (1, .int _), (2, .int _), (3, .ref _)]) hx hb dL_has_12 hl (by decide) rfl (fun ls hl => ?_)
  refine lv_iconst (v := 1) hx hb dL_has_14 (by decide) ?_
  exact hs_iret hC hW hL hr hlocks (by decide) (by decide) dL_has_15 ⟨_, rfl, f9, X, vY.rf h99 hJ, t, cap, G, hT, cl_F.rf, (hs_up_id ho).symm⟩
theorem cw_L_trade : hs_CwT hs_Ts yL_trade cL_trade 5 (some .int) [(0, 10, 13, 13)] 4 := ⟨ii_L, co_L_trade, ⟨by decide, by decide⟩, by decide +kernel⟩
set_option maxHeartbeats 4000000 in
set_option maxRecDepth 100000 in
/-- trade -/
theorem ct_L_trade (E : hs_E) (hST : E.1.stackTraces = false) (t : cl_t) (cap X : Nat → Nat) (d : Nat) (G : hs_G) (hT : cl_T E t cap X d G) (o : Nat) (f9 : Nat → Int64) (ho : G o = some (lw_o E f9)) (hto : t o = none) (hos : (eH E).size ≤ o) (h99 : X 99 = 0) (hJ : vJ X) (hB : X 97 ≤ 1152921504606846976) (i wh : Int32) : hM E yL_trade ({ frames := 8, cells := 1, slots := 6, locals := 160 }) [.ref (X 0), .int i, .int wh, .ref o] G (hs_I (fun _ G1 _ _ => lw_H E t X (d) G o G1)) := by
  refine hs_ofWT (cc := cL_trade) (maxL := 5) (ret := (some .int)) (by decide) co_L_trade ?_
  intro p e s m args below meth c hC hlocks hr hhd hW
  obtain ⟨hx, hb, hml, hown, hts, -⟩ := id hC
  have hE := hW
  have hL : ∀ q ∈ ([] : List Loc), (eH E).size ≤ q.base := fun q hq => nomatch hq
  have hl := lv_entry ([.ref (X 0), .int i, .int wh, .ref o] : List Value) (n := 5) (Nat.le_of_ble_eq_true rfl)
  rw [lg_entry_eq]
  generalize (lg_sl [.ref (X 0), .int i, .int wh, .ref o] ++ List.replicate (5 - (lg_sl [.ref (X 0), .int i, .int wh, .ref o]).length) Slot.unset).toArray = ls at hl ⊢
  have hl : lv_has ls 5 [(0, .ref (X 0)), (1, .int i), (2, .int wh), (3, .ref o)] := hl
  refine lv_aload_n hx hb dL_trade_0 rfl (lv_at hl 3 rfl) ?_
  refine lv_iconst (v := 0) hx hb dL_trade_1 (by decide) ?_
  refine lv_aload_n hx hb dL_trade_2 rfl (lv_at hl 0 rfl) ?_
  refine lv_iload_n hx hb dL_trade_3 rfl (lv_at hl 1 rfl) ?_
  refine lv_iload_n hx hb dL_trade_4 rfl (lv_at hl 2 rfl) ?_
  refine hs_callV hC hs_Tok hW hL (ct_X7_trade E hST t cap X d G hT  i wh) cw_X7_trade lk_L_52 im_X7_trade se_X7_trade (hs_recv hC hW hT.house rfl) hl.1 (by decide) (Nat.le_of_ble_eq_true rfl) dL_trade_5 (hs_kT1 hC hhd (by decide) (by decide) lk_L_13 ca_O_IllegalArgumentException_O_IllegalArgumentException (fun C h => h) (hs_kI (fun z G1 k n H locs hI hk hn hW hL => ?_)) (fun q H locs hP9 hW hL => ?_))
  obtain ⟨t2, cap2, hT2, hF2, -⟩ := hI
  have hyy := vY.rf h99 hJ
  replace hk : k ≤ 1 := hk
  replace hn : n ≤ 6 := hn
  have ho1 : G1 o = some (lw_o E f9) := hF2.at hto ho
  refine lv_i2l hx hb dL_trade_8 rfl ?_
  refine hs_last hC hW hL 1 ho1 hos rfl (vp_in_nI (n := 0) (by decide) (by decide)) dL_trade_9 (fun H locs hW hL => ?_)
  refine lv_goto (tgt := 17) hx hb dL_trade_10 (by decide) ?_
  refine lv_iconst (v := 0) hx hb dL_trade_17 (by decide) ?_
  exact hs_iret hC hW hL hr hlocks (by show 0 + k ≤ 1; omega) (by show 0 + n ≤ 6; omega) dL_trade_18 ⟨_, rfl, _, _, hyy, _, _, G1, hT2, hF2, rfl⟩
  refine lv_astore (lv' := [(4, .ref _), (0, .ref _), (1, .int _), (2, .int _), (3, .ref _)]) hx hb dL_trade_13 hl (by decide) rfl (fun ls hl => ?_)
  refine lv_iconst (v := 1) hx hb dL_trade_15 (by decide) ?_
  exact hs_iret hC hW hL hr hlocks (by decide) (by decide) dL_trade_16 ⟨_, rfl, f9, X, vY.rf h99 hJ, t, cap, G, hT, cl_F.rf, (hs_up_id ho).symm⟩
theorem cw_L_business : hs_CwT hs_Ts yL_business cL_business 5 (some .int) [(0, 10, 13, 13)] 4 := ⟨ii_L, co_L_business, ⟨by decide, by decide⟩, by decide +kernel⟩
set_option maxHeartbeats 4000000 in
set_option maxRecDepth 100000 in
/-- business -/
theorem ct_L_business (E : hs_E) (hST : E.1.stackTraces = false) (t : cl_t) (cap X : Nat → Nat) (d : Nat) (G : hs_G) (hT : cl_T E t cap X d G) (o : Nat) (f9 : Nat → Int64) (ho : G o = some (lw_o E f9)) (hto : t o = none) (hos : (eH E).size ≤ o) (h99 : X 99 = 0) (hJ : vJ X) (hB : X 97 ≤ 1152921504606846976) (a b : Int32) : hM E yL_business ({ frames := 8, cells := 1, slots := 6, locals := 160 }) [.ref (X 0), .int a, .int b, .ref o] G (hs_I (fun r G1 _ _ => (r = 0 ∧ ∃ (a9 b9 k9 : Nat) (f : Nat → Int64), a = nI a9 ∧ a9 ≤ 20000 ∧ b = nI b9 ∧ b9 ≤ 1000 ∧ k9 < 40000 ∧ bz (bz_b X) a9 b9 k9 ∧ f 0 = (nI (a9 + k9)).toInt64 ∧ G1 = hs_up G o (lw_o E f)) ∨ (r = 1 ∧ ¬ ((0 ≤ a ∧ a ≤ 20000) ∧ (0 ≤ b ∧ b ≤ 1000)) ∧ G1 = G))) := by
  refine hs_ofWT (cc := cL_business) (maxL := 5) (ret := (some .int)) (by decide) co_L_business ?_
  intro p e s m args below meth c hC hlocks hr hhd hW
  obtain ⟨hx, hb, hml, hown, hts, -⟩ := id hC
  have hE := hW
  have hL : ∀ q ∈ ([] : List Loc), (eH E).size ≤ q.base := fun q hq => nomatch hq
  have hl := lv_entry ([.ref (X 0), .int a, .int b, .ref o] : List Value) (n := 5) (Nat.le_of_ble_eq_true rfl)
  rw [lg_entry_eq]
  generalize (lg_sl [.ref (X 0), .int a, .int b, .ref o] ++ List.replicate (5 - (lg_sl [.ref (X 0), .int a, .int b, .ref o]).length) Slot.unset).toArray = ls at hl ⊢
  have hl : lv_has ls 5 [(0, .ref (X 0)), (1, .int a), (2, .int b), (3, .ref o)] := hl
  refine lv_aload_n hx hb dL_business_0 rfl (lv_at hl 3 rfl) ?_
  refine lv_iconst (v := 0) hx hb dL_business_1 (by decide) ?_
  refine lv_aload_n hx hb dL_business_2 rfl (lv_at hl 0 rfl) ?_
  refine lv_iload_n hx hb dL_business_3 rfl (lv_at hl 1 rfl) ?_
  refine lv_iload_n hx hb dL_business_4 rfl (lv_at hl 2 rfl) ?_
  refine hs_callV hC hs_Tok hW hL (ct_X7_business E hST t cap X d G hT a b) cw_X7_business lk_L_55 im_X7_business se_X7_business (hs_recv hC hW hT.house rfl) hl.1 (by decide) (Nat.le_of_ble_eq_true rfl) dL_business_5 (hs_kT1 hC hhd (by decide) (by decide) lk_L_13 ca_O_IllegalArgumentException_O_IllegalArgumentException (fun C h => h.1) (hs_kI (fun z G1 k n H locs hI hk hn hW hL => ?_)) (fun q H locs hP9 hW hL => ?_))
  obtain ⟨hG1, rfl, rfl, a9, b9, k9, ea, ha9, eb, hb9, ez, hk9, hz9⟩ := hI
  rw [hG1] at hW
  refine lv_i2l hx hb dL_business_8 rfl ?_
  refine hs_last hC hW hL 1 ho hos rfl (vp_in_nI (n := 0) (by decide) (by decide)) dL_business_9 (fun H locs hW hL => ?_)
  refine lv_goto (tgt := 17) hx hb dL_business_10 (by decide) ?_
  refine lv_iconst (v := 0) hx hb dL_business_17 (by decide) ?_
  exact hs_iret hC hW hL hr hlocks (by decide) (by decide) dL_business_18 ⟨_, rfl, Or.inl ⟨rfl, a9, b9, k9, _, ea, ha9, eb, hb9, hk9, hz9, (by rw [← ez]; rfl), rfl⟩⟩
  refine lv_astore (lv' := [(4, .ref _), (0, .ref _), (1, .int _), (2, .int _), (3, .ref _)]) hx hb dL_business_13 hl (by decide) rfl (fun ls hl => ?_)
  refine lv_iconst (v := 1) hx hb dL_business_15 (by decide) ?_
  exact hs_iret hC hW hL hr hlocks (by decide) (by decide) dL_business_16 ⟨_, rfl, Or.inr ⟨rfl, hP9.2, rfl⟩⟩
theorem cw_L_count : hs_CwT hs_Ts yL_count cL_count 4 (some .int) [(0, 9, 12, 13)] 3 := ⟨ii_L, co_L_count, ⟨by decide, by decide⟩, by decide +kernel⟩
set_option maxHeartbeats 4000000 in
set_option maxRecDepth 100000 in
/-- count -/
theorem ct_L_count (E : hs_E) (hST : E.1.stackTraces = false) (t : cl_t) (cap X : Nat → Nat) (d : Nat) (G : hs_G) (hT : cl_T E t cap X d G) (o : Nat) (f9 : Nat → Int64) (ho : G o = some (lw_o E f9)) (hto : t o = none) (hos : (eH E).size ≤ o) (h99 : X 99 = 0) (hJ : vJ X) (hB : X 97 ≤ 1152921504606846976) (sa : Int32) : hM E yL_count ({ frames := 8, cells := 1, slots := 6, locals := 160 }) [.ref (X 0), .int sa, .ref o] G (hs_I (fun _ G1 _ _ => lw_H E t X (d) G o G1)) := by
  refine hs_ofWT (cc := cL_count) (maxL := 4) (ret := (some .int)) (by decide) co_L_count ?_
  intro p e s m args below meth c hC hlocks hr hhd hW
  obtain ⟨hx, hb, hml, hown, hts, -⟩ := id hC
  have hE := hW
  have hL : ∀ q ∈ ([] : List Loc), (eH E).size ≤ q.base := fun q hq => nomatch hq
  have hl := lv_entry ([.ref (X 0), .int sa, .ref o] : List Value) (n := 4) (Nat.le_of_ble_eq_true rfl)
  rw [lg_entry_eq]
  generalize (lg_sl [.ref (X 0), .int sa, .ref o] ++ List.replicate (4 - (lg_sl [.ref (X 0), .int sa, .ref o]).length) Slot.unset).toArray = ls at hl ⊢
  have hl : lv_has ls 4 [(0, .ref (X 0)), (1, .int sa), (2, .ref o)] := hl
  refine lv_aload_n hx hb dL_count_0 rfl (lv_at hl 2 rfl) ?_
  refine lv_iconst (v := 0) hx hb dL_count_1 (by decide) ?_
  refine lv_aload_n hx hb dL_count_2 rfl (lv_at hl 0 rfl) ?_
  refine lv_iload_n hx hb dL_count_3 rfl (lv_at hl 1 rfl) ?_
  refine hs_callV hC hs_Tok hW hL (ct_X7_count E hST t cap X d G hT  sa) cw_X7_count lk_L_61 im_X7_count se_X7_count (hs_recv hC hW hT.house rfl) hl.1 (by decide) (Nat.le_of_ble_eq_true rfl) dL_count_4 (hs_kT1 hC hhd (by decide) (by decide) lk_L_13 ca_O_IllegalArgumentException_O_IllegalArgumentException (fun C h => h) (hs_kI (fun z G1 k n H locs hI hk hn hW hL => ?_)) (fun q H locs hP9 hW hL => ?_))
  obtain ⟨t2, cap2, hT2, hF2, -⟩ := hI
  have hyy := vY.rf h99 hJ
  replace hk : k ≤ 1 := hk
  replace hn : n ≤ 6 := hn
  have ho1 : G1 o = some (lw_o E f9) := hF2.at hto ho
  refine lv_i2l hx hb dL_count_7 rfl ?_
  refine hs_last hC hW hL 1 ho1 hos rfl (vp_in_nI (n := 0) (by decide) (by decide)) dL_count_8 (fun H locs hW hL => ?_)
  refine lv_goto (tgt := 15) hx hb dL_count_9 (by decide) ?_
  refine lv_iconst (v := 0) hx hb dL_count_15 (by decide) ?_
  exact hs_iret hC hW hL hr hlocks (by show 0 + k ≤ 1; omega) (by show 0 + n ≤ 6; omega) dL_count_16 ⟨_, rfl, _, _, hyy, _, _, G1, hT2, hF2, rfl⟩
  refine lv_astore_n (lv' := [(3, .ref _), (0, .ref _), (1, .int _), (2, .ref _)]) hx hb dL_count_12 rfl hl (by decide) rfl (fun ls hl => ?_)
  refine lv_iconst (v := 1) hx hb dL_count_13 (by decide) ?_
  exact hs_iret hC hW hL hr hlocks (by decide) (by decide) dL_count_14 ⟨_, rfl, f9, X, vY.rf h99 hJ, t, cap, G, hT, cl_F.rf, (hs_up_id ho).symm⟩
theorem cw_L_date : hs_CwT hs_Ts yL_date cL_date 4 (some .int) [(0, 9, 12, 13)] 3 := ⟨ii_L, co_L_date, ⟨by decide, by decide⟩, by decide +kernel⟩
set_option maxHeartbeats 4000000 in
set_option maxRecDepth 100000 in
/-- date -/
theorem ct_L_date (E : hs_E) (hST : E.1.stackTraces = false) (t : cl_t) (cap X : Nat → Nat) (d : Nat) (G : hs_G) (hT : cl_T E t cap X d G) (o : Nat) (f9 : Nat → Int64) (ho : G o = some (lw_o E f9)) (hto : t o = none) (hos : (eH E).size ≤ o) (h99 : X 99 = 0) (hJ : vJ X) (hB : X 97 ≤ 1152921504606846976) (pa : Int32) : hM E yL_date ({ frames := 8, cells := 1, slots := 6, locals := 160 }) [.ref (X 0), .int pa, .ref o] G (hs_I (fun r G1 _ _ => ((0 ≤ pa ∧ pa ≤ 4) → r = 0 ∧ ∃ f : Nat → Int64, f 0 = (dt_v d pa).toInt64 ∧ G1 = hs_up G o (lw_o E f)) ∧ (¬ (0 ≤ pa ∧ pa ≤ 4) → r = 1 ∧ G1 = G))) := by
  refine hs_ofWT (cc := cL_date) (maxL := 4) (ret := (some .int)) (by decide) co_L_date ?_
  intro p e s m args below meth c hC hlocks hr hhd hW
  obtain ⟨hx, hb, hml, hown, hts, -⟩ := id hC
  have hE := hW
  have hL : ∀ q ∈ ([] : List Loc), (eH E).size ≤ q.base := fun q hq => nomatch hq
  have hl := lv_entry ([.ref (X 0), .int pa, .ref o] : List Value) (n := 4) (Nat.le_of_ble_eq_true rfl)
  rw [lg_entry_eq]
  generalize (lg_sl [.ref (X 0), .int pa, .ref o] ++ List.replicate (4 - (lg_sl [.ref (X 0), .int pa, .ref o]).length) Slot.unset).toArray = ls at hl ⊢
  have hl : lv_has ls 4 [(0, .ref (X 0)), (1, .int pa), (2, .ref o)] := hl
  refine lv_aload_n hx hb dL_date_0 rfl (lv_at hl 2 rfl) ?_
  refine lv_iconst (v := 0) hx hb dL_date_1 (by decide) ?_
  refine lv_aload_n hx hb dL_date_2 rfl (lv_at hl 0 rfl) ?_
  refine lv_iload_n hx hb dL_date_3 rfl (lv_at hl 1 rfl) ?_
  refine hs_callV hC hs_Tok hW hL (ct_X7_date E hST t cap X d G hT pa) cw_X7_date lk_L_58 im_X7_date se_X7_date (hs_recv hC hW hT.house rfl) hl.1 (by decide) (Nat.le_of_ble_eq_true rfl) dL_date_4 (hs_kT1 hC hhd (by decide) (by decide) lk_L_13 ca_O_IllegalArgumentException_O_IllegalArgumentException (fun C h => h.1) (hs_kpA (fun hA9 H locs hW hL => ?_)) (fun q H locs hP9 hW hL => ?_))
  refine lv_i2l hx hb dL_date_7 rfl ?_
  refine hs_last hC hW hL 1 ho hos rfl (vp_in_nI (n := 0) (by decide) (by decide)) dL_date_8 (fun H locs hW hL => ?_)
  refine lv_goto (tgt := 15) hx hb dL_date_9 (by decide) ?_
  refine lv_iconst (v := 0) hx hb dL_date_15 (by decide) ?_
  exact hs_iret hC hW hL hr hlocks (by decide) (by decide) dL_date_16 ⟨_, rfl, fun _ => ⟨rfl, _, rfl, rfl⟩, fun z => absurd hA9 z⟩
  refine lv_astore_n (lv' := [(3, .ref _), (0, .ref _), (1, .int _), (2, .ref _)]) hx hb dL_date_12 rfl hl (by decide) rfl (fun ls hl => ?_)
  refine lv_iconst (v := 1) hx hb dL_date_13 (by decide) ?_
  exact hs_iret hC hW hL hr hlocks (by decide) (by decide) dL_date_14 ⟨_, rfl, fun z => absurd z hP9.2, fun _ => ⟨rfl, rfl⟩⟩
