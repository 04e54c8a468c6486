/-! the class: public methods -/
theorem cl_party {x : Int32} (c : ¬ hs_b (0 ≤ x ∧ x ≤ 15) = 0) : ∃ a : Nat, a < 16 ∧ x = nI a := by
  have h := hs_b_ne c
  obtain ⟨a, ha, rfl⟩ := nI_of (Int32.not_lt.mpr h.1)
  have h2 := (nI_leI (b := 15) ha (by decide)).mp (by rw [show nI 15 = (15 : Int32) by decide +kernel]; exact h.2)
  exact ⟨a, by omega, rfl⟩
theorem cl_nat {x m : Int32} {n : Nat} (hm : m = nI n) (hn : n < 2 ^ 31) (c : ¬ hs_b (0 ≤ x ∧ x ≤ m) = 0) : ∃ a : Nat, a ≤ n ∧ x = nI a := by
  have h := hs_b_ne c
  obtain ⟨a, ha, rfl⟩ := nI_of (Int32.not_lt.mpr h.1)
  rw [hm] at h
  exact ⟨a, (nI_leI ha hn).mp h.2, rfl⟩
set_option maxHeartbeats 4000000 in
set_option maxRecDepth 100000 in
/-- has -/
theorem ct_X7_has (E : hs_E) (hST : E.1.stackTraces = false) (t : cl_t) (cap X : Nat → Nat) (d : Nat) (G : hs_G) (hT : cl_T E t cap X d G) (pa se : Int32) : hM E yX7_has ({ frames := 7, cells := 1, slots := 6, locals := 120 }) [.ref (X 0), .int pa, .int se] G (hs_or2 (hs_J (fun _ G1 k n => cl_M E t cap X (d) G 0 0 G1 k n)) G (fun C => C = "java/lang/IllegalArgumentException")) := by
  refine hs_ofW (cc := cX7_has) (maxL := 3) (ret := (some .long)) (by decide) co_X7_has ?_
  intro p e s m args below meth c hC hlocks hr hin0 hnoh hW
  obtain ⟨hx, hb, hml, hown, hts, -⟩ := id hC
  have hE := hW
  have hL : ∀ q ∈ ([] : List Loc), (eH E).size ≤ q.base := fun q hq => nomatch hq
  have hl := lv_entry ([.ref (X 0), .int pa, .int se] : List Value) (n := 3) (Nat.le_of_ble_eq_true rfl)
  rw [lg_entry_eq]
  generalize (lg_sl [.ref (X 0), .int pa, .int se] ++ List.replicate (3 - (lg_sl [.ref (X 0), .int pa, .int se]).length) Slot.unset).toArray = ls at hl ⊢
  have hl : lv_has ls 3 [(0, .ref (X 0)), (1, .int pa), (2, .int se)] := hl
  refine lv_iload_n hx hb dX7_has_0 rfl (lv_at hl 1 rfl) ?_
  refine hs_callS hC hs_Tok hW hL (ct_X7_isParty E _ _) cw_X7_isParty lk_X7_40 st_X7_isParty hl.1 (by decide) (Nat.le_of_ble_eq_true rfl) dX7_has_1 (hs_kp1 (fun H locs hW hL => ?_))
  refine lv_if_eq (tgt := 18) hx hb dX7_has_4 (by decide) (fun c4 => ?_) (fun c4 => ?_)
  · refine lv_iconst (v := 0) hx hb dX7_has_18 (by decide) ?_
    refine hs_callS hC hs_Tok hW hL (ct_X7_checkArgument E hST G _) cw_X7_checkArgument lk_X7_52 st_X7_checkArgument hl.1 (by decide) (Nat.le_of_ble_eq_true rfl) dX7_has_19 (hs_kck hnoh hlocks (by decide) (by decide) (fun hno => Or.inr ⟨_, rfl, rfl, rfl, rfl, rfl⟩) (fun hok19 H locs hW hL => ?_))
    exact absurd rfl hok19
  refine lv_iload_n hx hb dX7_has_7 rfl (lv_at hl 2 rfl) ?_
  refine hs_callS hC hs_Tok hW hL (ct_X7_isAsset E _ _) cw_X7_isAsset lk_X7_44 st_X7_isAsset hl.1 (by decide) (Nat.le_of_ble_eq_true rfl) dX7_has_8 (hs_kp1 (fun H locs hW hL => ?_))
  refine lv_if_eq (tgt := 18) hx hb dX7_has_11 (by decide) (fun c11 => ?_) (fun c11 => ?_)
  · refine lv_iconst (v := 0) hx hb dX7_has_18 (by decide) ?_
    refine hs_callS hC hs_Tok hW hL (ct_X7_checkArgument E hST G _) cw_X7_checkArgument lk_X7_52 st_X7_checkArgument hl.1 (by decide) (Nat.le_of_ble_eq_true rfl) dX7_has_19 (hs_kck hnoh hlocks (by decide) (by decide) (fun hno => Or.inr ⟨_, rfl, rfl, rfl, rfl, rfl⟩) (fun hok19 H locs hW hL => ?_))
    exact absurd rfl hok19
  refine lv_iconst (v := 1) hx hb dX7_has_14 (by decide) ?_
  refine lv_goto (tgt := 19) hx hb dX7_has_15 (by decide) ?_
  refine hs_callS hC hs_Tok hW hL (ct_X7_checkArgument E hST G _) cw_X7_checkArgument lk_X7_52 st_X7_checkArgument hl.1 (by decide) (Nat.le_of_ble_eq_true rfl) dX7_has_19 (hs_kck hnoh hlocks (by decide) (by decide) (fun hno => Or.inr ⟨_, rfl, rfl, rfl, rfl, rfl⟩) (fun hok19 H locs hW hL => ?_))
  obtain ⟨p9, hp9, rfl⟩ := cl_party c4
  have ha9 := cl_asset (hs_b_ne c11)
  refine lv_aload_n hx hb dX7_has_22 rfl (lv_at hl 0 rfl) ?_
  refine hs_get hC hW hi_X7 rfl 1 (by decide) lk_X7_19 rfl hT.house rfl dX7_has_23 ?_
  refine lv_iload_n hx hb dX7_has_26 rfl (lv_at hl 1 rfl) ?_
  refine lv_iload_n hx hb dX7_has_27 rfl (lv_at hl 2 rfl) ?_
  refine hs_callVN hC hs_Tok hW hL (ct_X6_held E t cap X d G hT p9 hp9 _ ha9) cw_X6_held lk_X7_56 im_X6_held se_X6_held (hs_recv hC hW hT.vault rfl) hl.1 (by decide) (Nat.le_of_ble_eq_true rfl) dX7_has_28 (hs_kp1 (fun H locs hW hL => ?_))
  exact hs_lret hC hW hL hr hlocks (by decide) (by decide) dX7_has_31 (Or.inl ⟨_, rfl, t, cap, hT, cl_F.rf, Nat.le_refl _, Nat.zero_le _, Nat.zero_le _⟩)
set_option maxHeartbeats 4000000 in
set_option maxRecDepth 100000 in
/-- fund -/
theorem ct_X7_fund (E : hs_E) (hST : E.1.stackTraces = false) (t : cl_t) (cap X : Nat → Nat) (d : Nat) (G : hs_G) (hT : cl_T E t cap X d G) (h99 : X 99 = 0) (hJ : vJ X) (hB : X 97 ≤ 1152921504606846976) (pa se n9 : Int32) : hM E yX7_fund ({ frames := 7, cells := 1, slots := 6, locals := 120 }) [.ref (X 0), .int pa, .int se, .int n9] G (hs_or2 (hs_J (fun _ G1 k n => ∃ Y : Nat → Nat, vY X Y ∧ cl_T E t cap Y d G1 ∧ cl_F t G t G1)) G (fun C => C = "java/lang/IllegalArgumentException" ∨ C = "java/lang/IllegalStateException")) := by
  refine hs_ofW (cc := cX7_fund) (maxL := 4) (ret := (some .long)) (by decide) co_X7_fund ?_
  intro p e s m args below meth c hC hlocks hr hin0 hnoh hW
  obtain ⟨hx, hb, hml, hown, hts, -⟩ := id hC
  have hE := hW
  have hL : ∀ q ∈ ([] : List Loc), (eH E).size ≤ q.base := fun q hq => nomatch hq
  have hl := lv_entry ([.ref (X 0), .int pa, .int se, .int n9] : List Value) (n := 4) (Nat.le_of_ble_eq_true rfl)
  rw [lg_entry_eq]
  generalize (lg_sl [.ref (X 0), .int pa, .int se, .int n9] ++ List.replicate (4 - (lg_sl [.ref (X 0), .int pa, .int se, .int n9]).length) Slot.unset).toArray = ls at hl ⊢
  have hl : lv_has ls 4 [(0, .ref (X 0)), (1, .int pa), (2, .int se), (3, .int n9)] := hl
  refine lv_iload_n hx hb dX7_fund_0 rfl (lv_at hl 1 rfl) ?_
  refine hs_callS hC hs_Tok hW hL (ct_X7_isParty E _ _) cw_X7_isParty lk_X7_40 st_X7_isParty hl.1 (by decide) (Nat.le_of_ble_eq_true rfl) dX7_fund_1 (hs_kp1 (fun H locs hW hL => ?_))
  refine lv_if_eq (tgt := 28) hx hb dX7_fund_4 (by decide) (fun c4 => ?_) (fun c4 => ?_)
  · refine lv_iconst (v := 0) hx hb dX7_fund_28 (by decide) ?_
    refine hs_callS hC hs_Tok hW hL (ct_X7_checkArgument E hST G _) cw_X7_checkArgument lk_X7_52 st_X7_checkArgument hl.1 (by decide) (Nat.le_of_ble_eq_true rfl) dX7_fund_29 (hs_kck hnoh hlocks (by decide) (by decide) (fun hno => Or.inr ⟨_, Or.inl rfl, rfl, rfl, rfl, rfl⟩) (fun hok29 H locs hW hL => ?_))
    exact absurd rfl hok29
  refine lv_iload_n hx hb dX7_fund_7 rfl (lv_at hl 2 rfl) ?_
  refine hs_callS hC hs_Tok hW hL (ct_X7_isAsset E _ _) cw_X7_isAsset lk_X7_44 st_X7_isAsset hl.1 (by decide) (Nat.le_of_ble_eq_true rfl) dX7_fund_8 (hs_kp1 (fun H locs hW hL => ?_))
  refine lv_if_eq (tgt := 28) hx hb dX7_fund_11 (by decide) (fun c11 => ?_) (fun c11 => ?_)
  · refine lv_iconst (v := 0) hx hb dX7_fund_28 (by decide) ?_
    refine hs_callS hC hs_Tok hW hL (ct_X7_checkArgument E hST G _) cw_X7_checkArgument lk_X7_52 st_X7_checkArgument hl.1 (by decide) (Nat.le_of_ble_eq_true rfl) dX7_fund_29 (hs_kck hnoh hlocks (by decide) (by decide) (fun hno => Or.inr ⟨_, Or.inl rfl, rfl, rfl, rfl, rfl⟩) (fun hok29 H locs hW hL => ?_))
    exact absurd rfl hok29
  refine lv_iload_n hx hb dX7_fund_14 rfl (lv_at hl 3 rfl) ?_
  refine lv_iconst (v := 1) hx hb dX7_fund_15 (by decide) ?_
  refine lv_ldc hx hb hown (hts _ lk_X7_47) dX7_fund_16 ?_
  refine hs_callS hC hs_Tok hW hL (ct_X7_isWithin E _ _ _ _) cw_X7_isWithin lk_X7_48 st_X7_isWithin hl.1 (by decide) (Nat.le_of_ble_eq_true rfl) dX7_fund_18 (hs_kp1 (fun H locs hW hL => ?_))
  refine lv_if_eq (tgt := 28) hx hb dX7_fund_21 (by decide) (fun c21 => ?_) (fun c21 => ?_)
  · refine lv_iconst (v := 0) hx hb dX7_fund_28 (by decide) ?_
    refine hs_callS hC hs_Tok hW hL (ct_X7_checkArgument E hST G _) cw_X7_checkArgument lk_X7_52 st_X7_checkArgument hl.1 (by decide) (Nat.le_of_ble_eq_true rfl) dX7_fund_29 (hs_kck hnoh hlocks (by decide) (by decide) (fun hno => Or.inr ⟨_, Or.inl rfl, rfl, rfl, rfl, rfl⟩) (fun hok29 H locs hW hL => ?_))
    exact absurd rfl hok29
  refine lv_iconst (v := 1) hx hb dX7_fund_24 (by decide) ?_
  refine lv_goto (tgt := 29) hx hb dX7_fund_25 (by decide) ?_
  refine hs_callS hC hs_Tok hW hL (ct_X7_checkArgument E hST G _) cw_X7_checkArgument lk_X7_52 st_X7_checkArgument hl.1 (by decide) (Nat.le_of_ble_eq_true rfl) dX7_fund_29 (hs_kck hnoh hlocks (by decide) (by decide) (fun hno => Or.inr ⟨_, Or.inl rfl, rfl, rfl, rfl, rfl⟩) (fun hok29 H locs hW hL => ?_))
  obtain ⟨p9, hp9, rfl⟩ := cl_party c4
  have ha9 := cl_asset (hs_b_ne c11)
  refine lv_aload_n hx hb dX7_fund_32 rfl (lv_at hl 0 rfl) ?_
  refine hs_get hC hW hi_X7 rfl 1 (by decide) lk_X7_19 rfl hT.house rfl dX7_fund_33 ?_
  refine lv_iload_n hx hb dX7_fund_36 rfl (lv_at hl 1 rfl) ?_
  refine lv_iload_n hx hb dX7_fund_37 rfl (lv_at hl 2 rfl) ?_
  refine hs_callVN hC hs_Tok hW hL (ct_X6_held E t cap X d G hT p9 hp9 _ ha9) cw_X6_held lk_X7_56 im_X6_held se_X6_held (hs_recv hC hW hT.vault rfl) hl.1 (by decide) (Nat.le_of_ble_eq_true rfl) dX7_fund_38 (hs_kp1 (fun H locs hW hL => ?_))
  refine lv_iload_n hx hb dX7_fund_41 rfl (lv_at hl 3 rfl) ?_
  refine lv_i2l hx hb dX7_fund_42 rfl ?_
  refine lv_ladd hx hb dX7_fund_43 ?_
  refine lv_ldc2 hx hb hown (hts _ lk_X7_60) dX7_fund_44 ?_
  refine W.lcmp hx hb dX7_fund_47 ?_
  refine lv_if_gt (tgt := 55) hx hb dX7_fund_48 (by decide) (fun c48 => ?_) (fun c48 => ?_)
  · refine lv_iconst (v := 0) hx hb dX7_fund_55 (by decide) ?_
    refine hs_callS hC hs_Tok hW hL (ct_X7_checkState E hST G _) cw_X7_checkState lk_X7_62 st_X7_checkState hl.1 (by decide) (Nat.le_of_ble_eq_true rfl) dX7_fund_56 (hs_kck hnoh hlocks (by decide) (by decide) (fun hno => Or.inr ⟨_, Or.inr rfl, rfl, rfl, rfl, rfl⟩) (fun hok56 H locs hW hL => ?_))
    exact absurd rfl hok56
  refine lv_iconst (v := 1) hx hb dX7_fund_51 (by decide) ?_
  refine lv_goto (tgt := 56) hx hb dX7_fund_52 (by decide) ?_
  refine hs_callS hC hs_Tok hW hL (ct_X7_checkState E hST G _) cw_X7_checkState lk_X7_62 st_X7_checkState hl.1 (by decide) (Nat.le_of_ble_eq_true rfl) dX7_fund_56 (hs_kck hnoh hlocks (by decide) (by decide) (fun hno => Or.inr ⟨_, Or.inr rfl, rfl, rfl, rfl, rfl⟩) (fun hok56 H locs hW hL => ?_))
  refine lv_aload_n hx hb dX7_fund_59 rfl (lv_at hl 0 rfl) ?_
  refine hs_get hC hW hi_X7 rfl 1 (by decide) lk_X7_19 rfl hT.house rfl dX7_fund_60 ?_
  refine lv_iload_n hx hb dX7_fund_63 rfl (lv_at hl 1 rfl) ?_
  refine lv_iload_n hx hb dX7_fund_64 rfl (lv_at hl 2 rfl) ?_
  refine lv_iload_n hx hb dX7_fund_65 rfl (lv_at hl 3 rfl) ?_
  refine hs_callVN hC hs_Tok hW hL (ct_X6_bring E t cap X d G hT p9 hp9 _ ha9 _) cw_X6_bring lk_X7_65 im_X6_bring se_X6_bring (hs_recv hC hW hT.vault rfl) hl.1 (by decide) (Nat.le_of_ble_eq_true rfl) dX7_fund_66 (hs_kV (fun G1 k n H locs hI hk hn hW hL => ?_))
  obtain ⟨rfl, rfl, hT1, hF1⟩ := hI
  have e1 : ∀ n, n < 100 → vBr X p9 (se - -1).toNatClampNeg n9.toInt64 n = X n := fun n hn => vBr_lo2 hn
  have hhe := ct_X6_held E t cap _ d _ hT1 p9 hp9 se ha9
  rw [e1 3 (by decide)] at hhe
  have hw := hs_b_ne c21
  rw [Int32.le_iff_toInt_le, Int32.le_iff_toInt_le, show Int32.toInt 1 = 1 by decide, show Int32.toInt 1000000000 = 1000000000 by decide] at hw
  have hT2 := hT1.reX (Y := va_up (vBr X p9 (se - -1).toNatClampNeg n9.toInt64) 97 (X 97 + 1000000000)) (fun n _ h2 => va_up_ne _ _ h2) (fun z L g hL => hT1.D (by rw [va_up_ne _ _ (by decide)] at z; exact z) hL)
  have hyy : vY X (va_up (vBr X p9 (se - -1).toNatClampNeg n9.toInt64) 97 (X 97 + 1000000000)) := ⟨(va_up_ne _ _ (by decide)).trans (e1 0 (by decide)), (va_up_ne _ _ (by decide)).trans ((e1 99 (by decide)).trans h99), vBr_J hJ hB hp9 (by rw [hs_64]; omega), by rw [va_up_self]; omega⟩
  refine lv_aload_n hx hb dX7_fund_69 rfl (lv_at hl 0 rfl) ?_
  refine hs_get hC hW hi_X7 rfl 1 (by decide) lk_X7_19 rfl (hT1.houseY e1) rfl dX7_fund_70 ?_
  refine lv_iload_n hx hb dX7_fund_73 rfl (lv_at hl 1 rfl) ?_
  refine lv_iload_n hx hb dX7_fund_74 rfl (lv_at hl 2 rfl) ?_
  refine hs_callVN hC hs_Tok hW hL hhe cw_X6_held lk_X7_56 im_X6_held se_X6_held (hs_recv hC hW (hT1.vaultY e1) rfl) hl.1 (by decide) (Nat.le_of_ble_eq_true rfl) dX7_fund_75 (hs_kp1 (fun H locs hW hL => ?_))
  exact hs_lret hC hW hL hr hlocks (by decide) (by decide) dX7_fund_78 (Or.inl ⟨_, rfl, _, hyy, hT2, hF1⟩)
theorem cl_hd {d : Nat} {dy : Int32} (hd : d ≤ 20000) (h1 : ¬ dy ≤ nI d) (h2 : ¬ dy > 20000) : ∃ j : Nat, dy = nI j ∧ d < j ∧ j ≤ 20000 := by
  have e1 : (nI d).toInt = d := nI_toInt (by omega)
  obtain ⟨j, hj, rfl⟩ := nI_of (x := dy) (fun z => h1 (by rw [Int32.le_iff_toInt_le, e1]; rw [Int32.lt_iff_toInt_lt, Int32.toInt_zero] at z; omega))
  exact ⟨j, rfl, Nat.not_le.mp fun z => h1 ((nI_leI hj (by omega)).mpr z), Nat.not_lt.mp fun z => h2 ((cl_20 hj).mpr z)⟩
set_option maxHeartbeats 4000000 in
set_option maxRecDepth 100000 in
/-- holiday -/
theorem ct_X7_holiday (E : hs_E) (hST : E.1.stackTraces = false) (t : cl_t) (cap X : Nat → Nat) (d : Nat) (G : hs_G) (hT : cl_T E t cap X d G) (dy : Int32) : hM E yX7_holiday ({ frames := 7, cells := 1, slots := 6, locals := 120 }) [.ref (X 0), .int dy] G (hs_or2 (hs_I (fun z G1 k n => (z = 0 ∨ z = 1) ∧ ∃ j : Nat, dy = nI j ∧ d < j ∧ j ≤ 20000 ∧ (z = 1 ↔ hv X j = false) ∧ cl_T E t cap (hv_mk X j) d G1 ∧ cl_F t G t G1)) G (fun C => C = "java/lang/IllegalArgumentException" ∧ ¬ (nI d < dy ∧ dy ≤ 20000))) := by
  refine hs_ofW (cc := cX7_holiday) (maxL := 3) (ret := (some .boolean)) (by decide) co_X7_holiday ?_
  intro p e s m args below meth c hC hlocks hr hin0 hnoh hW
  obtain ⟨hx, hb, hml, hown, hts, -⟩ := id hC
  have hE := hW
  have hL : ∀ q ∈ ([] : List Loc), (eH E).size ≤ q.base := fun q hq => nomatch hq
  have hl := lv_entry ([.ref (X 0), .int dy] : List Value) (n := 3) (Nat.le_of_ble_eq_true rfl)
  rw [lg_entry_eq]
  generalize (lg_sl [.ref (X 0), .int dy] ++ List.replicate (3 - (lg_sl [.ref (X 0), .int dy]).length) Slot.unset).toArray = ls at hl ⊢
  have hl : lv_has ls 3 [(0, .ref (X 0)), (1, .int dy)] := hl
  refine lv_iload_n hx hb dX7_holiday_0 rfl (lv_at hl 1 rfl) ?_
  refine lv_aload_n hx hb dX7_holiday_1 rfl (lv_at hl 0 rfl) ?_
  refine hs_get hC hW hi_X7 rfl 0 (by decide) lk_X7_12 rfl hT.house rfl dX7_holiday_2 ?_
  refine hs_getN hC hW hi_X0 rfl 1 (by decide) lk_X7_69 rfl hT.days rfl dX7_holiday_5 ?_
  refine lv_icmp_le (tgt := 22) hx hb dX7_holiday_8 (by decide) (fun c8 => ?_) (fun c8 => ?_)
  · refine lv_iconst (v := 0) hx hb dX7_holiday_22 (by decide) ?_
    refine hs_callS hC hs_Tok hW hL (ct_X7_checkArgument E hST G _) cw_X7_checkArgument lk_X7_52 st_X7_checkArgument hl.1 (by decide) (Nat.le_of_ble_eq_true rfl) dX7_holiday_23 (hs_kck hnoh hlocks (by decide) (by decide) (fun hno => Or.inr ⟨_, ⟨rfl, by first | exact absurd (show ¬ (1 : Int32) = 0 by decide) hno | exact fun z => absurd c8 (Int32.not_le.mpr z.1) | exact fun z => absurd c15 (Int32.not_lt.mpr z.2)⟩, rfl, rfl, rfl, rfl⟩) (fun hok23 H locs hW hL => ?_))
    exact absurd rfl hok23
  refine lv_iload_n hx hb dX7_holiday_11 rfl (lv_at hl 1 rfl) ?_
  refine lv_sipush (v := 20000) hx hb dX7_holiday_12 (by decide) ?_
  refine lv_icmp_gt (tgt := 22) hx hb dX7_holiday_15 (by decide) (fun c15 => ?_) (fun c15 => ?_)
  · refine lv_iconst (v := 0) hx hb dX7_holiday_22 (by decide) ?_
    refine hs_callS hC hs_Tok hW hL (ct_X7_checkArgument E hST G _) cw_X7_checkArgument lk_X7_52 st_X7_checkArgument hl.1 (by decide) (Nat.le_of_ble_eq_true rfl) dX7_holiday_23 (hs_kck hnoh hlocks (by decide) (by decide) (fun hno => Or.inr ⟨_, ⟨rfl, by first | exact absurd (show ¬ (1 : Int32) = 0 by decide) hno | exact fun z => absurd c8 (Int32.not_le.mpr z.1) | exact fun z => absurd c15 (Int32.not_lt.mpr z.2)⟩, rfl, rfl, rfl, rfl⟩) (fun hok23 H locs hW hL => ?_))
    exact absurd rfl hok23
  refine lv_iconst (v := 1) hx hb dX7_holiday_18 (by decide) ?_
  refine lv_goto (tgt := 23) hx hb dX7_holiday_19 (by decide) ?_
  refine hs_callS hC hs_Tok hW hL (ct_X7_checkArgument E hST G _) cw_X7_checkArgument lk_X7_52 st_X7_checkArgument hl.1 (by decide) (Nat.le_of_ble_eq_true rfl) dX7_holiday_23 (hs_kck hnoh hlocks (by decide) (by decide) (fun hno => Or.inr ⟨_, ⟨rfl, by first | exact absurd (show ¬ (1 : Int32) = 0 by decide) hno | exact fun z => absurd c8 (Int32.not_le.mpr z.1) | exact fun z => absurd c15 (Int32.not_lt.mpr z.2)⟩, rfl, rfl, rfl, rfl⟩) (fun hok23 H locs hW hL => ?_))
  obtain ⟨j, rfl, hj1, hj2⟩ := cl_hd hT.2.2.2.2.1 c8 c15
  refine lv_aload_n hx hb dX7_holiday_26 rfl (lv_at hl 0 rfl) ?_
  refine hs_get hC hW hi_X7 rfl 0 (by decide) lk_X7_12 rfl hT.house rfl dX7_holiday_27 ?_
  refine lv_iload_n hx hb dX7_holiday_30 rfl (lv_at hl 1 rfl) ?_
  refine hs_callVN hC hs_Tok hW hL (ct_X0_isHoliday E t cap X d G hT j (by omega)) cw_X0_isHoliday lk_X7_73 im_X0_isHoliday se_X0_isHoliday (hs_recv hC hW hT.days rfl) hl.1 (by decide) (Nat.le_of_ble_eq_true rfl) dX7_holiday_31 (hs_ke (fun x H locs hJx hW hL => ?_))
  refine lv_if_ne (tgt := 41) hx hb dX7_holiday_34 (by decide) (fun c34 => ?_) (fun c34 => ?_)
  · refine lv_iconst (v := 0) hx hb dX7_holiday_41 (by decide) ?_
    refine lv_istore_n (lv' := [(2, .int _), (0, .ref _), (1, .int _)]) hx hb dX7_holiday_42 rfl hl (by decide) rfl (fun ls hl => ?_)
    refine lv_aload_n hx hb dX7_holiday_43 rfl (lv_at hl 1 rfl) ?_
    refine hs_get hC hW hi_X7 rfl 0 (by decide) lk_X7_12 rfl hT.house rfl dX7_holiday_44 ?_
    refine lv_iload_n hx hb dX7_holiday_47 rfl (lv_at hl 2 rfl) ?_
    refine hs_callVN hC hs_Tok hW hL (ct_X0_markHoliday E t cap X d G hT j hj2) cw_X0_markHoliday lk_X7_76 im_X0_markHoliday se_X0_markHoliday (hs_recv hC hW hT.days rfl) hl.1 (by decide) (Nat.le_of_ble_eq_true rfl) dX7_holiday_48 (hs_kV (fun G1 k n H locs hI hk hn hW hL => ?_))
    obtain ⟨rfl, rfl, hM9⟩ := hI
    refine lv_iload_n hx hb dX7_holiday_51 rfl (lv_at hl 0 rfl) ?_
    exact hs_zret hC hW hL hr hlocks (by decide) (by decide) dX7_holiday_52 (by rfl) (Or.inl ⟨_, rfl, by decide, j, rfl, hj1, hj2, ⟨fun z => absurd z (by decide), fun z => by rw [(hJx.2.mp (hJx.1.resolve_left c34)).1] at z; cases z⟩, hM9⟩)
  refine lv_iconst (v := 1) hx hb dX7_holiday_37 (by decide) ?_
  refine lv_goto (tgt := 42) hx hb dX7_holiday_38 (by decide) ?_
  refine lv_istore_n (lv' := [(2, .int _), (0, .ref _), (1, .int _)]) hx hb dX7_holiday_42 rfl hl (by decide) rfl (fun ls hl => ?_)
  refine lv_aload_n hx hb dX7_holiday_43 rfl (lv_at hl 1 rfl) ?_
  refine hs_get hC hW hi_X7 rfl 0 (by decide) lk_X7_12 rfl hT.house rfl dX7_holiday_44 ?_
  refine lv_iload_n hx hb dX7_holiday_47 rfl (lv_at hl 2 rfl) ?_
  refine hs_callVN hC hs_Tok hW hL (ct_X0_markHoliday E t cap X d G hT j hj2) cw_X0_markHoliday lk_X7_76 im_X0_markHoliday se_X0_markHoliday (hs_recv hC hW hT.days rfl) hl.1 (by decide) (Nat.le_of_ble_eq_true rfl) dX7_holiday_48 (hs_kV (fun G1 k n H locs hI hk hn hW hL => ?_))
  obtain ⟨rfl, rfl, hM9⟩ := hI
  refine lv_iload_n hx hb dX7_holiday_51 rfl (lv_at hl 0 rfl) ?_
  exact hs_zret hC hW hL hr hlocks (by decide) (by decide) dX7_holiday_52 (by rfl) (Or.inl ⟨_, rfl, by decide, j, rfl, hj1, hj2, ⟨fun _ => by (cases hh : hv X j with | false => rfl | true => exact absurd (hJx.2.mpr ⟨hh, hj2⟩) (by first | (rw [c34]; decide) | (rw [Decidable.not_not.mp c34]; decide))), fun _ => rfl⟩, hM9⟩)
set_option maxHeartbeats 4000000 in
set_option maxRecDepth 100000 in
/-- settled -/
theorem ct_X7_settled (E : hs_E) (t : cl_t) (cap X : Nat → Nat) (d : Nat) (G : hs_G) (hT : cl_T E t cap X d G) (i wh : Int32) : hM E yX7_settled ({ frames := 1, cells := 0, slots := 0, locals := 40 }) [.ref (X 0), .int i, .int wh] G (fun r G1 k n => ∃ x : Int32, hs_pu (some (.int x)) G r G1 k n ∧ True) := by
  refine hs_ofW (cc := cX7_settled) (maxL := 3) (ret := (some .int)) (by decide) co_X7_settled ?_
  intro p e s m args below meth c hC hlocks hr hin0 hnoh hW
  obtain ⟨hx, hb, hml, hown, hts, -⟩ := id hC
  have hE := hW
  have hL : ∀ q ∈ ([] : List Loc), (eH E).size ≤ q.base := fun q hq => nomatch hq
  have hl := lv_entry ([.ref (X 0), .int i, .int wh] : List Value) (n := 3) (Nat.le_of_ble_eq_true rfl)
  rw [lg_entry_eq]
  generalize (lg_sl [.ref (X 0), .int i, .int wh] ++ List.replicate (3 - (lg_sl [.ref (X 0), .int i, .int wh]).length) Slot.unset).toArray = ls at hl ⊢
  have hl : lv_has ls 3 [(0, .ref (X 0)), (1, .int i), (2, .int wh)] := hl
  obtain ⟨r9, -, hJ9⟩ := hT.jour
  refine lv_aload_n hx hb dX7_settled_0 rfl (lv_at hl 0 rfl) ?_
  refine hs_get hC hW hi_X7 rfl 2 (by decide) lk_X7_26 rfl hT.house rfl dX7_settled_1 ?_
  refine lv_iload_n hx hb dX7_settled_4 rfl (lv_at hl 1 rfl) ?_
  refine lv_iload_n hx hb dX7_settled_5 rfl (lv_at hl 2 rfl) ?_
  refine hs_callVN hC hs_Tok hW hL (ct_X2_read E t cap X d G hT _ _) cw_X2_read lk_X7_191 im_X2_read se_X2_read (hs_recv hC hW hJ9 rfl) hl.1 (by decide) (Nat.le_of_ble_eq_true rfl) dX7_settled_6 (hs_ke (fun x H locs hJ hW hL => ?_))
  exact hs_iret hC hW hL hr hlocks (by decide) (by decide) dX7_settled_9 ⟨_, ⟨rfl, rfl, rfl, rfl⟩, trivial⟩
set_option maxHeartbeats 4000000 in
set_option maxRecDepth 100000 in
/-- business -/
theorem ct_X7_business (E : hs_E) (hST : E.1.stackTraces = false) (t : cl_t) (cap X : Nat → Nat) (d : Nat) (G : hs_G) (hT : cl_T E t cap X d G) (a b : Int32) : hM E yX7_business ({ frames := 7, cells := 1, slots := 6, locals := 120 }) [.ref (X 0), .int a, .int b] G (hs_or2 (hs_I (fun z G1 k n => G1 = G ∧ k = 0 ∧ n = 0 ∧ ∃ a9 b9 k9 : Nat, a = nI a9 ∧ a9 ≤ 20000 ∧ b = nI b9 ∧ b9 ≤ 1000 ∧ z = nI (a9 + k9) ∧ k9 < 40000 ∧ bz (bz_b X) a9 b9 k9)) G (fun C => C = "java/lang/IllegalArgumentException" ∧ ¬ ((0 ≤ a ∧ a ≤ 20000) ∧ (0 ≤ b ∧ b ≤ 1000)))) := by
  refine hs_ofW (cc := cX7_business) (maxL := 3) (ret := (some .int)) (by decide) co_X7_business ?_
  intro p e s m args below meth c hC hlocks hr hin0 hnoh hW
  obtain ⟨hx, hb, hml, hown, hts, -⟩ := id hC
  have hE := hW
  have hL : ∀ q ∈ ([] : List Loc), (eH E).size ≤ q.base := fun q hq => nomatch hq
  have hl := lv_entry ([.ref (X 0), .int a, .int b] : List Value) (n := 3) (Nat.le_of_ble_eq_true rfl)
  rw [lg_entry_eq]
  generalize (lg_sl [.ref (X 0), .int a, .int b] ++ List.replicate (3 - (lg_sl [.ref (X 0), .int a, .int b]).length) Slot.unset).toArray = ls at hl ⊢
  have hl : lv_has ls 3 [(0, .ref (X 0)), (1, .int a), (2, .int b)] := hl
  refine lv_iload_n hx hb dX7_business_0 rfl (lv_at hl 1 rfl) ?_
  refine lv_iconst (v := 0) hx hb dX7_business_1 (by decide) ?_
  refine lv_sipush (v := 20000) hx hb dX7_business_2 (by decide) ?_
  refine hs_callS hC hs_Tok hW hL (ct_X7_isWithin E _ _ _ _) cw_X7_isWithin lk_X7_48 st_X7_isWithin hl.1 (by decide) (Nat.le_of_ble_eq_true rfl) dX7_business_5 (hs_kp1 (fun H locs hW hL => ?_))
  refine lv_if_eq (tgt := 26) hx hb dX7_business_8 (by decide) (fun c8 => ?_) (fun c8 => ?_)
  · refine lv_iconst (v := 0) hx hb dX7_business_26 (by decide) ?_
    refine hs_callS hC hs_Tok hW hL (ct_X7_checkArgument E hST G _) cw_X7_checkArgument lk_X7_52 st_X7_checkArgument hl.1 (by decide) (Nat.le_of_ble_eq_true rfl) dX7_business_27 (hs_kck hnoh hlocks (by decide) (by decide) (fun hno => Or.inr ⟨_, ⟨rfl, by first | exact absurd (show ¬ (1 : Int32) = 0 by decide) hno | exact fun z => absurd (hs_b_t z.1) (by rw [c8]; decide) | exact fun z => absurd (hs_b_t z.2) (by rw [c19]; decide)⟩, rfl, rfl, rfl, rfl⟩) (fun hok27 H locs hW hL => ?_))
    exact absurd rfl hok27
  refine lv_iload_n hx hb dX7_business_11 rfl (lv_at hl 2 rfl) ?_
  refine lv_iconst (v := 0) hx hb dX7_business_12 (by decide) ?_
  refine lv_sipush (v := 1000) hx hb dX7_business_13 (by decide) ?_
  refine hs_callS hC hs_Tok hW hL (ct_X7_isWithin E _ _ _ _) cw_X7_isWithin lk_X7_48 st_X7_isWithin hl.1 (by decide) (Nat.le_of_ble_eq_true rfl) dX7_business_16 (hs_kp1 (fun H locs hW hL => ?_))
  refine lv_if_eq (tgt := 26) hx hb dX7_business_19 (by decide) (fun c19 => ?_) (fun c19 => ?_)
  · refine lv_iconst (v := 0) hx hb dX7_business_26 (by decide) ?_
    refine hs_callS hC hs_Tok hW hL (ct_X7_checkArgument E hST G _) cw_X7_checkArgument lk_X7_52 st_X7_checkArgument hl.1 (by decide) (Nat.le_of_ble_eq_true rfl) dX7_business_27 (hs_kck hnoh hlocks (by decide) (by decide) (fun hno => Or.inr ⟨_, ⟨rfl, by first | exact absurd (show ¬ (1 : Int32) = 0 by decide) hno | exact fun z => absurd (hs_b_t z.1) (by rw [c8]; decide) | exact fun z => absurd (hs_b_t z.2) (by rw [c19]; decide)⟩, rfl, rfl, rfl, rfl⟩) (fun hok27 H locs hW hL => ?_))
    exact absurd rfl hok27
  refine lv_iconst (v := 1) hx hb dX7_business_22 (by decide) ?_
  refine lv_goto (tgt := 27) hx hb dX7_business_23 (by decide) ?_
  refine hs_callS hC hs_Tok hW hL (ct_X7_checkArgument E hST G _) cw_X7_checkArgument lk_X7_52 st_X7_checkArgument hl.1 (by decide) (Nat.le_of_ble_eq_true rfl) dX7_business_27 (hs_kck hnoh hlocks (by decide) (by decide) (fun hno => Or.inr ⟨_, ⟨rfl, by first | exact absurd (show ¬ (1 : Int32) = 0 by decide) hno | exact fun z => absurd (hs_b_t z.1) (by rw [c8]; decide) | exact fun z => absurd (hs_b_t z.2) (by rw [c19]; decide)⟩, rfl, rfl, rfl, rfl⟩) (fun hok27 H locs hW hL => ?_))
  obtain ⟨a9, ha9, rfl⟩ := cl_nat (n := 20000) (by decide +kernel) (by decide) c8
  obtain ⟨b9, hb9, rfl⟩ := cl_nat (n := 1000) (by decide +kernel) (by decide) c19
  refine lv_aload_n hx hb dX7_business_30 rfl (lv_at hl 0 rfl) ?_
  refine hs_get hC hW hi_X7 rfl 0 (by decide) lk_X7_12 rfl hT.house rfl dX7_business_31 ?_
  refine lv_iload_n hx hb dX7_business_34 rfl (lv_at hl 1 rfl) ?_
  refine lv_iload_n hx hb dX7_business_35 rfl (lv_at hl 2 rfl) ?_
  refine hs_callVN hC hs_Tok hW hL (ct_X0_businessDayBehind E t cap X d G hT a9 ha9 b9 hb9) cw_X0_businessDayBehind lk_X7_195 im_X0_businessDayBehind se_X0_businessDayBehind (hs_recv hC hW hT.days rfl) hl.1 (by decide) (Nat.le_of_ble_eq_true rfl) dX7_business_36 (hs_ke (fun x H locs hJ hW hL => ?_))
  exact (by obtain ⟨k9, e9, hk9, hz9⟩ := hJ; exact hs_iret hC hW hL hr hlocks (by decide) (by decide) dX7_business_39 (Or.inl ⟨_, rfl, rfl, rfl, rfl, a9, b9, k9, rfl, ha9, rfl, hb9, e9, hk9, hz9⟩))
set_option maxHeartbeats 4000000 in
set_option maxRecDepth 100000 in
/-- nextDay -/
theorem ct_X7_nextDay (E : hs_E) (hST : E.1.stackTraces = false) (t : cl_t) (cap X : Nat → Nat) (d : Nat) (G : hs_G) (hT : cl_T E t cap X d G) (h99 : X 99 = 0) (hJ : vJ X) (hB : X 97 ≤ 1152921504606846976) : hM E yX7_nextDay ({ frames := 10, cells := 230, slots := 1130, locals := 350 }) [.ref (X 0)] G (hs_or2 (hs_I (fun _ G1 k n => cl_MY E t cap X (if d < 20000 then d + 1 else d) G 0 0 G1 k n)) G (fun C => C = "java/lang/IllegalStateException" ∧ ¬ d < 20000)) := by
  refine hs_ofW (cc := cX7_nextDay) (maxL := 1) (ret := (some .int)) (by decide) co_X7_nextDay ?_
  intro p e s m args below meth c hC hlocks hr hin0 hnoh hW
  obtain ⟨hx, hb, hml, hown, hts, -⟩ := id hC
  have hE := hW
  have hL : ∀ q ∈ ([] : List Loc), (eH E).size ≤ q.base := fun q hq => nomatch hq
  have hl := lv_entry ([.ref (X 0)] : List Value) (n := 1) (Nat.le_of_ble_eq_true rfl)
  rw [lg_entry_eq]
  generalize (lg_sl [.ref (X 0)] ++ List.replicate (1 - (lg_sl [.ref (X 0)]).length) Slot.unset).toArray = ls at hl ⊢
  have hl : lv_has ls 1 [(0, .ref (X 0))] := hl
  refine lv_aload_n hx hb dX7_nextDay_0 rfl (lv_at hl 0 rfl) ?_
  refine hs_get hC hW hi_X7 rfl 0 (by decide) lk_X7_12 rfl hT.house rfl dX7_nextDay_1 ?_
  refine hs_getN hC hW hi_X0 rfl 1 (by decide) lk_X7_69 rfl hT.days rfl dX7_nextDay_4 ?_
  refine lv_sipush (v := 20000) hx hb dX7_nextDay_7 (by decide) ?_
  refine lv_icmp_ge (tgt := 17) hx hb dX7_nextDay_10 (by decide) (fun c10 => ?_) (fun c10 => ?_)
  · refine lv_iconst (v := 0) hx hb dX7_nextDay_17 (by decide) ?_
    refine hs_callS hC hs_Tok hW hL (ct_X7_checkState E hST G _) cw_X7_checkState lk_X7_62 st_X7_checkState hl.1 (by decide) (Nat.le_of_ble_eq_true rfl) dX7_nextDay_18 (hs_kck hnoh hlocks (by decide) (by decide) (fun hno => Or.inr ⟨_, ⟨rfl, by first | exact absurd (show ¬ (1 : Int32) = 0 by decide) hno | exact Nat.not_lt.mpr ((nI_leI (by decide) (by have := hT.2.2.2.2.1; omega)).mp (by rw [show nI 20000 = (20000 : Int32) by decide +kernel]; exact c10))⟩, rfl, rfl, rfl, rfl⟩) (fun hok18 H locs hW hL => ?_))
    exact absurd rfl hok18
  refine lv_iconst (v := 1) hx hb dX7_nextDay_13 (by decide) ?_
  refine lv_goto (tgt := 18) hx hb dX7_nextDay_14 (by decide) ?_
  refine hs_callS hC hs_Tok hW hL (ct_X7_checkState E hST G _) cw_X7_checkState lk_X7_62 st_X7_checkState hl.1 (by decide) (Nat.le_of_ble_eq_true rfl) dX7_nextDay_18 (hs_kck hnoh hlocks (by decide) (by decide) (fun hno => Or.inr ⟨_, ⟨rfl, by first | exact absurd (show ¬ (1 : Int32) = 0 by decide) hno | exact Nat.not_lt.mpr ((nI_leI (by decide) (by have := hT.2.2.2.2.1; omega)).mp (by rw [show nI 20000 = (20000 : Int32) by decide +kernel]; exact c10))⟩, rfl, rfl, rfl, rfl⟩) (fun hok18 H locs hW hL => ?_))
  have hd9 : d < 20000 := Nat.not_le.mp fun z => c10 (by rw [show (20000 : Int32) = nI 20000 by decide +kernel]; exact (nI_leI (by omega) (by have := hT.2.2.2.2.1; omega)).mpr z)
  refine lv_aload_n hx hb dX7_nextDay_21 rfl (lv_at hl 0 rfl) ?_
  refine hs_callV hC hs_Tok hW hL (ct_X7_passToNextDay E t cap X d G hT h99 hJ hB hd9) cw_X7_passToNextDay lk_X7_160 im_X7_passToNextDay se_X7_passToNextDay (hs_recv hC hW hT.house rfl) hl.1 (by decide) (Nat.le_of_ble_eq_true rfl) dX7_nextDay_22 (hs_kI (fun z G1 k n H locs hI hk hn hW hL => ?_))
  obtain ⟨t2, cap2, hT2, hF2, hc2, hk2, hn2⟩ := hI
  replace hk : k ≤ 230 := hk
  replace hn : n ≤ 1130 := hn
  exact hs_iret hC hW hL hr hlocks (by show 0 + k ≤ 230; omega) (by show 0 + n ≤ 1130; omega) dX7_nextDay_25 (Or.inl ⟨_, rfl, t2, cap2, by rw [if_pos hd9]; exact hT2, hF2, hc2, by omega, by omega⟩)
theorem cl_go {d : Nat} {dy : Int32} (hd : d ≤ 20000) (h1 : ¬ dy ≤ nI d) (h2 : ¬ dy > 20000) (h3 : ¬ dy - nI d > 400) : ∃ D : Nat, d ≤ D ∧ D ≤ 20000 ∧ dy = nI D ∧ mo_go d dy = D := by
  have e1 : (nI d).toInt = d := nI_toInt (by omega)
  obtain ⟨D, hD, rfl⟩ := nI_of (x := dy) (fun z => h1 (by rw [Int32.le_iff_toInt_le, e1]; rw [Int32.lt_iff_toInt_lt, Int32.toInt_zero] at z; omega))
  have q1 : d < D := Nat.not_le.mp fun z => h1 ((nI_leI hD (by omega)).mpr z)
  have q2 : D ≤ 20000 := Nat.not_lt.mp fun z => h2 (by rw [show (20000 : Int32) = nI 20000 by decide +kernel]; exact (nI_ltI (by omega) hD).mpr z)
  have q3 : D - d ≤ 400 := Nat.not_lt.mp fun z => h3 (by rw [pk_sub (by omega), show (400 : Int32) = nI 400 by decide +kernel]; exact (nI_ltI (by omega) (by omega)).mpr z)
  refine ⟨D, by omega, q2, rfl, ?_⟩
  unfold mo_go
  rw [nI_toInt hD, if_pos (by omega)]
  omega
theorem cl_go1 {d : Nat} {dy : Int32} (hd : d ≤ 20000) (h : dy ≤ nI d) : mo_go d dy = d := by
  rw [Int32.le_iff_toInt_le, nI_toInt (by omega)] at h
  unfold mo_go
  rw [if_neg (by omega)]
theorem cl_go3 {d : Nat} {dy : Int32} (hd : d ≤ 20000) (h1 : ¬ dy ≤ nI d) (h2 : ¬ dy > 20000) (h : dy - nI d > 400) : mo_go d dy = d := by
  have e1 : (nI d).toInt = d := nI_toInt (by omega)
  obtain ⟨D, hD, rfl⟩ := nI_of (x := dy) (fun z => h1 (by rw [Int32.le_iff_toInt_le, e1]; rw [Int32.lt_iff_toInt_lt, Int32.toInt_zero] at z; omega))
  have q1 : d < D := Nat.not_le.mp fun z => h1 ((nI_leI hD (by omega)).mpr z)
  rw [pk_sub (by omega), show (400 : Int32) = nI 400 by decide +kernel] at h
  have q3 := (nI_ltI (by decide) (by omega)).mp h
  unfold mo_go
  rw [nI_toInt hD, if_neg (by omega)]
set_option maxHeartbeats 4000000 in
set_option maxRecDepth 100000 in
/-- goTo -/
theorem ct_X7_goTo (E : hs_E) (hST : E.1.stackTraces = false) (t : cl_t) (cap X : Nat → Nat) (d : Nat) (G : hs_G) (hT : cl_T E t cap X d G) (h99 : X 99 = 0) (hJ : vJ X) (hB : X 97 ≤ 1152921504606846976) (dy : Int32) : hM E yX7_goTo ({ frames := 10, cells := 460, slots := 2030, locals := 350 }) [.ref (X 0), .int dy] G (hs_or2 (hs_I (fun _ G1 k n => cl_MY E t cap X (mo_go d dy) G 0 0 G1 k n)) G (fun C => C = "java/lang/IllegalArgumentException" ∧ mo_go d dy = d)) := by
  refine hs_ofW (cc := cX7_goTo) (maxL := 4) (ret := (some .int)) (by decide) co_X7_goTo ?_
  intro p e s m args below meth c hC hlocks hr hin0 hnoh hW
  obtain ⟨hx, hb, hml, hown, hts, -⟩ := id hC
  have hE := hW
  have hL : ∀ q ∈ ([] : List Loc), (eH E).size ≤ q.base := fun q hq => nomatch hq
  have hl := lv_entry ([.ref (X 0), .int dy] : List Value) (n := 4) (Nat.le_of_ble_eq_true rfl)
  rw [lg_entry_eq]
  generalize (lg_sl [.ref (X 0), .int dy] ++ List.replicate (4 - (lg_sl [.ref (X 0), .int dy]).length) Slot.unset).toArray = ls at hl ⊢
  have hl : lv_has ls 4 [(0, .ref (X 0)), (1, .int dy)] := hl
  refine lv_iload_n hx hb dX7_goTo_0 rfl (lv_at hl 1 rfl) ?_
  refine lv_aload_n hx hb dX7_goTo_1 rfl (lv_at hl 0 rfl) ?_
  refine hs_get hC hW hi_X7 rfl 0 (by decide) lk_X7_12 rfl hT.house rfl dX7_goTo_2 ?_
  refine hs_getN hC hW hi_X0 rfl 1 (by decide) lk_X7_69 rfl hT.days rfl dX7_goTo_5 ?_
  refine lv_icmp_le (tgt := 37) hx hb dX7_goTo_8 (by decide) (fun c8 => ?_) (fun c8 => ?_)
  · refine lv_iconst (v := 0) hx hb dX7_goTo_37 (by decide) ?_
    refine hs_callS hC hs_Tok hW hL (ct_X7_checkArgument E hST G _) cw_X7_checkArgument lk_X7_52 st_X7_checkArgument hl.1 (by decide) (Nat.le_of_ble_eq_true rfl) dX7_goTo_38 (hs_kck hnoh hlocks (by decide) (by decide) (fun hno => Or.inr ⟨_, ⟨rfl, by first | exact absurd (show ¬ (1 : Int32) = 0 by decide) hno | exact cl_go1 hT.2.2.2.2.1 c8 | exact mo_go_n2 c15 | exact cl_go3 hT.2.2.2.2.1 c8 c15 c30⟩, rfl, rfl, rfl, rfl⟩) (fun hok38 H locs hW hL => ?_))
    exact absurd rfl hok38
  refine lv_iload_n hx hb dX7_goTo_11 rfl (lv_at hl 1 rfl) ?_
  refine lv_sipush (v := 20000) hx hb dX7_goTo_12 (by decide) ?_
  refine lv_icmp_gt (tgt := 37) hx hb dX7_goTo_15 (by decide) (fun c15 => ?_) (fun c15 => ?_)
  · refine lv_iconst (v := 0) hx hb dX7_goTo_37 (by decide) ?_
    refine hs_callS hC hs_Tok hW hL (ct_X7_checkArgument E hST G _) cw_X7_checkArgument lk_X7_52 st_X7_checkArgument hl.1 (by decide) (Nat.le_of_ble_eq_true rfl) dX7_goTo_38 (hs_kck hnoh hlocks (by decide) (by decide) (fun hno => Or.inr ⟨_, ⟨rfl, by first | exact absurd (show ¬ (1 : Int32) = 0 by decide) hno | exact cl_go1 hT.2.2.2.2.1 c8 | exact mo_go_n2 c15 | exact cl_go3 hT.2.2.2.2.1 c8 c15 c30⟩, rfl, rfl, rfl, rfl⟩) (fun hok38 H locs hW hL => ?_))
    exact absurd rfl hok38
  refine lv_iload_n hx hb dX7_goTo_18 rfl (lv_at hl 1 rfl) ?_
  refine lv_aload_n hx hb dX7_goTo_19 rfl (lv_at hl 0 rfl) ?_
  refine hs_get hC hW hi_X7 rfl 0 (by decide) lk_X7_12 rfl hT.house rfl dX7_goTo_20 ?_
  refine hs_getN hC hW hi_X0 rfl 1 (by decide) lk_X7_69 rfl hT.days rfl dX7_goTo_23 ?_
  refine lv_isub hx hb dX7_goTo_26 ?_
  refine lv_sipush (v := 400) hx hb dX7_goTo_27 (by decide) ?_
  refine lv_icmp_gt (tgt := 37) hx hb dX7_goTo_30 (by decide) (fun c30 => ?_) (fun c30 => ?_)
  · refine lv_iconst (v := 0) hx hb dX7_goTo_37 (by decide) ?_
    refine hs_callS hC hs_Tok hW hL (ct_X7_checkArgument E hST G _) cw_X7_checkArgument lk_X7_52 st_X7_checkArgument hl.1 (by decide) (Nat.le_of_ble_eq_true rfl) dX7_goTo_38 (hs_kck hnoh hlocks (by decide) (by decide) (fun hno => Or.inr ⟨_, ⟨rfl, by first | exact absurd (show ¬ (1 : Int32) = 0 by decide) hno | exact cl_go1 hT.2.2.2.2.1 c8 | exact mo_go_n2 c15 | exact cl_go3 hT.2.2.2.2.1 c8 c15 c30⟩, rfl, rfl, rfl, rfl⟩) (fun hok38 H locs hW hL => ?_))
    exact absurd rfl hok38
  refine lv_iconst (v := 1) hx hb dX7_goTo_33 (by decide) ?_
  refine lv_goto (tgt := 38) hx hb dX7_goTo_34 (by decide) ?_
  refine hs_callS hC hs_Tok hW hL (ct_X7_checkArgument E hST G _) cw_X7_checkArgument lk_X7_52 st_X7_checkArgument hl.1 (by decide) (Nat.le_of_ble_eq_true rfl) dX7_goTo_38 (hs_kck hnoh hlocks (by decide) (by decide) (fun hno => Or.inr ⟨_, ⟨rfl, by first | exact absurd (show ¬ (1 : Int32) = 0 by decide) hno | exact cl_go1 hT.2.2.2.2.1 c8 | exact mo_go_n2 c15 | exact cl_go3 hT.2.2.2.2.1 c8 c15 c30⟩, rfl, rfl, rfl, rfl⟩) (fun hok38 H locs hW hL => ?_))
  have hd9 := hT.2.2.2.2.1
  obtain ⟨D, hdD, hD9, rfl, hgo⟩ := cl_go hd9 c8 c15 c30
  refine lv_iconst (v := 0) hx hb dX7_goTo_41 (by decide) ?_
  refine lv_istore_n (lv' := [(2, .int _), (0, .ref _), (1, .int _)]) hx hb dX7_goTo_42 rfl hl (by decide) rfl (fun ls hl => ?_)
  refine lv_iload_n hx hb dX7_goTo_43 rfl (lv_at hl 2 rfl) ?_
  refine lv_aload_n hx hb dX7_goTo_44 rfl (lv_at hl 1 rfl) ?_
  refine hs_get hC hW hi_X7 rfl 0 (by decide) lk_X7_12 rfl hT.house rfl dX7_goTo_45 ?_
  refine hs_getN hC hW hi_X0 rfl 1 (by decide) lk_X7_69 rfl hT.days rfl dX7_goTo_48 ?_
  refine lv_isub hx hb dX7_goTo_51 ?_
  rw [pk_sub hdD]
  refine lv_istore_n (lv' := [(3, .int _), (2, .int _), (0, .ref _), (1, .int _)]) hx hb dX7_goTo_52 rfl hl (by decide) rfl (fun ls hl => ?_)
  refine hs_loopC (σ := Nat × Nat × Int32 × cl_t × (Nat → Nat) × hs_G × (Nat → Nat)) (fun x => match x with | (j, d1, ac, t1, cap1, G1, Y) => j) (fun x kk nn H locs ls => match x with | (j, d1, ac, t1, cap1, G1, Y) => (d1 + j = D ∧ cl_T E t1 cap1 Y d1 G1 ∧ cl_F t G t1 G1 ∧ cap (X 9) ≤ cap1 (X 9) ∧ kk ≤ cap1 (X 9) - cap (X 9) ∧ nn ≤ 4 * (cap1 (X 9) - cap (X 9)) ∧ (∀ n, n < 100 → Y n = X n) ∧ vJ Y) ∧ hs_W (eD E) vwCl (eH E) (G1) H ∧ (∀ q ∈ locs, (eH E).size ≤ q.base) ∧ lv_has ls 4 [(0, .ref (X 0)), (1, .int (nI D)), (2, .int ac), (3, .int (nI j))]) ?_ (D - d, d, _, t, cap, G, X) 0 0 _ _ _ ⟨⟨by omega, hT, cl_F.rf, Nat.le_refl _, Nat.zero_le _, Nat.zero_le _, fun _ _ => rfl, hJ⟩, hW, hL, (lv_sub hl [2, 3, 1, 0] rfl)⟩
  rintro ⟨j, d1, ac, t1, cap1, G1, Y⟩ kk nn H locs ls ⟨⟨j1, j2, j3, j4, j5, j6, hY, hJY⟩, hW, hL, hl⟩ ih
  replace hW : hs_W (eD E) vwCl (eH E) (G1) H := hW
  replace hl : lv_has ls 4 [(0, .ref (X 0)), (1, .int (nI D)), (2, .int ac), (3, .int (nI j))] := hl
  refine lv_iload_n hx hb dX7_goTo_53 rfl (lv_at hl 3 rfl) ?_
  refine lv_if_le (tgt := 70) hx hb dX7_goTo_54 (by decide) (fun c54 => ?_) (fun c54 => ?_)
  · refine lv_iload_n hx hb dX7_goTo_70 rfl (lv_at hl 2 rfl) ?_
    exact hs_iret hC hW hL hr hlocks (by show kk ≤ 460; obtain ⟨mc9, A9, sz9, f9, -, -, -, -, hcp9, -⟩ := j2.l9Y hY; omega) (by show nn ≤ 2030; obtain ⟨mc9, A9, sz9, f9, -, -, -, -, hcp9, -⟩ := j2.l9Y hY; omega) dX7_goTo_71 (Or.inl ⟨_, rfl, t1, cap1, by (have e9 : d1 = D := by (rcases Nat.eq_zero_or_pos j with z | z; omega; exact absurd c54 (fun y => by rw [Int32.le_iff_toInt_le, nI_toInt (by omega), Int32.toInt_zero] at y; omega))); rw [hgo, ← e9]; exact ⟨Y, j2, hY, hJY⟩, j3, j4, by omega, by omega⟩)
  obtain ⟨j, rfl⟩ := mo_pos c54
  obtain ⟨mc9, A9, sz9, f9, -, -, -, -, hcp9, -⟩ := j2.l9Y hY
  have hpn := ct_X7_passToNextDay E t1 cap1 Y d1 G1 j2 ((hY 99 (by decide)).trans h99) hJY (by rw [hY 97 (by decide)]; exact hB) (by omega)
  rw [hY 0 (by decide)] at hpn
  have hHy := j2.houseY hY
  refine lv_iload_n hx hb dX7_goTo_57 rfl (lv_at hl 2 rfl) ?_
  refine lv_aload_n hx hb dX7_goTo_58 rfl (lv_at hl 0 rfl) ?_
  refine hs_callV hC hs_Tok hW hL hpn cw_X7_passToNextDay lk_X7_160 im_X7_passToNextDay se_X7_passToNextDay (hs_recv hC hW hHy rfl) hl.1 (by refine ⟨by decide, by decide, ?_, ?_⟩ <;> dsimp only <;> omega) (Nat.le_of_ble_eq_true rfl) dX7_goTo_59 (hs_kI (fun z G2 k2 n2 H locs hI hk hn hW hL => ?_))
  obtain ⟨t2, cap2, ⟨Y2, hT2, hY2, hJ2⟩, hF2, hc2, hk2, hn2⟩ := hI
  rw [hY 9 (by decide)] at hc2 hk2 hn2
  replace hk : k2 ≤ 230 := hk
  replace hn : n2 ≤ 1130 := hn
  refine lv_iadd hx hb dX7_goTo_62 ?_
  refine lv_istore_n (lv' := [(2, .int _), (0, .ref _), (1, .int _), (3, .int _)]) hx hb dX7_goTo_63 rfl hl (by decide) rfl (fun ls hl => ?_)
  refine lv_iinc (lv' := [(3, .int _), (2, .int _), (0, .ref _), (1, .int _)]) hx hb dX7_goTo_64 hl (k := 3) rfl rfl (by decide) rfl (fun ls hl => ?_)
  refine lv_goto (tgt := 53) hx hb dX7_goTo_67 (by decide) ?_
  rw [hs_dec] at hl
  exact ih (j, d1 + 1, _, t2, cap2, G2, Y2) (kk + k2) (nn + n2) _ _ _ (by show j < j + 1; omega) ⟨⟨by omega, hT2, j3.tr hF2, by omega, by omega, by omega, fun n hn => (hY2 n hn).trans (hY n hn), hJ2⟩, hW, hL, (lv_sub hl [2, 3, 1, 0] rfl)⟩
