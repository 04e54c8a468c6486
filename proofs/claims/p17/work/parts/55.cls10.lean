/-! the class: public methods, third part -/
set_option maxHeartbeats 4000000 in
set_option maxRecDepth 100000 in
/-- count -/
theorem ct_X7_count (E : hs_E) (hST : E.1.stackTraces = false) (t : cl_t) (cap X : Nat → Nat) (d : Nat) (G : hs_G) (hT : cl_T E t cap X d G) (sa : Int32) : hM E yX7_count ({ frames := 7, cells := 1, slots := 6, locals := 120 }) [.ref (X 0), .int sa] G (hs_or2 (hs_I (fun _ G1 k n => cl_M E t cap X (d) G 0 0 G1 k n)) G (fun C => C = "java/lang/IllegalArgumentException")) := by
  refine hs_ofW (cc := cX7_count) (maxL := 4) (ret := (some .int)) (by decide) co_X7_count ?_
  intro p e s m args below meth c hC hlocks hr hin0 hnoh hW
  obtain ⟨hx, hb, hml, hown, hts, -⟩ := id hC
  have hE := hW
  have hL : ∀ q ∈ ([] : List Loc), (eH E).size ≤ q.base := fun q hq => nomatch hq
  have hl := lv_entry ([.ref (X 0), .int sa] : List Value) (n := 4) (Nat.le_of_ble_eq_true rfl)
  rw [lg_entry_eq]
  generalize (lg_sl [.ref (X 0), .int sa] ++ List.replicate (4 - (lg_sl [.ref (X 0), .int sa]).length) Slot.unset).toArray = ls at hl ⊢
  have hl : lv_has ls 4 [(0, .ref (X 0)), (1, .int sa)] := hl
  obtain ⟨mc9, A9, sz9, f9, hLo, hLa, hsc, hmx, hcp, hel, hAA⟩ := hT.l8
  refine lv_iload_n hx hb dX7_count_0 rfl (lv_at hl 1 rfl) ?_
  refine lv_iconst (v := 0) hx hb dX7_count_1 (by decide) ?_
  refine lv_iconst (v := 4) hx hb dX7_count_2 (by decide) ?_
  refine hs_callS hC hs_Tok hW hL (ct_X7_isWithin E _ _ _ _) cw_X7_isWithin lk_X7_48 st_X7_isWithin hl.1 (by decide) (Nat.le_of_ble_eq_true rfl) dX7_count_3 (hs_kp1 (fun H locs hW hL => ?_))
  refine hs_callS hC hs_Tok hW hL (ct_X7_checkArgument E hST G _) cw_X7_checkArgument lk_X7_52 st_X7_checkArgument hl.1 (by decide) (Nat.le_of_ble_eq_true rfl) dX7_count_6 (hs_kck hnoh hlocks (by decide) (by decide) (fun hno => Or.inr ⟨_, rfl, rfl, rfl, rfl, rfl⟩) (fun hok6 H locs hW hL => ?_))
  refine lv_iconst (v := 0) hx hb dX7_count_9 (by decide) ?_
  refine lv_istore_n (lv' := [(2, .int _), (0, .ref _), (1, .int _)]) hx hb dX7_count_10 rfl hl (by decide) rfl (fun ls hl => ?_)
  refine lv_iconst (v := 0) hx hb dX7_count_11 (by decide) ?_
  refine lv_istore_n (lv' := [(3, .int _), (2, .int _), (0, .ref _), (1, .int _)]) hx hb dX7_count_12 rfl hl (by decide) rfl (fun ls hl => ?_)
  refine hs_loop (σ := Nat × Int32) (fun x => match x with | (i, ac) => sz9 - i) (fun x H locs ls => match x with | (i, ac) => (i ≤ sz9) ∧ hs_W (eD E) vwCl (eH E) (G) H ∧ (∀ q ∈ locs, (eH E).size ≤ q.base) ∧ lv_has ls 4 [(0, .ref (X 0)), (1, .int sa), (2, .int ac), (3, .int (nI i))]) ?_ (0, _) _ _ _ ⟨Nat.zero_le _, hW, hL, (lv_sub hl [2, 3, 1, 0] rfl)⟩
  rintro ⟨i, ac⟩ H locs ls ⟨hinv, hW, hL, hl⟩ ih
  replace hW : hs_W (eD E) vwCl (eH E) (G) H := hW
  replace hl : lv_has ls 4 [(0, .ref (X 0)), (1, .int sa), (2, .int ac), (3, .int (nI i))] := hl
  refine lv_iload_n hx hb dX7_count_13 rfl (lv_at hl 3 rfl) ?_
  refine lv_aload_n hx hb dX7_count_14 rfl (lv_at hl 0 rfl) ?_
  refine hs_get hC hW hi_X7 rfl 3 (by decide) lk_X7_33 rfl hT.house rfl dX7_count_15 ?_
  refine hs_callV hC hs_Tok hW hL (ct_size E G (X 8) A9 sz9 mc9 hLo) cw_Jx4a65c_size_8abf5 lk_X7_81 im_Jx4a65c_size_8abf5 se_Jx4a65c_size_8abf5 (hs_recv hC hW hLo rfl) hl.1 (by decide) (Nat.le_of_ble_eq_true rfl) dX7_count_18 (hs_kp1 (fun H locs hW hL => ?_))
  refine lv_icmp_ge (tgt := 51) hx hb dX7_count_21 (by decide) (fun c21 => ?_) (fun c21 => ?_)
  · refine lv_iload_n hx hb dX7_count_51 rfl (lv_at hl 2 rfl) ?_
    exact hs_iret hC hW hL hr hlocks (by decide) (by decide) dX7_count_52 (Or.inl ⟨_, rfl, t, cap, hT, cl_F.rf, Nat.le_refl _, Nat.zero_le _, Nat.zero_le _⟩)
  have hlt : i < sz9 := Nat.not_le.mp fun z => c21 ((nI_leI (by omega) (by omega)).mpr z)
  obtain ⟨x9, hfx, htx⟩ := hel i hlt
  obtain ⟨nu9, te9, t9, s8, s9, st9, du9, ql9, am9, fa9, pr9, ip9, g9, hX, ht1, ht2, ht3, hg9⟩ := hT.tr htx
  refine lv_aload_n hx hb dX7_count_24 rfl (lv_at hl 0 rfl) ?_
  refine hs_get hC hW hi_X7 rfl 3 (by decide) lk_X7_33 rfl hT.house rfl dX7_count_25 ?_
  refine lv_iload_n hx hb dX7_count_28 rfl (lv_at hl 3 rfl) ?_
  refine hs_callV hC hs_Tok hW hL (ct_get E G (X 8) A9 sz9 mc9 hLo (cap (X 8)) f9 hLa (by omega) i x9 hlt hsc hfx) cw_Jx4a65c_get_915e3 lk_X7_202 im_Jx4a65c_get_915e3 se_Jx4a65c_get_915e3 (hs_recv hC hW hLo rfl) hl.1 (by decide) (Nat.le_of_ble_eq_true rfl) dX7_count_29 (hs_kp1 (fun H locs hW hL => ?_))
  refine hs_cast hC hW lk_X7_99 ca_X5_X5 hX rfl dX7_count_32 ?_
  refine hs_getN hC hW hi_X5 rfl 5 (by decide) lk_X7_151 rfl hX rfl dX7_count_35 ?_
  refine lv_iload_n hx hb dX7_count_38 rfl (lv_at hl 1 rfl) ?_
  refine lv_icmp_ne (tgt := 45) hx hb dX7_count_39 (by decide) (fun c39 => ?_) (fun c39 => ?_)
  · refine lv_iinc (lv' := [(3, .int _), (0, .ref _), (1, .int _), (2, .int _)]) hx hb dX7_count_45 hl (k := 3) rfl rfl (by decide) rfl (fun ls hl => ?_)
    refine lv_goto (tgt := 13) hx hb dX7_count_48 (by decide) ?_
    rw [hs_inc] at hl
    exact ih (i + 1, _) _ _ _ (by show sz9 - (i + 1) < sz9 - i; omega) ⟨by omega, hW, hL, (lv_sub hl [1, 2, 3, 0] rfl)⟩
  refine lv_iinc (lv' := [(2, .int _), (0, .ref _), (1, .int _), (3, .int _)]) hx hb dX7_count_42 hl (k := 2) rfl rfl (by decide) rfl (fun ls hl => ?_)
  refine lv_iinc (lv' := [(3, .int _), (2, .int _), (0, .ref _), (1, .int _)]) hx hb dX7_count_45 hl (k := 3) rfl rfl (by decide) rfl (fun ls hl => ?_)
  refine lv_goto (tgt := 13) hx hb dX7_count_48 (by decide) ?_
  rw [hs_inc] at hl
  exact ih (i + 1, _) _ _ _ (by show sz9 - (i + 1) < sz9 - i; omega) ⟨by omega, hW, hL, (lv_sub hl [2, 3, 1, 0] rfl)⟩
theorem cl_m1 (j : Nat) : nI j - 1 + Int32.ofInt 1 = nI (j + 1) - 1 := by
  rw [← nI_1, show Int32.ofInt 1 = 1 by decide, Int32.sub_add_cancel, Int32.add_sub_cancel]
theorem cl_m1s (j : Nat) : nI j - 1 - -1 = nI j := by rw [Int32.sub_neg, Int32.sub_add_cancel]
theorem cl_m1g {j : Nat} (hj : j < 2 ^ 30) (c : ¬ nI j - 1 ≥ 8) : j < 9 := by
  refine Nat.not_le.mp fun z => c ?_
  obtain ⟨k, rfl⟩ : ∃ k, j = k + 1 := ⟨j - 1, by omega⟩
  rw [nI_m1, show (8 : Int32) = nI 8 by decide +kernel]
  exact (nI_leI (by decide) (by omega)).mpr (by omega)
set_option maxHeartbeats 4000000 in
set_option maxRecDepth 100000 in
/-- astray -/
theorem ct_X7_astray (E : hs_E) (t : cl_t) (cap X : Nat → Nat) (d : Nat) (G : hs_G) (hT : cl_T E t cap X d G) (hJ : vJ X) (hB : X 97 ≤ 1152921504606846976) : hM E yX7_astray ({ frames := 2, cells := 0, slots := 0, locals := 70 }) [.ref (X 0)] G (hs_pu (some (.int 0)) G) := by
  refine hs_ofW (cc := cX7_astray) (maxL := 3) (ret := (some .int)) (by decide) co_X7_astray ?_
  intro p e s m args below meth c hC hlocks hr hin0 hnoh hW
  obtain ⟨hx, hb, hml, hown, hts, -⟩ := id hC
  have hE := hW
  have hL : ∀ q ∈ ([] : List Loc), (eH E).size ≤ q.base := fun q hq => nomatch hq
  have hl := lv_entry ([.ref (X 0)] : List Value) (n := 3) (Nat.le_of_ble_eq_true rfl)
  rw [lg_entry_eq]
  generalize (lg_sl [.ref (X 0)] ++ List.replicate (3 - (lg_sl [.ref (X 0)]).length) Slot.unset).toArray = ls at hl ⊢
  have hl : lv_has ls 3 [(0, .ref (X 0))] := hl
  refine lv_iconst (v := 0) hx hb dX7_astray_0 (by decide) ?_
  refine lv_istore_n (lv' := [(1, .int _), (0, .ref _)]) hx hb dX7_astray_1 rfl hl (by decide) rfl (fun ls hl => ?_)
  refine lv_iconst (v := (-1)) hx hb dX7_astray_2 (by decide) ?_
  refine lv_istore_n (lv' := [(2, .int _), (1, .int _), (0, .ref _)]) hx hb dX7_astray_3 rfl hl (by decide) rfl (fun ls hl => ?_)
  rw [show (-1 : Int32) = nI 0 - 1 by decide +kernel] at hl
  refine hs_loop (σ := Nat) (fun x => match x with | j => 9 - j) (fun x H locs ls => match x with | j => (j ≤ 9) ∧ hs_W (eD E) vwCl (eH E) (G) H ∧ (∀ q ∈ locs, (eH E).size ≤ q.base) ∧ lv_has ls 3 [(0, .ref (X 0)), (1, .int 0), (2, .int (nI j - 1))]) ?_ 0 _ _ _ ⟨Nat.zero_le _, hW, hL, (lv_sub hl [2, 1, 0] rfl)⟩
  rintro j H locs ls ⟨hinv, hW, hL, hl⟩ ih
  replace hW : hs_W (eD E) vwCl (eH E) (G) H := hW
  replace hl : lv_has ls 3 [(0, .ref (X 0)), (1, .int 0), (2, .int (nI j - 1))] := hl
  refine lv_iload_n hx hb dX7_astray_4 rfl (lv_at hl 2 rfl) ?_
  refine lv_bipush (v := 8) hx hb dX7_astray_5 (by decide) ?_
  refine lv_icmp_ge (tgt := 30) hx hb dX7_astray_7 (by decide) (fun c7 => ?_) (fun c7 => ?_)
  · refine lv_iload_n hx hb dX7_astray_30 rfl (lv_at hl 1 rfl) ?_
    exact hs_iret hC hW hL hr hlocks (by decide) (by decide) dX7_astray_31 ⟨by rfl, rfl, rfl, rfl⟩
  have hj9 : j < 9 := cl_m1g (by omega) c7
  refine lv_aload_n hx hb dX7_astray_10 rfl (lv_at hl 0 rfl) ?_
  refine hs_get hC hW hi_X7 rfl 1 (by decide) lk_X7_19 rfl hT.house rfl dX7_astray_11 ?_
  refine lv_iload_n hx hb dX7_astray_14 rfl (lv_at hl 2 rfl) ?_
  refine hs_callVN hC hs_Tok hW hL (ct_X6_isAstray E t cap X d G hT _ (by rw [cl_m1s]; exact vp_in_nI hj9 (by decide)) hJ hB) cw_X6_isAstray lk_X7_206 im_X6_isAstray se_X6_isAstray (hs_recv hC hW hT.vault rfl) hl.1 (by decide) (Nat.le_of_ble_eq_true rfl) dX7_astray_15 (hs_kp1 (fun H locs hW hL => ?_))
  refine lv_if_eq (tgt := 24) hx hb dX7_astray_18 (by decide) (fun c18 => ?_) (fun c18 => ?_)
  · refine lv_iinc (lv' := [(2, .int _), (0, .ref _), (1, .int _)]) hx hb dX7_astray_24 hl (k := 2) rfl rfl (by decide) rfl (fun ls hl => ?_)
    refine lv_goto (tgt := 4) hx hb dX7_astray_27 (by decide) ?_
    rw [cl_m1] at hl
    exact ih (j + 1) _ _ _ (by show 9 - (j + 1) < 9 - j; omega) ⟨by omega, hW, hL, (lv_sub hl [1, 2, 0] rfl)⟩
  exact absurd c18 (by first | decide | simp [mo_up])
set_option maxHeartbeats 4000000 in
set_option maxRecDepth 100000 in
/-- hold -/
theorem ct_X7_hold (E : hs_E) (hST : E.1.stackTraces = false) (t : cl_t) (cap X : Nat → Nat) (d : Nat) (G : hs_G) (hT : cl_T E t cap X d G) (i pa on : Int32) (hon : on = 0 ∨ on = 1) : hM E yX7_hold ({ frames := 7, cells := 1, slots := 6, locals := 120 }) [.ref (X 0), .int i, .int pa, .int on] G (hs_or2 (hs_I (fun _ G1 k n => cl_M E t cap X (d) G 0 0 G1 k n)) G (fun C => C = "java/lang/IllegalArgumentException" ∨ C = "java/lang/IllegalStateException")) := by
  refine hs_ofW (cc := cX7_hold) (maxL := 7) (ret := (some .boolean)) (by decide) co_X7_hold ?_
  intro p e s m args below meth c hC hlocks hr hin0 hnoh hW
  obtain ⟨hx, hb, hml, hown, hts, -⟩ := id hC
  have hE := hW
  have hL : ∀ q ∈ ([] : List Loc), (eH E).size ≤ q.base := fun q hq => nomatch hq
  have hl := lv_entry ([.ref (X 0), .int i, .int pa, .int on] : List Value) (n := 7) (Nat.le_of_ble_eq_true rfl)
  rw [lg_entry_eq]
  generalize (lg_sl [.ref (X 0), .int i, .int pa, .int on] ++ List.replicate (7 - (lg_sl [.ref (X 0), .int i, .int pa, .int on]).length) Slot.unset).toArray = ls at hl ⊢
  have hl : lv_has ls 7 [(0, .ref (X 0)), (1, .int i), (2, .int pa), (3, .int on)] := hl
  refine lv_aload_n hx hb dX7_hold_0 rfl (lv_at hl 0 rfl) ?_
  refine lv_iload_n hx hb dX7_hold_1 rfl (lv_at hl 1 rfl) ?_
  refine hs_callV hC hs_Tok hW hL (ct_X7_find E hST t cap X d G hT _) cw_X7_find lk_X7_110 im_X7_find se_X7_find (hs_recv hC hW hT.house rfl) hl.1 (by decide) (Nat.le_of_ble_eq_true rfl) dX7_hold_2 (hs_kor2 hnoh hlocks (by decide) (by decide) (fun C9 hC9 => Or.inr ⟨C9, Or.inl hC9, rfl, rfl, rfl, rfl⟩) (hs_kO (fun a9 G1 k n H locs hI hk hn hW hL => ?_)))
  obtain ⟨hta, hGG, rfl, rfl⟩ := hI
  rw [hGG] at hW
  clear hGG
  obtain ⟨nu9, te9, t9, s8, s9, st9, du9, ql9, am9, fa9, pr9, ip9, g9, hX, ht1, ht2, ht3, hg9⟩ := hT.tr hta
  refine lv_astore (lv' := [(4, .ref _), (0, .ref _), (1, .int _), (2, .int _), (3, .int _)]) hx hb dX7_hold_5 hl (by decide) rfl (fun ls hl => ?_)
  refine lv_aload hx hb dX7_hold_7 (lv_at hl 0 rfl) ?_
  refine lv_iload_n hx hb dX7_hold_9 rfl (lv_at hl 3 rfl) ?_
  refine hs_callS hC hs_Tok hW hL (ct_X7_findSide E hST t cap X d G hT a9 hta _) cw_X7_findSide lk_X7_114 st_X7_findSide hl.1 (by decide) (Nat.le_of_ble_eq_true rfl) dX7_hold_10 (hs_kor2 hnoh hlocks (by decide) (by decide) (fun C9 hC9 => Or.inr ⟨C9, Or.inl hC9, rfl, rfl, rfl, rfl⟩) (hs_kO (fun s5 G1 k n H locs hI hk hn hW hL => ?_)))
  obtain ⟨hts, hGG, rfl, rfl⟩ := hI
  rw [hGG] at hW
  clear hGG
  obtain ⟨u5, v5, hS5⟩ := hT.si hts
  refine lv_astore (lv' := [(5, .ref _), (4, .ref _), (0, .ref _), (1, .int _), (2, .int _), (3, .int _)]) hx hb dX7_hold_13 hl (by decide) rfl (fun ls hl => ?_)
  refine lv_aload hx hb dX7_hold_15 (lv_at hl 1 rfl) ?_
  refine hs_callVN hC hs_Tok hW hL (ct_X5_isOpen E t cap X d G hT a9 hta) cw_X5_isOpen lk_X7_118 im_X5_isOpen se_X5_isOpen (hs_recv hC hW hX rfl) hl.1 (by decide) (Nat.le_of_ble_eq_true rfl) dX7_hold_17 (hs_ke (fun x H locs hJ hW hL => ?_))
  refine hs_callS hC hs_Tok hW hL (ct_X7_checkState E hST G _) cw_X7_checkState lk_X7_62 st_X7_checkState hl.1 (by decide) (Nat.le_of_ble_eq_true rfl) dX7_hold_20 (hs_kck hnoh hlocks (by decide) (by decide) (fun hno => Or.inr ⟨_, Or.inr rfl, rfl, rfl, rfl, rfl⟩) (fun hok20 H locs hW hL => ?_))
  refine lv_aload hx hb dX7_hold_23 (lv_at hl 0 rfl) ?_
  refine hs_getN hC hW hi_X3 rfl 0 (by decide) lk_X7_122 rfl hS5 rfl dX7_hold_25 ?_
  refine lv_iload_n hx hb dX7_hold_28 rfl (lv_at hl 5 rfl) ?_
  refine lv_icmp_eq (tgt := 36) hx hb dX7_hold_29 (by decide) (fun c29 => ?_) (fun c29 => ?_)
  · refine lv_iconst (v := 0) hx hb dX7_hold_36 (by decide) ?_
    refine lv_istore (lv' := [(6, .int _), (5, .ref _), (4, .ref _), (0, .ref _), (1, .int _), (2, .int _), (3, .int _)]) hx hb dX7_hold_37 hl (by decide) rfl (fun ls hl => ?_)
    refine lv_aload hx hb dX7_hold_39 (lv_at hl 1 rfl) ?_
    refine lv_iload_n hx hb dX7_hold_41 rfl (lv_at hl 6 rfl) ?_
    refine hs_putN hC hW hL hi_X3 tyX3 tyX3_ok nmX3 rfl 0 (by decide) lk_X7_122 rfl rfl hS5 (hT.sz hts) (by rcases hon with z | z <;> rw [z] <;> rfl) (by rcases hon with z | z <;> rw [z] <;> rfl) (Nat.le_of_ble_eq_true rfl) dX7_hold_42 (fun H locs hW hL => ?_)
    have hT1 := hT.pS hts on v5
    refine lv_iload hx hb dX7_hold_45 (lv_at hl 0 rfl) ?_
    exact hs_zret hC hW hL hr hlocks (by decide) (by decide) dX7_hold_47 (by rfl) (Or.inl ⟨_, rfl, t, cap, hT1.1, hT1.2, Nat.le_refl _, Nat.zero_le _, Nat.zero_le _⟩)
  refine lv_iconst (v := 1) hx hb dX7_hold_32 (by decide) ?_
  refine lv_goto (tgt := 37) hx hb dX7_hold_33 (by decide) ?_
  refine lv_istore (lv' := [(6, .int _), (5, .ref _), (4, .ref _), (0, .ref _), (1, .int _), (2, .int _), (3, .int _)]) hx hb dX7_hold_37 hl (by decide) rfl (fun ls hl => ?_)
  refine lv_aload hx hb dX7_hold_39 (lv_at hl 1 rfl) ?_
  refine lv_iload_n hx hb dX7_hold_41 rfl (lv_at hl 6 rfl) ?_
  refine hs_putN hC hW hL hi_X3 tyX3 tyX3_ok nmX3 rfl 0 (by decide) lk_X7_122 rfl rfl hS5 (hT.sz hts) (by rcases hon with z | z <;> rw [z] <;> rfl) (by rcases hon with z | z <;> rw [z] <;> rfl) (Nat.le_of_ble_eq_true rfl) dX7_hold_42 (fun H locs hW hL => ?_)
  have hT1 := hT.pS hts on v5
  refine lv_iload hx hb dX7_hold_45 (lv_at hl 0 rfl) ?_
  exact hs_zret hC hW hL hr hlocks (by decide) (by decide) dX7_hold_47 (by rfl) (Or.inl ⟨_, rfl, t, cap, hT1.1, hT1.2, Nat.le_refl _, Nat.zero_le _, Nat.zero_le _⟩)
set_option maxHeartbeats 4000000 in
set_option maxRecDepth 100000 in
/-- rank -/
theorem ct_X7_rank (E : hs_E) (hST : E.1.stackTraces = false) (t : cl_t) (cap X : Nat → Nat) (d : Nat) (G : hs_G) (hT : cl_T E t cap X d G) (i pr on : Int32) (hon : on = 0 ∨ on = 1) : hM E yX7_rank ({ frames := 7, cells := 1, slots := 6, locals := 120 }) [.ref (X 0), .int i, .int pr, .int on] G (hs_or2 (hs_I (fun _ G1 k n => cl_M E t cap X (d) G 0 0 G1 k n)) G (fun C => C = "java/lang/IllegalArgumentException" ∨ C = "java/lang/IllegalStateException")) := by
  refine hs_ofW (cc := cX7_rank) (maxL := 6) (ret := (some .int)) (by decide) co_X7_rank ?_
  intro p e s m args below meth c hC hlocks hr hin0 hnoh hW
  obtain ⟨hx, hb, hml, hown, hts, -⟩ := id hC
  have hE := hW
  have hL : ∀ q ∈ ([] : List Loc), (eH E).size ≤ q.base := fun q hq => nomatch hq
  have hl := lv_entry ([.ref (X 0), .int i, .int pr, .int on] : List Value) (n := 6) (Nat.le_of_ble_eq_true rfl)
  rw [lg_entry_eq]
  generalize (lg_sl [.ref (X 0), .int i, .int pr, .int on] ++ List.replicate (6 - (lg_sl [.ref (X 0), .int i, .int pr, .int on]).length) Slot.unset).toArray = ls at hl ⊢
  have hl : lv_has ls 6 [(0, .ref (X 0)), (1, .int i), (2, .int pr), (3, .int on)] := hl
  refine lv_aload_n hx hb dX7_rank_0 rfl (lv_at hl 0 rfl) ?_
  refine lv_iload_n hx hb dX7_rank_1 rfl (lv_at hl 1 rfl) ?_
  refine hs_callV hC hs_Tok hW hL (ct_X7_find E hST t cap X d G hT _) cw_X7_find lk_X7_110 im_X7_find se_X7_find (hs_recv hC hW hT.house rfl) hl.1 (by decide) (Nat.le_of_ble_eq_true rfl) dX7_rank_2 (hs_kor2 hnoh hlocks (by decide) (by decide) (fun C9 hC9 => Or.inr ⟨C9, Or.inl hC9, rfl, rfl, rfl, rfl⟩) (hs_kO (fun a9 G1 k n H locs hI hk hn hW hL => ?_)))
  obtain ⟨hta, hGG, rfl, rfl⟩ := hI
  rw [hGG] at hW
  clear hGG
  obtain ⟨nu9, te9, t9, s8, s9, st9, du9, ql9, am9, fa9, pr9, ip9, g9, hX, ht1, ht2, ht3, hg9⟩ := hT.tr hta
  refine lv_astore (lv' := [(4, .ref _), (0, .ref _), (1, .int _), (2, .int _), (3, .int _)]) hx hb dX7_rank_5 hl (by decide) rfl (fun ls hl => ?_)
  refine lv_iload_n hx hb dX7_rank_7 rfl (lv_at hl 3 rfl) ?_
  refine lv_iconst (v := 0) hx hb dX7_rank_8 (by decide) ?_
  refine lv_iconst (v := 3) hx hb dX7_rank_9 (by decide) ?_
  refine hs_callS hC hs_Tok hW hL (ct_X7_isWithin E _ _ _ _) cw_X7_isWithin lk_X7_48 st_X7_isWithin hl.1 (by decide) (Nat.le_of_ble_eq_true rfl) dX7_rank_10 (hs_kp1 (fun H locs hW hL => ?_))
  refine hs_callS hC hs_Tok hW hL (ct_X7_checkArgument E hST G _) cw_X7_checkArgument lk_X7_52 st_X7_checkArgument hl.1 (by decide) (Nat.le_of_ble_eq_true rfl) dX7_rank_13 (hs_kck hnoh hlocks (by decide) (by decide) (fun hno => Or.inr ⟨_, Or.inl rfl, rfl, rfl, rfl, rfl⟩) (fun hok13 H locs hW hL => ?_))
  refine lv_aload hx hb dX7_rank_16 (lv_at hl 0 rfl) ?_
  refine hs_callVN hC hs_Tok hW hL (ct_X5_isOpen E t cap X d G hT a9 hta) cw_X5_isOpen lk_X7_118 im_X5_isOpen se_X5_isOpen (hs_recv hC hW hX rfl) hl.1 (by decide) (Nat.le_of_ble_eq_true rfl) dX7_rank_18 (hs_ke (fun x H locs hJ hW hL => ?_))
  refine hs_callS hC hs_Tok hW hL (ct_X7_checkState E hST G _) cw_X7_checkState lk_X7_62 st_X7_checkState hl.1 (by decide) (Nat.le_of_ble_eq_true rfl) dX7_rank_21 (hs_kck hnoh hlocks (by decide) (by decide) (fun hno => Or.inr ⟨_, Or.inr rfl, rfl, rfl, rfl, rfl⟩) (fun hok21 H locs hW hL => ?_))
  refine lv_aload hx hb dX7_rank_24 (lv_at hl 0 rfl) ?_
  refine hs_getN hC hW hi_X5 rfl 10 (by decide) lk_X7_128 rfl hX rfl dX7_rank_26 ?_
  refine lv_istore (lv' := [(5, .int _), (4, .ref _), (0, .ref _), (1, .int _), (2, .int _), (3, .int _)]) hx hb dX7_rank_29 hl (by decide) rfl (fun ls hl => ?_)
  refine lv_aload hx hb dX7_rank_31 (lv_at hl 1 rfl) ?_
  refine lv_iload_n hx hb dX7_rank_33 rfl (lv_at hl 4 rfl) ?_
  refine hs_putN hC hW hL hi_X5 tyX5 tyX5_ok nmX5 rfl 10 (by decide) lk_X7_128 rfl rfl hX (hT.sz hta) rfl rfl (Nat.le_of_ble_eq_true rfl) dX7_rank_34 (fun H locs hW hL => ?_)
  refine lv_aload hx hb dX7_rank_37 (lv_at hl 1 rfl) ?_
  refine lv_iload_n hx hb dX7_rank_39 rfl (lv_at hl 5 rfl) ?_
  refine hs_putN hC hW hL hi_X5 tyX5 tyX5_ok nmX5 rfl 11 (by decide) lk_X7_131 rfl rfl (hs_up_eq _ _ _) (hT.sz hta) (by rcases hon with z | z <;> rw [z] <;> rfl) (by rcases hon with z | z <;> rw [z] <;> rfl) (Nat.le_of_ble_eq_true rfl) dX7_rank_40 (fun H locs hW hL => ?_)
  rw [hs_up_up] at hW
  have hT1 := hT.pT (nu := nu9) (te := te9) (st := st9) (du := du9) (ql := ql9) (am := am9) (fa := fa9) (pr := pr) (ip := on) hta ht1 ht2 ht3 hg9 (hT.b hta _ _ _ _ _ _ _ _ _ _ _ _ _ hX) (fun _ g' hg' => cl_grI (by rw [hX] at hg'; exact hg')) (hT.u hta _ _ _ _ _ _ _ _ _ _ _ _ _ hX)
  refine lv_iload hx hb dX7_rank_43 (lv_at hl 0 rfl) ?_
  exact hs_iret hC hW hL hr hlocks (by decide) (by decide) dX7_rank_45 (Or.inl ⟨_, rfl, t, cap, hT1.1, hT1.2, Nat.le_refl _, Nat.zero_le _, Nat.zero_le _⟩)
set_option maxHeartbeats 4000000 in
set_option maxRecDepth 100000 in
/-- cancel -/
theorem ct_X7_cancel (E : hs_E) (hST : E.1.stackTraces = false) (t : cl_t) (cap X : Nat → Nat) (d : Nat) (G : hs_G) (hT : cl_T E t cap X d G) (h99 : X 99 = 0) (i pa : Int32) : hM E yX7_cancel ({ frames := 7, cells := 1, slots := 6, locals := 170 }) [.ref (X 0), .int i, .int pa] G (hs_or2 (hs_I (fun _ G1 k n => cl_M E t cap X (d) G 0 0 G1 k n)) G (fun C => C = "java/lang/IllegalArgumentException" ∨ C = "java/lang/IllegalStateException")) := by
  refine hs_ofW (cc := cX7_cancel) (maxL := 5) (ret := (some .int)) (by decide) co_X7_cancel ?_
  intro p e s m args below meth c hC hlocks hr hin0 hnoh hW
  obtain ⟨hx, hb, hml, hown, hts, -⟩ := id hC
  have hE := hW
  have hL : ∀ q ∈ ([] : List Loc), (eH E).size ≤ q.base := fun q hq => nomatch hq
  have hl := lv_entry ([.ref (X 0), .int i, .int pa] : List Value) (n := 5) (Nat.le_of_ble_eq_true rfl)
  rw [lg_entry_eq]
  generalize (lg_sl [.ref (X 0), .int i, .int pa] ++ List.replicate (5 - (lg_sl [.ref (X 0), .int i, .int pa]).length) Slot.unset).toArray = ls at hl ⊢
  have hl : lv_has ls 5 [(0, .ref (X 0)), (1, .int i), (2, .int pa)] := hl
  refine lv_aload_n hx hb dX7_cancel_0 rfl (lv_at hl 0 rfl) ?_
  refine lv_iload_n hx hb dX7_cancel_1 rfl (lv_at hl 1 rfl) ?_
  refine hs_callV hC hs_Tok hW hL (ct_X7_find E hST t cap X d G hT _) cw_X7_find lk_X7_110 im_X7_find se_X7_find (hs_recv hC hW hT.house rfl) hl.1 (by decide) (Nat.le_of_ble_eq_true rfl) dX7_cancel_2 (hs_kor2 hnoh hlocks (by decide) (by decide) (fun C9 hC9 => Or.inr ⟨C9, Or.inl hC9, rfl, rfl, rfl, rfl⟩) (hs_kO (fun a9 G1 k n H locs hI hk hn hW hL => ?_)))
  obtain ⟨hta, hGG, rfl, rfl⟩ := hI
  rw [hGG] at hW
  clear hGG
  obtain ⟨nu9, te9, t9, s8, s9, st9, du9, ql9, am9, fa9, pr9, ip9, g9, hX, ht1, ht2, ht3, hg9⟩ := hT.tr hta
  refine lv_astore_n (lv' := [(3, .ref _), (0, .ref _), (1, .int _), (2, .int _)]) hx hb dX7_cancel_5 rfl hl (by decide) rfl (fun ls hl => ?_)
  refine lv_aload_n hx hb dX7_cancel_6 rfl (lv_at hl 0 rfl) ?_
  refine lv_iload_n hx hb dX7_cancel_7 rfl (lv_at hl 3 rfl) ?_
  refine hs_callS hC hs_Tok hW hL (ct_X7_findSide E hST t cap X d G hT a9 hta _) cw_X7_findSide lk_X7_114 st_X7_findSide hl.1 (by decide) (Nat.le_of_ble_eq_true rfl) dX7_cancel_8 (hs_kor2 hnoh hlocks (by decide) (by decide) (fun C9 hC9 => Or.inr ⟨C9, Or.inl hC9, rfl, rfl, rfl, rfl⟩) (hs_kO (fun s5 G1 k n H locs hI hk hn hW hL => ?_)))
  obtain ⟨hts, hGG, rfl, rfl⟩ := hI
  rw [hGG] at hW
  clear hGG
  obtain ⟨u5, v5, hS5⟩ := hT.si hts
  refine lv_astore (lv' := [(4, .ref _), (3, .ref _), (0, .ref _), (1, .int _), (2, .int _)]) hx hb dX7_cancel_11 hl (by decide) rfl (fun ls hl => ?_)
  refine lv_aload_n hx hb dX7_cancel_13 rfl (lv_at hl 1 rfl) ?_
  refine hs_callVN hC hs_Tok hW hL (ct_X5_isOpen E t cap X d G hT a9 hta) cw_X5_isOpen lk_X7_118 im_X5_isOpen se_X5_isOpen (hs_recv hC hW hX rfl) hl.1 (by decide) (Nat.le_of_ble_eq_true rfl) dX7_cancel_14 (hs_ke (fun x H locs hJ hW hL => ?_))
  refine hs_callS hC hs_Tok hW hL (ct_X7_checkState E hST G _) cw_X7_checkState lk_X7_62 st_X7_checkState hl.1 (by decide) (Nat.le_of_ble_eq_true rfl) dX7_cancel_17 (hs_kck hnoh hlocks (by decide) (by decide) (fun hno => Or.inr ⟨_, Or.inr rfl, rfl, rfl, rfl, rfl⟩) (fun hok17 H locs hW hL => ?_))
  refine lv_aload hx hb dX7_cancel_20 (lv_at hl 0 rfl) ?_
  refine lv_iconst (v := 1) hx hb dX7_cancel_22 (by decide) ?_
  refine hs_putN hC hW hL hi_X3 tyX3 tyX3_ok nmX3 rfl 1 (by decide) lk_X7_148 rfl rfl hS5 (hT.sz hts) rfl rfl (Nat.le_of_ble_eq_true rfl) dX7_cancel_23 (fun H locs hW hL => ?_)
  have hT1 := hT.pS hts u5 1
  obtain ⟨nu7, te7, t7, u6, u7, st7, du7, ql7, am7, fa7, pr7, ip7, g7, hX1, -⟩ := hT1.1.tr hta
  refine lv_aload_n hx hb dX7_cancel_26 rfl (lv_at hl 1 rfl) ?_
  refine hs_getN hC hW hi_X5 rfl 5 (by decide) lk_X7_151 rfl hX1 rfl dX7_cancel_27 ?_
  refine lv_if_eq (tgt := 40) hx hb dX7_cancel_30 (by decide) (fun c30 => ?_) (fun c30 => ?_)
  · refine lv_aload_n hx hb dX7_cancel_40 rfl (lv_at hl 1 rfl) ?_
    refine lv_iconst (v := 3) hx hb dX7_cancel_41 (by decide) ?_
    refine hs_callVN hC hs_Tok hW hL (ct_X5_end E t cap X d _ hT1.1 a9 hta h99 3 (by decide)) cw_X5_end lk_X7_157 im_X5_end se_X5_end (hs_recv hC hW hX1 rfl) hl.1 (by decide) (Nat.le_of_ble_eq_true rfl) dX7_cancel_42 (hs_kV (fun G2 k n H locs hI hk hn hW hL => ?_))
    obtain ⟨rfl, rfl, hT2, hF2⟩ := hI
    obtain ⟨nu6, te6, t6, w6, w7, st6, du6, ql6, am6, fa6, pr6, ip6, g6, hX2, -⟩ := hT2.tr hta
    refine lv_aload_n hx hb dX7_cancel_45 rfl (lv_at hl 1 rfl) ?_
    refine hs_getN hC hW hi_X5 rfl 5 (by decide) lk_X7_151 rfl hX2 rfl dX7_cancel_46 ?_
    exact hs_iret hC hW hL hr hlocks (by decide) (by decide) dX7_cancel_49 (Or.inl ⟨_, rfl, t, cap, hT2, (hT1.2.tr hF2), Nat.le_refl _, Nat.zero_le _, Nat.zero_le _⟩)
  refine lv_aload_n hx hb dX7_cancel_33 rfl (lv_at hl 1 rfl) ?_
  refine hs_callVN hC hs_Tok hW hL (ct_X5_bothWishToCancel E t cap X d _ hT1.1 a9 hta) cw_X5_bothWishToCancel lk_X7_154 im_X5_bothWishToCancel se_X5_bothWishToCancel (hs_recv hC hW hX1 rfl) hl.1 (by decide) (Nat.le_of_ble_eq_true rfl) dX7_cancel_34 (hs_ke (fun y H locs hJy hW hL => ?_))
  refine lv_if_eq (tgt := 45) hx hb dX7_cancel_37 (by decide) (fun c37 => ?_) (fun c37 => ?_)
  · refine lv_aload_n hx hb dX7_cancel_45 rfl (lv_at hl 1 rfl) ?_
    refine hs_getN hC hW hi_X5 rfl 5 (by decide) lk_X7_151 rfl hX1 rfl dX7_cancel_46 ?_
    exact hs_iret hC hW hL hr hlocks (by decide) (by decide) dX7_cancel_49 (Or.inl ⟨_, rfl, t, cap, hT1.1, hT1.2, Nat.le_refl _, Nat.zero_le _, Nat.zero_le _⟩)
  refine lv_aload_n hx hb dX7_cancel_40 rfl (lv_at hl 1 rfl) ?_
  refine lv_iconst (v := 3) hx hb dX7_cancel_41 (by decide) ?_
  refine hs_callVN hC hs_Tok hW hL (ct_X5_end E t cap X d _ hT1.1 a9 hta h99 3 (by decide)) cw_X5_end lk_X7_157 im_X5_end se_X5_end (hs_recv hC hW hX1 rfl) hl.1 (by decide) (Nat.le_of_ble_eq_true rfl) dX7_cancel_42 (hs_kV (fun G2 k n H locs hI hk hn hW hL => ?_))
  obtain ⟨rfl, rfl, hT2, hF2⟩ := hI
  obtain ⟨nu6, te6, t6, w6, w7, st6, du6, ql6, am6, fa6, pr6, ip6, g6, hX2, -⟩ := hT2.tr hta
  refine lv_aload_n hx hb dX7_cancel_45 rfl (lv_at hl 1 rfl) ?_
  refine hs_getN hC hW hi_X5 rfl 5 (by decide) lk_X7_151 rfl hX2 rfl dX7_cancel_46 ?_
  exact hs_iret hC hW hL hr hlocks (by decide) (by decide) dX7_cancel_49 (Or.inl ⟨_, rfl, t, cap, hT2, (hT1.2.tr hF2), Nat.le_refl _, Nat.zero_le _, Nat.zero_le _⟩)
set_option maxHeartbeats 4000000 in
set_option maxRecDepth 100000 in
/-- trade -/
theorem ct_X7_trade (E : hs_E) (hST : E.1.stackTraces = false) (t : cl_t) (cap X : Nat → Nat) (d : Nat) (G : hs_G) (hT : cl_T E t cap X d G) (i wh : Int32) : hM E yX7_trade ({ frames := 7, cells := 1, slots := 6, locals := 120 }) [.ref (X 0), .int i, .int wh] G (hs_or2 (hs_I (fun _ G1 k n => cl_M E t cap X (d) G 0 0 G1 k n)) G (fun C => C = "java/lang/IllegalArgumentException")) := by
  refine hs_ofW (cc := cX7_trade) (maxL := 4) (ret := (some .int)) (by decide) co_X7_trade ?_
  intro p e s m args below meth c hC hlocks hr hin0 hnoh hW
  obtain ⟨hx, hb, hml, hown, hts, -⟩ := id hC
  have hE := hW
  have hL : ∀ q ∈ ([] : List Loc), (eH E).size ≤ q.base := fun q hq => nomatch hq
  have hl := lv_entry ([.ref (X 0), .int i, .int wh] : List Value) (n := 4) (Nat.le_of_ble_eq_true rfl)
  rw [lg_entry_eq]
  generalize (lg_sl [.ref (X 0), .int i, .int wh] ++ List.replicate (4 - (lg_sl [.ref (X 0), .int i, .int wh]).length) Slot.unset).toArray = ls at hl ⊢
  have hl : lv_has ls 4 [(0, .ref (X 0)), (1, .int i), (2, .int wh)] := hl
  refine lv_aload_n hx hb dX7_trade_0 rfl (lv_at hl 0 rfl) ?_
  refine lv_iload_n hx hb dX7_trade_1 rfl (lv_at hl 1 rfl) ?_
  refine hs_callV hC hs_Tok hW hL (ct_X7_find E hST t cap X d G hT _) cw_X7_find lk_X7_110 im_X7_find se_X7_find (hs_recv hC hW hT.house rfl) hl.1 (by decide) (Nat.le_of_ble_eq_true rfl) dX7_trade_2 (hs_kor2 hnoh hlocks (by decide) (by decide) (fun C9 hC9 => Or.inr ⟨C9, hC9, rfl, rfl, rfl, rfl⟩) (hs_kO (fun a9 G1 k n H locs hI hk hn hW hL => ?_)))
  obtain ⟨hta, hGG, rfl, rfl⟩ := hI
  rw [hGG] at hW
  clear hGG
  obtain ⟨nu9, te9, t9, s8, s9, st9, du9, ql9, am9, fa9, pr9, ip9, g9, hX, ht1, ht2, ht3, hg9⟩ := hT.tr hta
  obtain ⟨de9, re9, se9, qq9, aa9, dy9, lg9, hTe, -⟩ := hT.te ht1
  refine lv_astore_n (lv' := [(3, .ref _), (0, .ref _), (1, .int _), (2, .int _)]) hx hb dX7_trade_5 rfl hl (by decide) rfl (fun ls hl => ?_)
  refine lv_iload_n hx hb dX7_trade_6 rfl (lv_at hl 3 rfl) ?_
  rcases (show ((wh).toInt < 0 ∨ 10 < (wh).toInt) ∨ (wh).toInt = 0 ∨ (wh).toInt = 1 ∨ (wh).toInt = 2 ∨ (wh).toInt = 3 ∨ (wh).toInt = 4 ∨ (wh).toInt = 5 ∨ (wh).toInt = 6 ∨ (wh).toInt = 7 ∨ (wh).toInt = 8 ∨ (wh).toInt = 9 ∨ (wh).toInt = 10 by omega) with c7 | c7 | c7 | c7 | c7 | c7 | c7 | c7 | c7 | c7 | c7 | c7
  · refine lv_tableOut (tgt := 150) hx hb dX7_trade_7 c7 (by decide) ?_
    exact hs_throw (names := hs_up2) hC (Or.inr hE.2.2) hW hL hlocks hST (by decide +kernel) tf_up2 lk_X7_188 ii_O_IllegalArgumentException ta_IAE tg_IAE hl.1 dX7_trade_150 dX7_trade_153 dX7_trade_154 dX7_trade_157 (fun x hx => (hnoh x hx).elim) (by decide) (by decide) (by decide) (Or.inr ⟨_, rfl, rfl, rfl, rfl, rfl⟩)
  · refine lv_tableIn (off := 57) (tgt := 64) hx hb dX7_trade_7 (by omega) (by omega) (by rw [c7]; rfl) (by decide) ?_
    refine lv_aload_n hx hb dX7_trade_64 rfl (lv_at hl 0 rfl) ?_
    refine hs_getN hC hW hi_X5 rfl 5 (by decide) lk_X7_151 rfl hX rfl dX7_trade_65 ?_
    exact hs_iret hC hW hL hr hlocks (by decide) (by decide) dX7_trade_68 (Or.inl ⟨_, rfl, t, cap, hT, cl_F.rf, Nat.le_refl _, Nat.zero_le _, Nat.zero_le _⟩)
  · refine lv_tableIn (off := 62) (tgt := 69) hx hb dX7_trade_7 (by omega) (by omega) (by rw [c7]; rfl) (by decide) ?_
    refine lv_aload_n hx hb dX7_trade_69 rfl (lv_at hl 0 rfl) ?_
    refine hs_getN hC hW hi_X5 rfl 6 (by decide) lk_X7_163 rfl hX rfl dX7_trade_70 ?_
    exact hs_iret hC hW hL hr hlocks (by decide) (by decide) dX7_trade_73 (Or.inl ⟨_, rfl, t, cap, hT, cl_F.rf, Nat.le_refl _, Nat.zero_le _, Nat.zero_le _⟩)
  · refine lv_tableIn (off := 67) (tgt := 74) hx hb dX7_trade_7 (by omega) (by omega) (by rw [c7]; rfl) (by decide) ?_
    refine lv_aload_n hx hb dX7_trade_74 rfl (lv_at hl 0 rfl) ?_
    refine hs_getN hC hW hi_X5 rfl 7 (by decide) lk_X7_166 rfl hX rfl dX7_trade_75 ?_
    exact hs_iret hC hW hL hr hlocks (by decide) (by decide) dX7_trade_78 (Or.inl ⟨_, rfl, t, cap, hT, cl_F.rf, Nat.le_refl _, Nat.zero_le _, Nat.zero_le _⟩)
  · refine lv_tableIn (off := 72) (tgt := 79) hx hb dX7_trade_7 (by omega) (by omega) (by rw [c7]; rfl) (by decide) ?_
    refine lv_aload_n hx hb dX7_trade_79 rfl (lv_at hl 0 rfl) ?_
    refine hs_getN hC hW hi_X5 rfl 8 (by decide) lk_X7_169 rfl hX rfl dX7_trade_80 ?_
    exact hs_iret hC hW hL hr hlocks (by decide) (by decide) dX7_trade_83 (Or.inl ⟨_, rfl, t, cap, hT, cl_F.rf, Nat.le_refl _, Nat.zero_le _, Nat.zero_le _⟩)
  · refine lv_tableIn (off := 77) (tgt := 84) hx hb dX7_trade_7 (by omega) (by omega) (by rw [c7]; rfl) (by decide) ?_
    refine lv_aload_n hx hb dX7_trade_84 rfl (lv_at hl 0 rfl) ?_
    refine hs_getN hC hW hi_X5 rfl 2 (by decide) lk_X7_172 rfl hX rfl dX7_trade_85 ?_
    refine hs_getN hC hW hi_X4 rfl 0 (by decide) lk_X7_176 rfl hTe rfl dX7_trade_88 ?_
    exact hs_iret hC hW hL hr hlocks (by decide) (by decide) dX7_trade_91 (Or.inl ⟨_, rfl, t, cap, hT, cl_F.rf, Nat.le_refl _, Nat.zero_le _, Nat.zero_le _⟩)
  · refine lv_tableIn (off := 85) (tgt := 92) hx hb dX7_trade_7 (by omega) (by omega) (by rw [c7]; rfl) (by decide) ?_
    refine lv_aload_n hx hb dX7_trade_92 rfl (lv_at hl 0 rfl) ?_
    refine hs_getN hC hW hi_X5 rfl 2 (by decide) lk_X7_172 rfl hX rfl dX7_trade_93 ?_
    refine hs_getN hC hW hi_X4 rfl 1 (by decide) lk_X7_179 rfl hTe rfl dX7_trade_96 ?_
    exact hs_iret hC hW hL hr hlocks (by decide) (by decide) dX7_trade_99 (Or.inl ⟨_, rfl, t, cap, hT, cl_F.rf, Nat.le_refl _, Nat.zero_le _, Nat.zero_le _⟩)
  · refine lv_tableIn (off := 93) (tgt := 100) hx hb dX7_trade_7 (by omega) (by omega) (by rw [c7]; rfl) (by decide) ?_
    refine lv_aload_n hx hb dX7_trade_100 rfl (lv_at hl 0 rfl) ?_
    refine hs_getN hC hW hi_X5 rfl 2 (by decide) lk_X7_172 rfl hX rfl dX7_trade_101 ?_
    refine hs_getN hC hW hi_X4 rfl 2 (by decide) lk_X7_182 rfl hTe rfl dX7_trade_104 ?_
    exact hs_iret hC hW hL hr hlocks (by decide) (by decide) dX7_trade_107 (Or.inl ⟨_, rfl, t, cap, hT, cl_F.rf, Nat.le_refl _, Nat.zero_le _, Nat.zero_le _⟩)
  · refine lv_tableIn (off := 101) (tgt := 108) hx hb dX7_trade_7 (by omega) (by omega) (by rw [c7]; rfl) (by decide) ?_
    refine lv_aload_n hx hb dX7_trade_108 rfl (lv_at hl 0 rfl) ?_
    refine hs_getN hC hW hi_X5 rfl 9 (by decide) lk_X7_185 rfl hX rfl dX7_trade_109 ?_
    exact hs_iret hC hW hL hr hlocks (by decide) (by decide) dX7_trade_112 (Or.inl ⟨_, rfl, t, cap, hT, cl_F.rf, Nat.le_refl _, Nat.zero_le _, Nat.zero_le _⟩)
  · refine lv_tableIn (off := 106) (tgt := 113) hx hb dX7_trade_7 (by omega) (by omega) (by rw [c7]; rfl) (by decide) ?_
    refine lv_aload_n hx hb dX7_trade_113 rfl (lv_at hl 0 rfl) ?_
    refine hs_getN hC hW hi_X5 rfl 10 (by decide) lk_X7_128 rfl hX rfl dX7_trade_114 ?_
    exact hs_iret hC hW hL hr hlocks (by decide) (by decide) dX7_trade_117 (Or.inl ⟨_, rfl, t, cap, hT, cl_F.rf, Nat.le_refl _, Nat.zero_le _, Nat.zero_le _⟩)
  · refine lv_tableIn (off := 111) (tgt := 118) hx hb dX7_trade_7 (by omega) (by omega) (by rw [c7]; rfl) (by decide) ?_
    rcases hg9 with rfl | ⟨y9, rfl, hy9⟩
    · refine lv_aload_n hx hb dX7_trade_118 rfl (lv_at hl 0 rfl) ?_
      refine hs_getN hC hW hi_X5 rfl 12 (by decide) lk_X7_134 rfl hX rfl dX7_trade_119 ?_
      refine lv_ifnonnullN hx hb dX7_trade_122 ?_
      refine lv_iconst (v := 0) hx hb dX7_trade_125 (by decide) ?_
      refine lv_goto (tgt := 136) hx hb dX7_trade_126 (by decide) ?_
      exact hs_iret hC hW hL hr hlocks (by decide) (by decide) dX7_trade_136 (Or.inl ⟨_, rfl, t, cap, hT, cl_F.rf, Nat.le_refl _, Nat.zero_le _, Nat.zero_le _⟩)
    · refine lv_aload_n hx hb dX7_trade_118 rfl (lv_at hl 0 rfl) ?_
      refine hs_getN hC hW hi_X5 rfl 12 (by decide) lk_X7_134 rfl hX rfl dX7_trade_119 ?_
      refine lv_ifnonnull (tgt := 129) hx hb dX7_trade_122 (by decide) ?_
      obtain ⟨Ly, hGy, -⟩ := hT.gr hy9
      refine lv_aload_n hx hb dX7_trade_129 rfl (lv_at hl 0 rfl) ?_
      refine hs_getN hC hW hi_X5 rfl 12 (by decide) lk_X7_134 rfl hX rfl dX7_trade_130 ?_
      refine hs_callVN hC hs_Tok hW hL (ct_X1_size E t cap X d G hT y9 hy9) cw_X1_size lk_X7_141 im_X1_size se_X1_size (hs_recv hC hW hGy rfl) hl.1 (by decide) (Nat.le_of_ble_eq_true rfl) dX7_trade_133 (hs_ke (fun x H locs hJ hW hL => ?_))
      exact hs_iret hC hW hL hr hlocks (by decide) (by decide) dX7_trade_136 (Or.inl ⟨_, rfl, t, cap, hT, cl_F.rf, Nat.le_refl _, Nat.zero_le _, Nat.zero_le _⟩)
  · refine lv_tableIn (off := 130) (tgt := 137) hx hb dX7_trade_7 (by omega) (by omega) (by rw [c7]; rfl) (by decide) ?_
    refine lv_aload_n hx hb dX7_trade_137 rfl (lv_at hl 0 rfl) ?_
    refine hs_getN hC hW hi_X5 rfl 11 (by decide) lk_X7_131 rfl hX rfl dX7_trade_138 ?_
    refine lv_if_eq (tgt := 148) hx hb dX7_trade_141 (by decide) (fun c141 => ?_) (fun c141 => ?_)
    · refine lv_iconst (v := 0) hx hb dX7_trade_148 (by decide) ?_
      exact hs_iret hC hW hL hr hlocks (by decide) (by decide) dX7_trade_149 (Or.inl ⟨_, rfl, t, cap, hT, cl_F.rf, Nat.le_refl _, Nat.zero_le _, Nat.zero_le _⟩)
    refine lv_iconst (v := 1) hx hb dX7_trade_144 (by decide) ?_
    refine lv_goto (tgt := 149) hx hb dX7_trade_145 (by decide) ?_
    exact hs_iret hC hW hL hr hlocks (by decide) (by decide) dX7_trade_149 (Or.inl ⟨_, rfl, t, cap, hT, cl_F.rf, Nat.le_refl _, Nat.zero_le _, Nat.zero_le _⟩)
