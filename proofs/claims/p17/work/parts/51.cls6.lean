/-! the class: a day of the house -/
set_option maxHeartbeats 4000000 in
set_option maxRecDepth 100000 in
/-- settleCoveredGroups -/
theorem ct_X7_settleCoveredGroups (E : hs_E) (t : cl_t) (cap X : Nat → Nat) (d : Nat) (G : hs_G) (hT : cl_T E t cap X d G) (h99 : X 99 = 0) (hJ : vJ X) (hB : X 97 ≤ 1152921504606846976) : hM E yX7_settleCoveredGroups ({ frames := 6, cells := 0, slots := 0, locals := 190 }) [.ref (X 0)] G (hs_I (fun _ G1 k n => cl_0Y E t cap X d G G1 k n)) := by
  refine hs_ofW (cc := cX7_settleCoveredGroups) (maxL := 4) (ret := (some .int)) (by decide) co_X7_settleCoveredGroups ?_
  intro p e s m args below meth c hC hlocks hr hin0 hnoh hW
  obtain ⟨hx, hb, hml, hown, hts, -⟩ := id hC
  have hE := hW
  have hL : ∀ q ∈ ([] : List Loc), (eH E).size ≤ q.base := fun q hq => nomatch hq
  have hl := lv_entry ([.ref (X 0)] : List Value) (n := 4) (Nat.le_of_ble_eq_true rfl)
  rw [lg_entry_eq]
  generalize (lg_sl [.ref (X 0)] ++ List.replicate (4 - (lg_sl [.ref (X 0)]).length) Slot.unset).toArray = ls at hl ⊢
  have hl : lv_has ls 4 [(0, .ref (X 0))] := hl
  refine lv_iconst (v := 0) hx hb dX7_settleCoveredGroups_0 (by decide) ?_
  refine lv_istore_n (lv' := [(1, .int _), (0, .ref _)]) hx hb dX7_settleCoveredGroups_1 rfl hl (by decide) rfl (fun ls hl => ?_)
  refine lv_iconst (v := 0) hx hb dX7_settleCoveredGroups_2 (by decide) ?_
  refine lv_istore_n (lv' := [(2, .int _), (1, .int _), (0, .ref _)]) hx hb dX7_settleCoveredGroups_3 rfl hl (by decide) rfl (fun ls hl => ?_)
  refine hs_loop (σ := Nat × Int32 × hs_G × (Nat → Nat)) (fun x => match x with | (i, ac, G1, Y) => 150 - i) (fun x H locs ls => match x with | (i, ac, G1, Y) => (i ≤ 150 ∧ cl_T E t cap Y d G1 ∧ cl_F t G t G1 ∧ (∀ n, n < 100 → Y n = X n) ∧ vJ Y) ∧ hs_W (eD E) vwCl (eH E) (G1) H ∧ (∀ q ∈ locs, (eH E).size ≤ q.base) ∧ lv_has ls 4 [(0, .ref (X 0)), (1, .int ac), (2, .int (nI i))]) ?_ (0, _, G, X) _ _ _ ⟨⟨Nat.zero_le _, hT, cl_F.rf, fun _ _ => rfl, hJ⟩, hW, hL, (lv_sub hl [2, 1, 0] rfl)⟩
  rintro ⟨i, ac, G1, Y⟩ H locs ls ⟨hinv, hW, hL, hl⟩ ih
  replace hW : hs_W (eD E) vwCl (eH E) (G1) H := hW
  replace hl : lv_has ls 4 [(0, .ref (X 0)), (1, .int ac), (2, .int (nI i))] := hl
  obtain ⟨hi9, hTY, hFY, hY, hJY⟩ := hinv
  have h9Y : Y 99 = 0 := (hY 99 (by decide)).trans h99
  have hBY : Y 97 ≤ 1152921504606846976 := by rw [hY 97 (by decide)]; exact hB
  have hH := hTY.houseY hY
  obtain ⟨mc9, A9, sz9, f9, hLo, hLa, hsc, hmx, hcp, hel, hAA⟩ := hTY.l9Y hY
  refine lv_iload_n hx hb dX7_settleCoveredGroups_4 rfl (lv_at hl 2 rfl) ?_
  refine lv_aload_n hx hb dX7_settleCoveredGroups_5 rfl (lv_at hl 0 rfl) ?_
  refine hs_get hC hW hi_X7 rfl 4 (by decide) lk_X7_37 rfl hH rfl dX7_settleCoveredGroups_6 ?_
  refine hs_callV hC hs_Tok hW hL (ct_size E G1 (X 9) A9 sz9 mc9 hLo) cw_Jx4a65c_size_8abf5 lk_X7_81 im_Jx4a65c_size_8abf5 se_Jx4a65c_size_8abf5 (hs_recv hC hW hLo rfl) hl.1 (by decide) (Nat.le_of_ble_eq_true rfl) dX7_settleCoveredGroups_9 (hs_kp1 (fun H locs hW hL => ?_))
  refine lv_icmp_ge (tgt := 56) hx hb dX7_settleCoveredGroups_12 (by decide) (fun c12 => ?_) (fun c12 => ?_)
  · refine lv_iload_n hx hb dX7_settleCoveredGroups_56 rfl (lv_at hl 1 rfl) ?_
    exact hs_iret hC hW hL hr hlocks (by decide) (by decide) dX7_settleCoveredGroups_57 ⟨_, rfl, rfl, rfl, ⟨Y, hTY, hY, hJY⟩, hFY⟩
  have hlt : i < sz9 := Nat.not_le.mp fun z => c12 ((nI_leI (by omega) (by omega)).mpr z)
  obtain ⟨x9, hfx, htx⟩ := hel i hlt
  obtain ⟨L8, hGx, hLt8⟩ := hTY.gr htx
  obtain ⟨mc8, A8, sz8, f8, hLo8, hLa8, hsc8, hmx8, hcp8, hel8, hAA8⟩ := hTY.l54 hLt8
  have hic := ct_X7_isCovered E t cap Y d G1 hTY x9 L8 A8 sz8 mc8 f8 hGx hLo8 hLa8 hsc8 hmx8 hcp8 hel8 hJY hBY
  rw [hY 0 (by decide)] at hic
  refine lv_aload_n hx hb dX7_settleCoveredGroups_15 rfl (lv_at hl 0 rfl) ?_
  refine hs_get hC hW hi_X7 rfl 4 (by decide) lk_X7_37 rfl hH rfl dX7_settleCoveredGroups_16 ?_
  refine lv_iload_n hx hb dX7_settleCoveredGroups_19 rfl (lv_at hl 2 rfl) ?_
  refine hs_callV hC hs_Tok hW hL (ct_get E G1 (X 9) A9 sz9 mc9 hLo (cap (X 9)) f9 hLa (by omega) i x9 hlt hsc hfx) cw_Jx4a65c_get_915e3 lk_X7_202 im_Jx4a65c_get_915e3 se_Jx4a65c_get_915e3 (hs_recv hC hW hLo rfl) hl.1 (by decide) (Nat.le_of_ble_eq_true rfl) dX7_settleCoveredGroups_20 (hs_kp1 (fun H locs hW hL => ?_))
  refine hs_cast hC hW lk_X7_142 ca_X1_X1 hGx rfl dX7_settleCoveredGroups_23 ?_
  refine lv_astore_n (lv' := [(3, .ref _), (0, .ref _), (1, .int _), (2, .int _)]) hx hb dX7_settleCoveredGroups_26 rfl hl (by decide) rfl (fun ls hl => ?_)
  refine lv_aload_n hx hb dX7_settleCoveredGroups_27 rfl (lv_at hl 0 rfl) ?_
  refine hs_callVN hC hs_Tok hW hL (ct_X1_sizeF E t cap Y d G1 hTY x9 L8 A8 sz8 mc8 hGx hLo8) cw_X1_size lk_X7_141 im_X1_size se_X1_size (hs_recv hC hW hGx rfl) hl.1 (by decide) (Nat.le_of_ble_eq_true rfl) dX7_settleCoveredGroups_28 (hs_kp1 (fun H locs hW hL => ?_))
  refine lv_if_le (tgt := 50) hx hb dX7_settleCoveredGroups_31 (by decide) (fun c31 => ?_) (fun c31 => ?_)
  · refine lv_iinc (lv' := [(2, .int _), (3, .ref _), (0, .ref _), (1, .int _)]) hx hb dX7_settleCoveredGroups_50 hl (k := 3) rfl rfl (by decide) rfl (fun ls hl => ?_)
    refine lv_goto (tgt := 4) hx hb dX7_settleCoveredGroups_53 (by decide) ?_
    rw [hs_inc] at hl
    exact ih (i + 1, _, G1, Y) _ _ _ (by show 150 - (i + 1) < 150 - i; omega) ⟨⟨by omega, hTY, hFY, hY, hJY⟩, hW, hL, (lv_sub hl [2, 3, 0] rfl)⟩
  refine lv_aload_n hx hb dX7_settleCoveredGroups_34 rfl (lv_at hl 1 rfl) ?_
  refine lv_aload_n hx hb dX7_settleCoveredGroups_35 rfl (lv_at hl 0 rfl) ?_
  refine hs_callV hC hs_Tok hW hL hic cw_X7_isCovered lk_X7_269 im_X7_isCovered se_X7_isCovered (hs_recv hC hW hH rfl) hl.1 (by decide) (Nat.le_of_ble_eq_true rfl) dX7_settleCoveredGroups_36 (hs_ke (fun y H locs hJy hW hL => ?_))
  refine lv_if_eq (tgt := 50) hx hb dX7_settleCoveredGroups_39 (by decide) (fun c39 => ?_) (fun c39 => ?_)
  · refine lv_iinc (lv' := [(2, .int _), (3, .ref _), (0, .ref _), (1, .int _)]) hx hb dX7_settleCoveredGroups_50 hl (k := 3) rfl rfl (by decide) rfl (fun ls hl => ?_)
    refine lv_goto (tgt := 4) hx hb dX7_settleCoveredGroups_53 (by decide) ?_
    rw [hs_inc] at hl
    exact ih (i + 1, _, G1, Y) _ _ _ (by show 150 - (i + 1) < 150 - i; omega) ⟨⟨by omega, hTY, hFY, hY, hJY⟩, hW, hL, (lv_sub hl [2, 3, 0] rfl)⟩
  have hsw := ct_X7_settleWholly E t cap Y d G1 hTY x9 L8 A8 sz8 mc8 f8 hLt8 hGx hLo8 hLa8 hsc8 hmx8 hcp8 hel8 hAA8 htx h9Y hJY hBY (hJy.2 (hJy.1.resolve_left c39))
  rw [hY 0 (by decide)] at hsw
  refine lv_iload_n hx hb dX7_settleCoveredGroups_42 rfl (lv_at hl 2 rfl) ?_
  refine lv_aload_n hx hb dX7_settleCoveredGroups_43 rfl (lv_at hl 1 rfl) ?_
  refine lv_aload_n hx hb dX7_settleCoveredGroups_44 rfl (lv_at hl 0 rfl) ?_
  refine hs_callV hC hs_Tok hW hL hsw cw_X7_settleWholly lk_X7_273 im_X7_settleWholly se_X7_settleWholly (hs_recv hC hW hH rfl) hl.1 (by decide) (Nat.le_of_ble_eq_true rfl) dX7_settleCoveredGroups_45 (hs_kI (fun z G2 k n H locs hI hk hn hW hL => ?_))
  obtain ⟨rfl, rfl, ⟨Y2, hT2, hY2, hJ2⟩, hF2⟩ := hI
  have hY3 : ∀ n, n < 100 → Y2 n = X n := fun n hn => (hY2 n hn).trans (hY n hn)
  refine lv_iadd hx hb dX7_settleCoveredGroups_48 ?_
  refine lv_istore_n (lv' := [(1, .int _), (3, .ref _), (0, .ref _), (2, .int _)]) hx hb dX7_settleCoveredGroups_49 rfl hl (by decide) rfl (fun ls hl => ?_)
  refine lv_iinc (lv' := [(2, .int _), (1, .int _), (3, .ref _), (0, .ref _)]) hx hb dX7_settleCoveredGroups_50 hl (k := 3) rfl rfl (by decide) rfl (fun ls hl => ?_)
  refine lv_goto (tgt := 4) hx hb dX7_settleCoveredGroups_53 (by decide) ?_
  rw [hs_inc] at hl
  exact ih (i + 1, _, G2, Y2) _ _ _ (by show 150 - (i + 1) < 150 - i; omega) ⟨⟨by omega, hT2, hFY.tr hF2, hY3, hJ2⟩, hW, hL, (lv_sub hl [3, 1, 0] rfl)⟩
set_option maxHeartbeats 4000000 in
set_option maxRecDepth 100000 in
/-- settleParts -/
theorem ct_X7_settleParts (E : hs_E) (t : cl_t) (cap X : Nat → Nat) (d : Nat) (G : hs_G) (hT : cl_T E t cap X d G) (h99 : X 99 = 0) (hJ : vJ X) (hB : X 97 ≤ 1152921504606846976) : hM E yX7_settleParts ({ frames := 3, cells := 0, slots := 0, locals := 110 }) [.ref (X 0)] G (hs_V (cl_0Y E t cap X d G)) := by
  refine hs_ofW (cc := cX7_settleParts) (maxL := 3) (ret := none) (by decide) co_X7_settleParts ?_
  intro p e s m args below meth c hC hlocks hr hin0 hnoh hW
  obtain ⟨hx, hb, hml, hown, hts, -⟩ := id hC
  have hE := hW
  have hL : ∀ q ∈ ([] : List Loc), (eH E).size ≤ q.base := fun q hq => nomatch hq
  have hl := lv_entry ([.ref (X 0)] : List Value) (n := 3) (Nat.le_of_ble_eq_true rfl)
  rw [lg_entry_eq]
  generalize (lg_sl [.ref (X 0)] ++ List.replicate (3 - (lg_sl [.ref (X 0)]).length) Slot.unset).toArray = ls at hl ⊢
  have hl : lv_has ls 3 [(0, .ref (X 0))] := hl
  refine lv_iconst (v := 0) hx hb dX7_settleParts_0 (by decide) ?_
  refine lv_istore_n (lv' := [(1, .int _), (0, .ref _)]) hx hb dX7_settleParts_1 rfl hl (by decide) rfl (fun ls hl => ?_)
  refine hs_loop (σ := Nat × hs_G × (Nat → Nat)) (fun x => match x with | (i, G1, Y) => 150 - i) (fun x H locs ls => match x with | (i, G1, Y) => (i ≤ 150 ∧ cl_T E t cap Y d G1 ∧ cl_F t G t G1 ∧ (∀ n, n < 100 → Y n = X n) ∧ vJ Y) ∧ hs_W (eD E) vwCl (eH E) (G1) H ∧ (∀ q ∈ locs, (eH E).size ≤ q.base) ∧ lv_has ls 3 [(0, .ref (X 0)), (1, .int (nI i))]) ?_ (0, G, X) _ _ _ ⟨⟨Nat.zero_le _, hT, cl_F.rf, fun _ _ => rfl, hJ⟩, hW, hL, (lv_sub hl [1, 0] rfl)⟩
  rintro ⟨i, G1, Y⟩ H locs ls ⟨hinv, hW, hL, hl⟩ ih
  replace hW : hs_W (eD E) vwCl (eH E) (G1) H := hW
  replace hl : lv_has ls 3 [(0, .ref (X 0)), (1, .int (nI i))] := hl
  obtain ⟨hi9, hTY, hFY, hY, hJY⟩ := hinv
  have h9Y : Y 99 = 0 := (hY 99 (by decide)).trans h99
  have hBY : Y 97 ≤ 1152921504606846976 := by rw [hY 97 (by decide)]; exact hB
  have hH := hTY.houseY hY
  obtain ⟨mc9, A9, sz9, f9, hLo, hLa, hsc, hmx, hcp, hel, hAA⟩ := hTY.l9Y hY
  refine lv_iload_n hx hb dX7_settleParts_2 rfl (lv_at hl 1 rfl) ?_
  refine lv_aload_n hx hb dX7_settleParts_3 rfl (lv_at hl 0 rfl) ?_
  refine hs_get hC hW hi_X7 rfl 4 (by decide) lk_X7_37 rfl hH rfl dX7_settleParts_4 ?_
  refine hs_callV hC hs_Tok hW hL (ct_size E G1 (X 9) A9 sz9 mc9 hLo) cw_Jx4a65c_size_8abf5 lk_X7_81 im_Jx4a65c_size_8abf5 se_Jx4a65c_size_8abf5 (hs_recv hC hW hLo rfl) hl.1 (by decide) (Nat.le_of_ble_eq_true rfl) dX7_settleParts_7 (hs_kp1 (fun H locs hW hL => ?_))
  refine lv_icmp_ge (tgt := 57) hx hb dX7_settleParts_10 (by decide) (fun c10 => ?_) (fun c10 => ?_)
  · exact hs_vret hC hW hL hr hlocks (by decide) (by decide) dX7_settleParts_57 ⟨rfl, rfl, rfl, ⟨Y, hTY, hY, hJY⟩, hFY⟩
  have hlt : i < sz9 := Nat.not_le.mp fun z => c10 ((nI_leI (by omega) (by omega)).mpr z)
  obtain ⟨x9, hfx, htx⟩ := hel i hlt
  obtain ⟨L8, hGx, hLt8⟩ := hTY.gr htx
  obtain ⟨mc8, A8, sz8, f8, hLo8, hLa8, hsc8, hmx8, hcp8, hel8, hAA8⟩ := hTY.l54 hLt8
  refine lv_aload_n hx hb dX7_settleParts_13 rfl (lv_at hl 0 rfl) ?_
  refine hs_get hC hW hi_X7 rfl 4 (by decide) lk_X7_37 rfl hH rfl dX7_settleParts_14 ?_
  refine lv_iload_n hx hb dX7_settleParts_17 rfl (lv_at hl 1 rfl) ?_
  refine hs_callV hC hs_Tok hW hL (ct_get E G1 (X 9) A9 sz9 mc9 hLo (cap (X 9)) f9 hLa (by omega) i x9 hlt hsc hfx) cw_Jx4a65c_get_915e3 lk_X7_202 im_Jx4a65c_get_915e3 se_Jx4a65c_get_915e3 (hs_recv hC hW hLo rfl) hl.1 (by decide) (Nat.le_of_ble_eq_true rfl) dX7_settleParts_18 (hs_kp1 (fun H locs hW hL => ?_))
  refine hs_cast hC hW lk_X7_142 ca_X1_X1 hGx rfl dX7_settleParts_21 ?_
  refine lv_astore_n (lv' := [(2, .ref _), (0, .ref _), (1, .int _)]) hx hb dX7_settleParts_24 rfl hl (by decide) rfl (fun ls hl => ?_)
  refine lv_aload_n hx hb dX7_settleParts_25 rfl (lv_at hl 0 rfl) ?_
  refine hs_getN hC hW hi_X1 rfl 0 (by decide) lk_X7_277 rfl hGx rfl dX7_settleParts_26 ?_
  refine hs_callV hC hs_Tok hW hL (ct_size E G1 L8 A8 sz8 mc8 hLo8) cw_Jx4a65c_size_8abf5 lk_X7_81 im_Jx4a65c_size_8abf5 se_Jx4a65c_size_8abf5 (hs_recv hC hW hLo8 rfl) hl.1 (by decide) (Nat.le_of_ble_eq_true rfl) dX7_settleParts_29 (hs_kp1 (fun H locs hW hL => ?_))
  refine lv_iconst (v := 1) hx hb dX7_settleParts_32 (by decide) ?_
  refine lv_icmp_ne (tgt := 51) hx hb dX7_settleParts_33 (by decide) (fun c33 => ?_) (fun c33 => ?_)
  · refine lv_iinc (lv' := [(1, .int _), (2, .ref _), (0, .ref _)]) hx hb dX7_settleParts_51 hl (k := 2) rfl rfl (by decide) rfl (fun ls hl => ?_)
    refine lv_goto (tgt := 2) hx hb dX7_settleParts_54 (by decide) ?_
    rw [hs_inc] at hl
    exact ih (i + 1, G1, Y) _ _ _ (by show 150 - (i + 1) < 150 - i; omega) ⟨⟨by omega, hTY, hFY, hY, hJY⟩, hW, hL, (lv_sub hl [2, 0] rfl)⟩
  have hlt8 : 0 < sz8 := by rcases Nat.eq_zero_or_pos sz8 with z | z; (exact absurd c33 (by rw [z]; decide +kernel)); exact z
  obtain ⟨y9, hfy, hty⟩ := hel8 0 hlt8
  obtain ⟨nu9, te9, t9, s8, s9, st9, du9, ql9, am9, fa9, pr9, ip9, g9, hX, ht1, ht2, ht3, hg9⟩ := hTY.tr hty
  have hsp := ct_X7_settlePartOf E t cap Y d G1 hTY y9 hty hJY hBY
  rw [hY 0 (by decide)] at hsp
  refine lv_aload_n hx hb dX7_settleParts_36 rfl (lv_at hl 1 rfl) ?_
  refine lv_aload_n hx hb dX7_settleParts_37 rfl (lv_at hl 0 rfl) ?_
  refine hs_getN hC hW hi_X1 rfl 0 (by decide) lk_X7_277 rfl hGx rfl dX7_settleParts_38 ?_
  refine lv_iconst (v := 0) hx hb dX7_settleParts_41 (by decide) ?_
  rw [show (0 : Int32) = nI 0 by decide +kernel]
  refine hs_callV hC hs_Tok hW hL (ct_get E G1 L8 A8 sz8 mc8 hLo8 (cap L8) f8 hLa8 (by omega) 0 y9 hlt8 hsc8 hfy) cw_Jx4a65c_get_915e3 lk_X7_202 im_Jx4a65c_get_915e3 se_Jx4a65c_get_915e3 (hs_recv hC hW hLo8 rfl) hl.1 (by decide) (Nat.le_of_ble_eq_true rfl) dX7_settleParts_42 (hs_kp1 (fun H locs hW hL => ?_))
  refine hs_cast hC hW lk_X7_99 ca_X5_X5 hX rfl dX7_settleParts_45 ?_
  refine hs_callV hC hs_Tok hW hL hsp cw_X7_settlePartOf lk_X7_297 im_X7_settlePartOf se_X7_settlePartOf (hs_recv hC hW hH rfl) hl.1 (by decide) (Nat.le_of_ble_eq_true rfl) dX7_settleParts_48 (hs_kV (fun G2 k n H locs hI hk hn hW hL => ?_))
  obtain ⟨rfl, rfl, ⟨Y2, hT2, hY2, hJ2⟩, hF2⟩ := hI
  have hY3 : ∀ n, n < 100 → Y2 n = X n := fun n hn => (hY2 n hn).trans (hY n hn)
  refine lv_iinc (lv' := [(1, .int _), (2, .ref _), (0, .ref _)]) hx hb dX7_settleParts_51 hl (k := 2) rfl rfl (by decide) rfl (fun ls hl => ?_)
  refine lv_goto (tgt := 2) hx hb dX7_settleParts_54 (by decide) ?_
  rw [hs_inc] at hl
  exact ih (i + 1, G2, Y2) _ _ _ (by show 150 - (i + 1) < 150 - i; omega) ⟨⟨by omega, hT2, hFY.tr hF2, hY3, hJ2⟩, hW, hL, (lv_sub hl [2, 0] rfl)⟩
set_option maxHeartbeats 4000000 in
set_option maxRecDepth 100000 in
/-- failDueTrades -/
theorem ct_X7_failDueTrades (E : hs_E) (t : cl_t) (cap X : Nat → Nat) (d : Nat) (G : hs_G) (hT : cl_T E t cap X d G) (h99 : X 99 = 0) : hM E yX7_failDueTrades ({ frames := 5, cells := 0, slots := 0, locals := 160 }) [.ref (X 0)] G (hs_V (cl_0 E t cap X d G)) := by
  refine hs_ofW (cc := cX7_failDueTrades) (maxL := 3) (ret := none) (by decide) co_X7_failDueTrades ?_
  intro p e s m args below meth c hC hlocks hr hin0 hnoh hW
  obtain ⟨hx, hb, hml, hown, hts, -⟩ := id hC
  have hE := hW
  have hL : ∀ q ∈ ([] : List Loc), (eH E).size ≤ q.base := fun q hq => nomatch hq
  have hl := lv_entry ([.ref (X 0)] : List Value) (n := 3) (Nat.le_of_ble_eq_true rfl)
  rw [lg_entry_eq]
  generalize (lg_sl [.ref (X 0)] ++ List.replicate (3 - (lg_sl [.ref (X 0)]).length) Slot.unset).toArray = ls at hl ⊢
  have hl : lv_has ls 3 [(0, .ref (X 0))] := hl
  refine lv_iconst (v := 0) hx hb dX7_failDueTrades_0 (by decide) ?_
  refine lv_istore_n (lv' := [(1, .int _), (0, .ref _)]) hx hb dX7_failDueTrades_1 rfl hl (by decide) rfl (fun ls hl => ?_)
  refine hs_loop (σ := Nat × hs_G) (fun x => match x with | (i, G1) => 150 - i) (fun x H locs ls => match x with | (i, G1) => (i ≤ 150 ∧ cl_T E t cap X d G1 ∧ cl_F t G t G1) ∧ hs_W (eD E) vwCl (eH E) (G1) H ∧ (∀ q ∈ locs, (eH E).size ≤ q.base) ∧ lv_has ls 3 [(0, .ref (X 0)), (1, .int (nI i))]) ?_ (0, G) _ _ _ ⟨⟨Nat.zero_le _, hT, cl_F.rf⟩, hW, hL, (lv_sub hl [1, 0] rfl)⟩
  rintro ⟨i, G1⟩ H locs ls ⟨hinv, hW, hL, hl⟩ ih
  replace hW : hs_W (eD E) vwCl (eH E) (G1) H := hW
  replace hl : lv_has ls 3 [(0, .ref (X 0)), (1, .int (nI i))] := hl
  obtain ⟨hi9, hinv⟩ := hinv
  obtain ⟨mc9, A9, sz9, f9, hLo, hLa, hsc, hmx, hcp, hel, hAA⟩ := hinv.1.l8
  refine lv_iload_n hx hb dX7_failDueTrades_2 rfl (lv_at hl 1 rfl) ?_
  refine lv_aload_n hx hb dX7_failDueTrades_3 rfl (lv_at hl 0 rfl) ?_
  refine hs_get hC hW hi_X7 rfl 3 (by decide) lk_X7_33 rfl hinv.1.house rfl dX7_failDueTrades_4 ?_
  refine hs_callV hC hs_Tok hW hL (ct_size E G1 (X 8) A9 sz9 mc9 hLo) cw_Jx4a65c_size_8abf5 lk_X7_81 im_Jx4a65c_size_8abf5 se_Jx4a65c_size_8abf5 (hs_recv hC hW hLo rfl) hl.1 (by decide) (Nat.le_of_ble_eq_true rfl) dX7_failDueTrades_7 (hs_kp1 (fun H locs hW hL => ?_))
  refine lv_icmp_ge (tgt := 77) hx hb dX7_failDueTrades_10 (by decide) (fun c10 => ?_) (fun c10 => ?_)
  · exact hs_vret hC hW hL hr hlocks (by decide) (by decide) dX7_failDueTrades_77 ⟨rfl, rfl, rfl, hinv⟩
  have hlt : i < sz9 := Nat.not_le.mp fun z => c10 ((nI_leI (by omega) (by omega)).mpr z)
  obtain ⟨x9, hfx, htx⟩ := hel i hlt
  obtain ⟨nu9, te9, t9, s8, s9, st9, du9, ql9, am9, fa9, pr9, ip9, g9, hX, ht1, ht2, ht3, hg9⟩ := hinv.1.tr htx
  refine lv_aload_n hx hb dX7_failDueTrades_13 rfl (lv_at hl 0 rfl) ?_
  refine hs_get hC hW hi_X7 rfl 3 (by decide) lk_X7_33 rfl hinv.1.house rfl dX7_failDueTrades_14 ?_
  refine lv_iload_n hx hb dX7_failDueTrades_17 rfl (lv_at hl 1 rfl) ?_
  refine hs_callV hC hs_Tok hW hL (ct_get E G1 (X 8) A9 sz9 mc9 hLo (cap (X 8)) f9 hLa (by omega) i x9 hlt hsc hfx) cw_Jx4a65c_get_915e3 lk_X7_202 im_Jx4a65c_get_915e3 se_Jx4a65c_get_915e3 (hs_recv hC hW hLo rfl) hl.1 (by decide) (Nat.le_of_ble_eq_true rfl) dX7_failDueTrades_18 (hs_kp1 (fun H locs hW hL => ?_))
  refine hs_cast hC hW lk_X7_99 ca_X5_X5 hX rfl dX7_failDueTrades_21 ?_
  refine lv_astore_n (lv' := [(2, .ref _), (0, .ref _), (1, .int _)]) hx hb dX7_failDueTrades_24 rfl hl (by decide) rfl (fun ls hl => ?_)
  refine lv_aload_n hx hb dX7_failDueTrades_25 rfl (lv_at hl 0 rfl) ?_
  refine hs_getN hC hW hi_X5 rfl 5 (by decide) lk_X7_151 rfl hX rfl dX7_failDueTrades_26 ?_
  refine lv_iconst (v := 1) hx hb dX7_failDueTrades_29 (by decide) ?_
  refine lv_icmp_ne (tgt := 71) hx hb dX7_failDueTrades_30 (by decide) (fun c30 => ?_) (fun c30 => ?_)
  · refine lv_iinc (lv' := [(1, .int _), (2, .ref _), (0, .ref _)]) hx hb dX7_failDueTrades_71 hl (k := 2) rfl rfl (by decide) rfl (fun ls hl => ?_)
    refine lv_goto (tgt := 2) hx hb dX7_failDueTrades_74 (by decide) ?_
    rw [hs_inc] at hl
    exact ih (i + 1, G1) _ _ _ (by show 150 - (i + 1) < 150 - i; omega) ⟨⟨by omega, hinv⟩, hW, hL, (lv_sub hl [2, 0] rfl)⟩
  refine lv_aload_n hx hb dX7_failDueTrades_33 rfl (lv_at hl 0 rfl) ?_
  refine hs_getN hC hW hi_X5 rfl 6 (by decide) lk_X7_163 rfl hX rfl dX7_failDueTrades_34 ?_
  refine lv_aload_n hx hb dX7_failDueTrades_37 rfl (lv_at hl 1 rfl) ?_
  refine hs_get hC hW hi_X7 rfl 0 (by decide) lk_X7_12 rfl hinv.1.house rfl dX7_failDueTrades_38 ?_
  refine hs_getN hC hW hi_X0 rfl 1 (by decide) lk_X7_69 rfl hinv.1.days rfl dX7_failDueTrades_41 ?_
  refine lv_icmp_gt (tgt := 71) hx hb dX7_failDueTrades_44 (by decide) (fun c44 => ?_) (fun c44 => ?_)
  · refine lv_iinc (lv' := [(1, .int _), (2, .ref _), (0, .ref _)]) hx hb dX7_failDueTrades_71 hl (k := 2) rfl rfl (by decide) rfl (fun ls hl => ?_)
    refine lv_goto (tgt := 2) hx hb dX7_failDueTrades_74 (by decide) ?_
    rw [hs_inc] at hl
    exact ih (i + 1, G1) _ _ _ (by show 150 - (i + 1) < 150 - i; omega) ⟨⟨by omega, hinv⟩, hW, hL, (lv_sub hl [2, 0] rfl)⟩
  refine lv_aload_n hx hb dX7_failDueTrades_47 rfl (lv_at hl 0 rfl) ?_
  refine lv_dup hx hb dX7_failDueTrades_48 rfl ?_
  refine hs_getN hC hW hi_X5 rfl 9 (by decide) lk_X7_185 rfl hX rfl dX7_failDueTrades_49 ?_
  refine lv_iconst (v := 1) hx hb dX7_failDueTrades_52 (by decide) ?_
  refine lv_iadd hx hb dX7_failDueTrades_53 ?_
  refine hs_putN hC hW hL hi_X5 tyX5 tyX5_ok nmX5 rfl 9 (by decide) lk_X7_185 rfl rfl hX (hT.sz htx) rfl rfl (Nat.le_of_ble_eq_true rfl) dX7_failDueTrades_54 (fun H locs hW hL => ?_)
  have hT2 := hinv.1.pT (nu := nu9) (te := te9) (st := st9) (du := du9) (ql := ql9) (am := am9) (fa := fa9 + 1) (pr := pr9) (ip := ip9) htx ht1 ht2 ht3 hg9 (hinv.1.b htx _ _ _ _ _ _ _ _ _ _ _ _ _ hX) (fun _ g' hg' => cl_grI (by rw [hX] at hg'; exact hg')) (hinv.1.u htx _ _ _ _ _ _ _ _ _ _ _ _ _ hX)
  refine lv_aload_n hx hb dX7_failDueTrades_57 rfl (lv_at hl 0 rfl) ?_
  refine hs_getN hC hW hi_X5 rfl 9 (by decide) lk_X7_185 rfl (hs_up_eq _ _ _) rfl dX7_failDueTrades_58 ?_
  refine lv_bipush (v := 10) hx hb dX7_failDueTrades_61 (by decide) ?_
  refine lv_icmp_ne (tgt := 71) hx hb dX7_failDueTrades_63 (by decide) (fun c63 => ?_) (fun c63 => ?_)
  · refine lv_iinc (lv' := [(1, .int _), (2, .ref _), (0, .ref _)]) hx hb dX7_failDueTrades_71 hl (k := 2) rfl rfl (by decide) rfl (fun ls hl => ?_)
    refine lv_goto (tgt := 2) hx hb dX7_failDueTrades_74 (by decide) ?_
    rw [hs_inc] at hl
    exact ih (i + 1, _) _ _ _ (by show 150 - (i + 1) < 150 - i; omega) ⟨⟨by omega, hT2.1, hinv.2.tr hT2.2⟩, hW, hL, (lv_sub hl [2, 0] rfl)⟩
  refine lv_aload_n hx hb dX7_failDueTrades_66 rfl (lv_at hl 0 rfl) ?_
  refine lv_iconst (v := 4) hx hb dX7_failDueTrades_67 (by decide) ?_
  refine hs_callVN hC hs_Tok hW hL (ct_X5_end E t cap X d _ hT2.1 x9 htx h99 4 (by decide)) cw_X5_end lk_X7_157 im_X5_end se_X5_end (hs_recv hC hW (hs_up_eq _ _ _) rfl) hl.1 (by decide) (Nat.le_of_ble_eq_true rfl) dX7_failDueTrades_68 (hs_kV (fun G2 k n H locs hI hk hn hW hL => ?_))
  obtain ⟨rfl, rfl, hT3, hF3⟩ := hI
  refine lv_iinc (lv' := [(1, .int _), (2, .ref _), (0, .ref _)]) hx hb dX7_failDueTrades_71 hl (k := 2) rfl rfl (by decide) rfl (fun ls hl => ?_)
  refine lv_goto (tgt := 2) hx hb dX7_failDueTrades_74 (by decide) ?_
  rw [hs_inc] at hl
  exact ih (i + 1, G2) _ _ _ (by show 150 - (i + 1) < 150 - i; omega) ⟨⟨by omega, hT3, (hinv.2.tr hT2.2).tr hF3⟩, hW, hL, (lv_sub hl [2, 0] rfl)⟩
set_option maxHeartbeats 4000000 in
set_option maxRecDepth 100000 in
/-- putInOrder -/
theorem ct_X7_putInOrder (E : hs_E) (t : cl_t) (cap X : Nat → Nat) (d : Nat) (G : hs_G) (hT : cl_T E t cap X d G) (g : Nat) (hg : t g = some (53, 0)) (A sz : Nat) (mc : Int32) (hLo : G (X 9) = some (al_o mc A (nI sz))) (hsz : sz < 150) : hM E yX7_putInOrder ({ frames := 6, cells := 1, slots := 230, locals := 220 }) [.ref (X 0), .ref g] G (hs_V (fun G1 k n => ∃ (t' : cl_t) (cap' : Nat → Nat) (mc' : Int32) (A' : Nat), cl_T E t' cap' X d G1 ∧ cl_F t G t' G1 ∧ G1 (X 9) = some (al_o mc' A' (nI (sz + 1))) ∧ cap (X 9) ≤ cap' (X 9) ∧ k ≤ cap' (X 9) - cap (X 9) ∧ n ≤ 4 * (cap' (X 9) - cap (X 9)))) := by
  refine hs_ofW (cc := cX7_putInOrder) (maxL := 3) (ret := none) (by decide) co_X7_putInOrder ?_
  intro p e s m args below meth c hC hlocks hr hin0 hnoh hW
  obtain ⟨hx, hb, hml, hown, hts, -⟩ := id hC
  have hE := hW
  have hL : ∀ q ∈ ([] : List Loc), (eH E).size ≤ q.base := fun q hq => nomatch hq
  have hl := lv_entry ([.ref (X 0), .ref g] : List Value) (n := 3) (Nat.le_of_ble_eq_true rfl)
  rw [lg_entry_eq]
  generalize (lg_sl [.ref (X 0), .ref g] ++ List.replicate (3 - (lg_sl [.ref (X 0), .ref g]).length) Slot.unset).toArray = ls at hl ⊢
  have hl : lv_has ls 3 [(0, .ref (X 0)), (1, .ref g)] := hl
  obtain ⟨f9, hLa, hsc, hmx, hcp, hel, hAA⟩ := hT.l9.at hLo (by omega)
  obtain ⟨Lg, hGr, -⟩ := hT.gr hg
  refine lv_aload_n hx hb dX7_putInOrder_0 rfl (lv_at hl 0 rfl) ?_
  refine hs_get hC hW hi_X7 rfl 4 (by decide) lk_X7_37 rfl hT.house rfl dX7_putInOrder_1 ?_
  refine hs_callV hC hs_Tok hW hL (ct_size E G (X 9) A sz mc hLo) cw_Jx4a65c_size_8abf5 lk_X7_81 im_Jx4a65c_size_8abf5 se_Jx4a65c_size_8abf5 (hs_recv hC hW hLo rfl) hl.1 (by decide) (Nat.le_of_ble_eq_true rfl) dX7_putInOrder_4 (hs_kp1 (fun H locs hW hL => ?_))
  refine lv_istore_n (lv' := [(2, .int _), (0, .ref _), (1, .ref _)]) hx hb dX7_putInOrder_7 rfl hl (by decide) rfl (fun ls hl => ?_)
  refine hs_loop (σ := Nat) (fun x => match x with | j => j) (fun x H locs ls => match x with | j => (j ≤ sz) ∧ hs_W (eD E) vwCl (eH E) (G) H ∧ (∀ q ∈ locs, (eH E).size ≤ q.base) ∧ lv_has ls 3 [(0, .ref (X 0)), (1, .ref g), (2, .int (nI j))]) ?_ sz _ _ _ ⟨Nat.le_refl _, hW, hL, (lv_sub hl [1, 2, 0] rfl)⟩
  rintro j H locs ls ⟨hinv, hW, hL, hl⟩ ih
  replace hW : hs_W (eD E) vwCl (eH E) (G) H := hW
  replace hl : lv_has ls 3 [(0, .ref (X 0)), (1, .ref g), (2, .int (nI j))] := hl
  refine lv_iload_n hx hb dX7_putInOrder_8 rfl (lv_at hl 2 rfl) ?_
  refine lv_if_le (tgt := 41) hx hb dX7_putInOrder_9 (by decide) (fun c9 => ?_) (fun c9 => ?_)
  · refine lv_aload_n hx hb dX7_putInOrder_41 rfl (lv_at hl 0 rfl) ?_
    refine hs_get hC hW hi_X7 rfl 4 (by decide) lk_X7_37 rfl hT.house rfl dX7_putInOrder_42 ?_
    refine lv_iload_n hx hb dX7_putInOrder_45 rfl (lv_at hl 2 rfl) ?_
    refine lv_aload_n hx hb dX7_putInOrder_46 rfl (lv_at hl 1 rfl) ?_
    refine hs_callV hC hs_Tok hW hL (ct_addAt E G (X 9) A sz mc hLo (cap (X 9)) f9 hLa hsc (by omega) (by omega) (fun z => hAA.elim (fun w => w.1) (fun w => absurd z (by omega))) (fun z => hT.sz (hAA.resolve_left (fun w => by omega)).1) (hT.szX 9 (by decide)) 2 cl_el2 (cl_elG hT hel) g _ hGr _ (by omega)) cw_Jx4a65c_add_7a177 lk_X7_266 im_Jx4a65c_add_7a177 se_Jx4a65c_add_7a177 (hs_recv hC hW hLo rfl) hl.1 (by decide) (Nat.le_of_ble_eq_true rfl) dX7_putInOrder_47 (hs_kV (fun G1 k n H locs hI hk hn hW hL => ?_))
    obtain ⟨A1, c1, hT1, hF1, hL1, hc1, hk1, hn1, hk2, hn2, -⟩ := hT.add (hT.tag 9 (by decide)) (Or.inr (Or.inl ⟨rfl, rfl, rfl⟩)) hLa hLo hAA hcp hsz (by omega) hel hg (fun z => absurd z (by decide)) hI
    exact hs_vret hC hW hL hr hlocks (by show 0 + k ≤ 1; omega) (by show 0 + n ≤ 230; omega) dX7_putInOrder_50 ⟨rfl, _, _, _, A1, hT1, hF1, hL1, by rw [va_up_self]; exact hc1, by rw [va_up_self]; omega, by rw [va_up_self]; omega⟩
  obtain ⟨j, rfl⟩ := mo_pos c9
  have hlt : j < sz := by omega
  obtain ⟨x9, hfx, htx⟩ := hel j hlt
  obtain ⟨L8, hGx, -⟩ := hT.gr htx
  refine lv_aload_n hx hb dX7_putInOrder_12 rfl (lv_at hl 0 rfl) ?_
  refine hs_get hC hW hi_X7 rfl 4 (by decide) lk_X7_37 rfl hT.house rfl dX7_putInOrder_13 ?_
  refine lv_iload_n hx hb dX7_putInOrder_16 rfl (lv_at hl 2 rfl) ?_
  refine lv_iconst (v := 1) hx hb dX7_putInOrder_17 (by decide) ?_
  refine lv_isub hx hb dX7_putInOrder_18 ?_
  rw [nI_m1]
  refine hs_callV hC hs_Tok hW hL (ct_get E G (X 9) A sz mc hLo (cap (X 9)) f9 hLa (by omega) j x9 hlt hsc hfx) cw_Jx4a65c_get_915e3 lk_X7_202 im_Jx4a65c_get_915e3 se_Jx4a65c_get_915e3 (hs_recv hC hW hLo rfl) hl.1 (by decide) (Nat.le_of_ble_eq_true rfl) dX7_putInOrder_19 (hs_kp1 (fun H locs hW hL => ?_))
  refine hs_cast hC hW lk_X7_142 ca_X1_X1 hGx rfl dX7_putInOrder_22 ?_
  refine hs_callVN hC hs_Tok hW hL (ct_X1_priority E t cap X d G hT x9 htx) cw_X1_priority lk_X7_264 im_X1_priority se_X1_priority (hs_recv hC hW hGx rfl) hl.1 (by decide) (Nat.le_of_ble_eq_true rfl) dX7_putInOrder_25 (hs_ke (fun x H locs hJ hW hL => ?_))
  refine lv_aload_n hx hb dX7_putInOrder_28 rfl (lv_at hl 1 rfl) ?_
  refine hs_callVN hC hs_Tok hW hL (ct_X1_priority E t cap X d G hT g hg) cw_X1_priority lk_X7_264 im_X1_priority se_X1_priority (hs_recv hC hW hGr rfl) hl.1 (by decide) (Nat.le_of_ble_eq_true rfl) dX7_putInOrder_29 (hs_ke (fun y H locs hJy hW hL => ?_))
  refine lv_icmp_ge (tgt := 41) hx hb dX7_putInOrder_32 (by decide) (fun c32 => ?_) (fun c32 => ?_)
  · refine lv_aload_n hx hb dX7_putInOrder_41 rfl (lv_at hl 0 rfl) ?_
    refine hs_get hC hW hi_X7 rfl 4 (by decide) lk_X7_37 rfl hT.house rfl dX7_putInOrder_42 ?_
    refine lv_iload_n hx hb dX7_putInOrder_45 rfl (lv_at hl 2 rfl) ?_
    refine lv_aload_n hx hb dX7_putInOrder_46 rfl (lv_at hl 1 rfl) ?_
    refine hs_callV hC hs_Tok hW hL (ct_addAt E G (X 9) A sz mc hLo (cap (X 9)) f9 hLa hsc (by omega) (by omega) (fun z => hAA.elim (fun w => w.1) (fun w => absurd z (by omega))) (fun z => hT.sz (hAA.resolve_left (fun w => by omega)).1) (hT.szX 9 (by decide)) 2 cl_el2 (cl_elG hT hel) g _ hGr _ (by omega)) cw_Jx4a65c_add_7a177 lk_X7_266 im_Jx4a65c_add_7a177 se_Jx4a65c_add_7a177 (hs_recv hC hW hLo rfl) hl.1 (by decide) (Nat.le_of_ble_eq_true rfl) dX7_putInOrder_47 (hs_kV (fun G1 k n H locs hI hk hn hW hL => ?_))
    obtain ⟨A1, c1, hT1, hF1, hL1, hc1, hk1, hn1, hk2, hn2, -⟩ := hT.add (hT.tag 9 (by decide)) (Or.inr (Or.inl ⟨rfl, rfl, rfl⟩)) hLa hLo hAA hcp hsz (by omega) hel hg (fun z => absurd z (by decide)) hI
    exact hs_vret hC hW hL hr hlocks (by show 0 + k ≤ 1; omega) (by show 0 + n ≤ 230; omega) dX7_putInOrder_50 ⟨rfl, _, _, _, A1, hT1, hF1, hL1, by rw [va_up_self]; exact hc1, by rw [va_up_self]; omega, by rw [va_up_self]; omega⟩
  refine lv_iinc (lv' := [(2, .int _), (0, .ref _), (1, .ref _)]) hx hb dX7_putInOrder_35 hl (k := 2) rfl rfl (by decide) rfl (fun ls hl => ?_)
  refine lv_goto (tgt := 8) hx hb dX7_putInOrder_38 (by decide) ?_
  rw [hs_dec] at hl
  exact ih j _ _ _ (by show j < j + 1; omega) ⟨by omega, hW, hL, (lv_sub hl [1, 2, 0] rfl)⟩
