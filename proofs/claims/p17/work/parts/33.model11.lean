/-! the reference: settled, trade, date -/
theorem mo_rows_in {sc : Nat → Int32} {S : Nat} {x : Int32} (h : sc 23 = nI S) (hS : S ≤ 1500) (c : ¬ hs_b (0 ≤ x.toInt64 ∧ x.toInt64 ≤ (sc 23 - 1).toInt64) = 0) : vp_in x 2000 := by
  have g := hs_b_ne c
  rw [h] at g
  simp only [Int64.le_iff_toInt_le, hs_64] at g
  have e0 : Int64.toInt 0 = 0 := by decide
  rw [e0] at g
  have hn : (nI S - 1).toInt = (S : Int) - 1 := by
    have h9 := pk_sub_toInt (a := S) (b := 1) (by omega) (by omega)
    have e1 : nI 1 = 1 := by decide +kernel
    rw [e1] at h9
    exact h9
  rw [hn] at g
  rw [vp_in_iff]
  omega
set_option maxHeartbeats 4000000 in
set_option maxRecDepth 100000 in
/-- Model.settled -/
theorem ct_X8_settled (E : hs_E) (mo : Nat) (ar : Nat → Nat) (ix : Nat → Option Nat) (sc : Nat → Int32) (mI : Nat → Nat → Int32) (mL : Nat → Nat → Int64) (F : hs_G) (ha : mo_ok E mo ar ix) (i wh : Int32) (N d S : Nat) (hI : mo_I sc mI N d S) : hM E yX8_settled ({ frames := 1, cells := 0, slots := 0, locals := 40 }) [.ref mo, .int i, .int wh] (mo_W E mo ar ix sc mI mL F) (mo_P E mo ar ix F (fun v sc2 mI2 _ => (∃ x : Int32, v = some (.int x)) ∧ mI2 = mI ∧ ∀ j, j ≠ 0 → sc2 j = sc j)) := by
  refine hs_ofW (cc := cX8_settled) (maxL := 3) (ret := (some .int)) (by decide) co_X8_settled ?_
  intro p e s m args below meth c hC hlocks hr hin0 hnoh hW
  obtain ⟨hx, hb, hml, hown, hts, -⟩ := id hC
  have hE := hW
  have hL : ∀ q ∈ ([] : List Loc), (eH E).size ≤ q.base := fun q hq => nomatch hq
  have hl := lv_entry ([.ref mo, .int i, .int wh] : List Value) (n := 3) (Nat.le_of_ble_eq_true rfl)
  rw [lg_entry_eq]
  generalize (lg_sl [.ref mo, .int i, .int wh] ++ List.replicate (3 - (lg_sl [.ref mo, .int i, .int wh]).length) Slot.unset).toArray = ls at hl ⊢
  have hl : lv_has ls 3 [(0, .ref mo), (1, .int i), (2, .int wh)] := hl
  refine lv_aload_n hx hb dX8_settled_0 rfl (lv_at hl 0 rfl) ?_
  refine lv_iconst (v := 0) hx hb dX8_settled_1 (by decide) ?_
  refine hs_put hC hW hL hi_X8 tyX8 tyX8_ok nmX8 rfl 0 (by decide) lk_X8_93 rfl rfl mo_obj ha.2.1 rfl rfl (Nat.le_of_ble_eq_true rfl) dX8_settled_2 (fun H locs hW hL => ?_)
  rw [mo_putS (mo_fs0 _)] at hW
  refine lv_iload_n hx hb dX8_settled_5 rfl (lv_at hl 1 rfl) ?_
  refine lv_i2l hx hb dX8_settled_6 rfl ?_
  refine lv_lconst (v := 0) hx hb dX8_settled_7 (by decide) ?_
  refine lv_aload_n hx hb dX8_settled_8 rfl (lv_at hl 0 rfl) ?_
  refine hs_get hC hW hi_X8 rfl 23 (by decide) lk_X8_126 rfl mo_obj rfl dX8_settled_9 ?_
  refine lv_iconst (v := 1) hx hb dX8_settled_12 (by decide) ?_
  refine lv_isub hx hb dX8_settled_13 ?_
  refine lv_i2l hx hb dX8_settled_14 rfl ?_
  refine hs_callS hC hs_Tok hW hL (ct_X8_in E _ _ _ _) cw_X8_in lk_X8_99 st_X8_in hl.1 (by decide) (Nat.le_of_ble_eq_true rfl) dX8_settled_15 (hs_kp1 (fun H locs hW hL => ?_))
  refine lv_if_ne (tgt := 23) hx hb dX8_settled_18 (by decide) (fun c18 => ?_) (fun c18 => ?_)
  · have hin9 : vp_in i 2000 := mo_rows_in (sc := sc) hI.2.2.2.2.1 hI.rows c18
    refine lv_iload_n hx hb dX8_settled_23 rfl (lv_at hl 2 rfl) ?_
    rcases (show ((wh).toInt < 0 ∨ 3 < (wh).toInt) ∨ (wh).toInt = 0 ∨ (wh).toInt = 1 ∨ (wh).toInt = 2 ∨ (wh).toInt = 3 by omega) with c24 | c24 | c24 | c24 | c24
    · refine lv_tableOut (tgt := 84) hx hb dX8_settled_24 c24 (by decide) ?_
      refine lv_iconst (v := (-1)) hx hb dX8_settled_84 (by decide) ?_
      exact hs_iret hC hW hL hr hlocks (by decide) (by decide) dX8_settled_85 ⟨rfl, rfl, _, _, _, _, rfl, rfl, ⟨_, rfl⟩, rfl, fun j hj => by simp [mo_up, hj]⟩
    · refine lv_tableIn (off := 32) (tgt := 56) hx hb dX8_settled_24 (by omega) (by omega) (by rw [c24]; rfl) (by decide) ?_
      refine lv_aload_n hx hb dX8_settled_56 rfl (lv_at hl 0 rfl) ?_
      refine hs_get hC hW hi_X8 rfl 24 (by decide) lk_X8_72 rfl mo_obj rfl dX8_settled_57 ?_
      refine lv_iload_n hx hb dX8_settled_60 rfl (lv_at hl 1 rfl) ?_
      refine hs_iald hC hW 0 (mo_int ha.1 24 rfl) rfl hin9 dX8_settled_61 ?_
      exact hs_iret hC hW hL hr hlocks (by decide) (by decide) dX8_settled_62 ⟨rfl, rfl, _, _, _, _, rfl, rfl, ⟨_, rfl⟩, rfl, fun j hj => by simp [mo_up, hj]⟩
    · refine lv_tableIn (off := 39) (tgt := 63) hx hb dX8_settled_24 (by omega) (by omega) (by rw [c24]; rfl) (by decide) ?_
      refine lv_aload_n hx hb dX8_settled_63 rfl (lv_at hl 0 rfl) ?_
      refine hs_get hC hW hi_X8 rfl 25 (by decide) lk_X8_75 rfl mo_obj rfl dX8_settled_64 ?_
      refine lv_iload_n hx hb dX8_settled_67 rfl (lv_at hl 1 rfl) ?_
      refine hs_iald hC hW 0 (mo_int ha.1 25 rfl) rfl hin9 dX8_settled_68 ?_
      exact hs_iret hC hW hL hr hlocks (by decide) (by decide) dX8_settled_69 ⟨rfl, rfl, _, _, _, _, rfl, rfl, ⟨_, rfl⟩, rfl, fun j hj => by simp [mo_up, hj]⟩
    · refine lv_tableIn (off := 46) (tgt := 70) hx hb dX8_settled_24 (by omega) (by omega) (by rw [c24]; rfl) (by decide) ?_
      refine lv_aload_n hx hb dX8_settled_70 rfl (lv_at hl 0 rfl) ?_
      refine hs_get hC hW hi_X8 rfl 26 (by decide) lk_X8_78 rfl mo_obj rfl dX8_settled_71 ?_
      refine lv_iload_n hx hb dX8_settled_74 rfl (lv_at hl 1 rfl) ?_
      refine hs_iald hC hW 0 (mo_int ha.1 26 rfl) rfl hin9 dX8_settled_75 ?_
      exact hs_iret hC hW hL hr hlocks (by decide) (by decide) dX8_settled_76 ⟨rfl, rfl, _, _, _, _, rfl, rfl, ⟨_, rfl⟩, rfl, fun j hj => by simp [mo_up, hj]⟩
    · refine lv_tableIn (off := 53) (tgt := 77) hx hb dX8_settled_24 (by omega) (by omega) (by rw [c24]; rfl) (by decide) ?_
      refine lv_aload_n hx hb dX8_settled_77 rfl (lv_at hl 0 rfl) ?_
      refine hs_get hC hW hi_X8 rfl 27 (by decide) lk_X8_81 rfl mo_obj rfl dX8_settled_78 ?_
      refine lv_iload_n hx hb dX8_settled_81 rfl (lv_at hl 1 rfl) ?_
      refine hs_iald hC hW 0 (mo_int ha.1 27 rfl) rfl hin9 dX8_settled_82 ?_
      exact hs_iret hC hW hL hr hlocks (by decide) (by decide) dX8_settled_83 ⟨rfl, rfl, _, _, _, _, rfl, rfl, ⟨_, rfl⟩, rfl, fun j hj => by simp [mo_up, hj]⟩
  refine lv_iconst (v := (-1)) hx hb dX8_settled_21 (by decide) ?_
  exact hs_iret hC hW hL hr hlocks (by decide) (by decide) dX8_settled_22 ⟨rfl, rfl, _, _, _, _, rfl, rfl, ⟨_, rfl⟩, rfl, fun j hj => by simp [mo_up, hj]⟩
set_option maxHeartbeats 4000000 in
set_option maxRecDepth 100000 in
/-- Model.trade -/
theorem ct_X8_trade (E : hs_E) (mo : Nat) (ar : Nat → Nat) (ix : Nat → Option Nat) (sc : Nat → Int32) (mI : Nat → Nat → Int32) (mL : Nat → Nat → Int64) (F : hs_G) (ha : mo_ok E mo ar ix) (t wh : Int32) (N d S : Nat) (hI : mo_I sc mI N d S) : hM E yX8_trade ({ frames := 2, cells := 0, slots := 0, locals := 70 }) [.ref mo, .int t, .int wh] (mo_W E mo ar ix sc mI mL F) (mo_P E mo ar ix F (fun v sc2 mI2 _ => (∃ x : Int32, v = some (.int x)) ∧ mI2 = mI ∧ ∀ j, j ≠ 0 → sc2 j = sc j)) := by
  refine hs_ofW (cc := cX8_trade) (maxL := 3) (ret := (some .int)) (by decide) co_X8_trade ?_
  intro p e s m args below meth c hC hlocks hr hin0 hnoh hW
  obtain ⟨hx, hb, hml, hown, hts, -⟩ := id hC
  have hE := hW
  have hL : ∀ q ∈ ([] : List Loc), (eH E).size ≤ q.base := fun q hq => nomatch hq
  have hl := lv_entry ([.ref mo, .int t, .int wh] : List Value) (n := 3) (Nat.le_of_ble_eq_true rfl)
  rw [lg_entry_eq]
  generalize (lg_sl [.ref mo, .int t, .int wh] ++ List.replicate (3 - (lg_sl [.ref mo, .int t, .int wh]).length) Slot.unset).toArray = ls at hl ⊢
  have hl : lv_has ls 3 [(0, .ref mo), (1, .int t), (2, .int wh)] := hl
  refine lv_aload_n hx hb dX8_trade_0 rfl (lv_at hl 0 rfl) ?_
  refine lv_aload_n hx hb dX8_trade_1 rfl (lv_at hl 0 rfl) ?_
  refine lv_iload_n hx hb dX8_trade_2 rfl (lv_at hl 1 rfl) ?_
  refine hs_callV hC hs_Tok hW hL (ct_X8_isTrade E _ _ _ _ _ _ _ ha _) cw_X8_isTrade lk_X8_190 im_X8_isTrade se_X8_isTrade (hs_recv hC hW mo_obj rfl) hl.1 (by decide) (Nat.le_of_ble_eq_true rfl) dX8_trade_3 (hs_kp1 (fun H locs hW hL => ?_))
  refine lv_if_eq (tgt := 25) hx hb dX8_trade_6 (by decide) (fun c6 => ?_) (fun c6 => ?_)
  · refine lv_iconst (v := 1) hx hb dX8_trade_25 (by decide) ?_
    refine hs_put hC hW hL hi_X8 tyX8 tyX8_ok nmX8 rfl 0 (by decide) lk_X8_93 rfl rfl mo_obj ha.2.1 rfl rfl (Nat.le_of_ble_eq_true rfl) dX8_trade_26 (fun H locs hW hL => ?_)
    rw [mo_putS (mo_fs0 _)] at hW
    refine lv_aload_n hx hb dX8_trade_29 rfl (lv_at hl 0 rfl) ?_
    refine hs_get hC hW hi_X8 rfl 0 (by decide) lk_X8_93 rfl mo_obj rfl dX8_trade_30 ?_
    refine lv_if_le (tgt := 38) hx hb dX8_trade_33 (by decide) (fun c33 => ?_) (fun c33 => ?_)
    · exact absurd c33 (by first | decide | simp [mo_up])
    refine lv_iconst (v := 0) hx hb dX8_trade_36 (by decide) ?_
    exact hs_iret hC hW hL hr hlocks (by decide) (by decide) dX8_trade_37 ⟨rfl, rfl, _, _, _, _, rfl, rfl, ⟨_, rfl⟩, rfl, fun j hj => by simp [mo_up, hj]⟩
  refine lv_iload_n hx hb dX8_trade_9 rfl (lv_at hl 2 rfl) ?_
  refine lv_i2l hx hb dX8_trade_10 rfl ?_
  refine lv_lconst (v := 0) hx hb dX8_trade_11 (by decide) ?_
  refine lv_ldc2 hx hb hown (hts _ lk_X8_178) dX8_trade_12 ?_
  refine hs_callS hC hs_Tok hW hL (ct_X8_in E _ _ _ _) cw_X8_in lk_X8_99 st_X8_in hl.1 (by decide) (Nat.le_of_ble_eq_true rfl) dX8_trade_15 (hs_kp1 (fun H locs hW hL => ?_))
  refine lv_if_eq (tgt := 25) hx hb dX8_trade_18 (by decide) (fun c18 => ?_) (fun c18 => ?_)
  · refine lv_iconst (v := 1) hx hb dX8_trade_25 (by decide) ?_
    refine hs_put hC hW hL hi_X8 tyX8 tyX8_ok nmX8 rfl 0 (by decide) lk_X8_93 rfl rfl mo_obj ha.2.1 rfl rfl (Nat.le_of_ble_eq_true rfl) dX8_trade_26 (fun H locs hW hL => ?_)
    rw [mo_putS (mo_fs0 _)] at hW
    refine lv_aload_n hx hb dX8_trade_29 rfl (lv_at hl 0 rfl) ?_
    refine hs_get hC hW hi_X8 rfl 0 (by decide) lk_X8_93 rfl mo_obj rfl dX8_trade_30 ?_
    refine lv_if_le (tgt := 38) hx hb dX8_trade_33 (by decide) (fun c33 => ?_) (fun c33 => ?_)
    · exact absurd c33 (by first | decide | simp [mo_up])
    refine lv_iconst (v := 0) hx hb dX8_trade_36 (by decide) ?_
    exact hs_iret hC hW hL hr hlocks (by decide) (by decide) dX8_trade_37 ⟨rfl, rfl, _, _, _, _, rfl, rfl, ⟨_, rfl⟩, rfl, fun j hj => by simp [mo_up, hj]⟩
  refine lv_iconst (v := 0) hx hb dX8_trade_21 (by decide) ?_
  refine lv_goto (tgt := 26) hx hb dX8_trade_22 (by decide) ?_
  refine hs_put hC hW hL hi_X8 tyX8 tyX8_ok nmX8 rfl 0 (by decide) lk_X8_93 rfl rfl mo_obj ha.2.1 rfl rfl (Nat.le_of_ble_eq_true rfl) dX8_trade_26 (fun H locs hW hL => ?_)
  rw [mo_putS (mo_fs0 _)] at hW
  refine lv_aload_n hx hb dX8_trade_29 rfl (lv_at hl 0 rfl) ?_
  refine hs_get hC hW hi_X8 rfl 0 (by decide) lk_X8_93 rfl mo_obj rfl dX8_trade_30 ?_
  refine lv_if_le (tgt := 38) hx hb dX8_trade_33 (by decide) (fun c33 => ?_) (fun c33 => ?_)
  · obtain ⟨j, hj, rfl⟩ := mo_tr hI c6
    have hj150 : j < 150 := Nat.lt_of_lt_of_le hj hI.2.1
    have hjn : vp_in (nI j) 150 := vp_in_nI hj150 (by decide)
    have hjc : (nI j).toNatClampNeg = j := nI_clamp (by omega)
    refine lv_iload_n hx hb dX8_trade_38 rfl (lv_at hl 2 rfl) ?_
    rcases (show ((wh).toInt < 0 ∨ 9 < (wh).toInt) ∨ (wh).toInt = 0 ∨ (wh).toInt = 1 ∨ (wh).toInt = 2 ∨ (wh).toInt = 3 ∨ (wh).toInt = 4 ∨ (wh).toInt = 5 ∨ (wh).toInt = 6 ∨ (wh).toInt = 7 ∨ (wh).toInt = 8 ∨ (wh).toInt = 9 by omega) with c39 | c39 | c39 | c39 | c39 | c39 | c39 | c39 | c39 | c39 | c39
    · refine lv_tableOut (tgt := 166) hx hb dX8_trade_39 c39 (by decide) ?_
      refine lv_aload_n hx hb dX8_trade_166 rfl (lv_at hl 0 rfl) ?_
      refine hs_get hC hW hi_X8 rfl 20 (by decide) lk_X8_63 rfl mo_obj rfl dX8_trade_167 ?_
      refine lv_iload_n hx hb dX8_trade_170 rfl (lv_at hl 1 rfl) ?_
      refine hs_zald hC hW 2 (mo_bool ha.1 20 rfl) rfl hjn dX8_trade_171 ?_
      refine lv_if_eq (tgt := 179) hx hb dX8_trade_172 (by decide) (fun c172 => ?_) (fun c172 => ?_)
      · refine lv_iconst (v := 0) hx hb dX8_trade_179 (by decide) ?_
        exact hs_iret hC hW hL hr hlocks (by decide) (by decide) dX8_trade_180 ⟨rfl, rfl, _, _, _, _, rfl, rfl, ⟨_, rfl⟩, rfl, fun j hj => by simp [mo_up, hj]⟩
      refine lv_iconst (v := 1) hx hb dX8_trade_175 (by decide) ?_
      refine lv_goto (tgt := 180) hx hb dX8_trade_176 (by decide) ?_
      exact hs_iret hC hW hL hr hlocks (by decide) (by decide) dX8_trade_180 ⟨rfl, rfl, _, _, _, _, rfl, rfl, ⟨_, rfl⟩, rfl, fun j hj => by simp [mo_up, hj]⟩
    · refine lv_tableIn (off := 53) (tgt := 92) hx hb dX8_trade_39 (by omega) (by omega) (by rw [c39]; rfl) (by decide) ?_
      refine lv_aload_n hx hb dX8_trade_92 rfl (lv_at hl 0 rfl) ?_
      refine hs_get hC hW hi_X8 rfl 15 (by decide) lk_X8_48 rfl mo_obj rfl dX8_trade_93 ?_
      refine lv_iload_n hx hb dX8_trade_96 rfl (lv_at hl 1 rfl) ?_
      refine hs_iald hC hW 0 (mo_int ha.1 15 rfl) rfl hjn dX8_trade_97 ?_
      exact hs_iret hC hW hL hr hlocks (by decide) (by decide) dX8_trade_98 ⟨rfl, rfl, _, _, _, _, rfl, rfl, ⟨_, rfl⟩, rfl, fun j hj => by simp [mo_up, hj]⟩
    · refine lv_tableIn (off := 60) (tgt := 99) hx hb dX8_trade_39 (by omega) (by omega) (by rw [c39]; rfl) (by decide) ?_
      refine lv_aload_n hx hb dX8_trade_99 rfl (lv_at hl 0 rfl) ?_
      refine hs_get hC hW hi_X8 rfl 16 (by decide) lk_X8_51 rfl mo_obj rfl dX8_trade_100 ?_
      refine lv_iload_n hx hb dX8_trade_103 rfl (lv_at hl 1 rfl) ?_
      refine hs_iald hC hW 0 (mo_int ha.1 16 rfl) rfl hjn dX8_trade_104 ?_
      exact hs_iret hC hW hL hr hlocks (by decide) (by decide) dX8_trade_105 ⟨rfl, rfl, _, _, _, _, rfl, rfl, ⟨_, rfl⟩, rfl, fun j hj => by simp [mo_up, hj]⟩
    · refine lv_tableIn (off := 67) (tgt := 106) hx hb dX8_trade_39 (by omega) (by omega) (by rw [c39]; rfl) (by decide) ?_
      refine lv_aload_n hx hb dX8_trade_106 rfl (lv_at hl 0 rfl) ?_
      refine hs_get hC hW hi_X8 rfl 8 (by decide) lk_X8_27 rfl mo_obj rfl dX8_trade_107 ?_
      refine lv_iload_n hx hb dX8_trade_110 rfl (lv_at hl 1 rfl) ?_
      refine hs_iald hC hW 0 (mo_int ha.1 8 rfl) rfl hjn dX8_trade_111 ?_
      exact hs_iret hC hW hL hr hlocks (by decide) (by decide) dX8_trade_112 ⟨rfl, rfl, _, _, _, _, rfl, rfl, ⟨_, rfl⟩, rfl, fun j hj => by simp [mo_up, hj]⟩
    · refine lv_tableIn (off := 74) (tgt := 113) hx hb dX8_trade_39 (by omega) (by omega) (by rw [c39]; rfl) (by decide) ?_
      refine lv_aload_n hx hb dX8_trade_113 rfl (lv_at hl 0 rfl) ?_
      refine hs_get hC hW hi_X8 rfl 9 (by decide) lk_X8_30 rfl mo_obj rfl dX8_trade_114 ?_
      refine lv_iload_n hx hb dX8_trade_117 rfl (lv_at hl 1 rfl) ?_
      refine hs_iald hC hW 0 (mo_int ha.1 9 rfl) rfl hjn dX8_trade_118 ?_
      exact hs_iret hC hW hL hr hlocks (by decide) (by decide) dX8_trade_119 ⟨rfl, rfl, _, _, _, _, rfl, rfl, ⟨_, rfl⟩, rfl, fun j hj => by simp [mo_up, hj]⟩
    · refine lv_tableIn (off := 81) (tgt := 120) hx hb dX8_trade_39 (by omega) (by omega) (by rw [c39]; rfl) (by decide) ?_
      refine lv_aload_n hx hb dX8_trade_120 rfl (lv_at hl 0 rfl) ?_
      refine hs_get hC hW hi_X8 rfl 5 (by decide) lk_X8_17 rfl mo_obj rfl dX8_trade_121 ?_
      refine lv_iload_n hx hb dX8_trade_124 rfl (lv_at hl 1 rfl) ?_
      refine hs_iald hC hW 0 (mo_int ha.1 5 rfl) rfl hjn dX8_trade_125 ?_
      exact hs_iret hC hW hL hr hlocks (by decide) (by decide) dX8_trade_126 ⟨rfl, rfl, _, _, _, _, rfl, rfl, ⟨_, rfl⟩, rfl, fun j hj => by simp [mo_up, hj]⟩
    · refine lv_tableIn (off := 88) (tgt := 127) hx hb dX8_trade_39 (by omega) (by omega) (by rw [c39]; rfl) (by decide) ?_
      refine lv_aload_n hx hb dX8_trade_127 rfl (lv_at hl 0 rfl) ?_
      refine hs_get hC hW hi_X8 rfl 6 (by decide) lk_X8_21 rfl mo_obj rfl dX8_trade_128 ?_
      refine lv_iload_n hx hb dX8_trade_131 rfl (lv_at hl 1 rfl) ?_
      refine hs_iald hC hW 0 (mo_int ha.1 6 rfl) rfl hjn dX8_trade_132 ?_
      exact hs_iret hC hW hL hr hlocks (by decide) (by decide) dX8_trade_133 ⟨rfl, rfl, _, _, _, _, rfl, rfl, ⟨_, rfl⟩, rfl, fun j hj => by simp [mo_up, hj]⟩
    · refine lv_tableIn (off := 95) (tgt := 134) hx hb dX8_trade_39 (by omega) (by omega) (by rw [c39]; rfl) (by decide) ?_
      refine lv_aload_n hx hb dX8_trade_134 rfl (lv_at hl 0 rfl) ?_
      refine hs_get hC hW hi_X8 rfl 7 (by decide) lk_X8_24 rfl mo_obj rfl dX8_trade_135 ?_
      refine lv_iload_n hx hb dX8_trade_138 rfl (lv_at hl 1 rfl) ?_
      refine hs_iald hC hW 0 (mo_int ha.1 7 rfl) rfl hjn dX8_trade_139 ?_
      exact hs_iret hC hW hL hr hlocks (by decide) (by decide) dX8_trade_140 ⟨rfl, rfl, _, _, _, _, rfl, rfl, ⟨_, rfl⟩, rfl, fun j hj => by simp [mo_up, hj]⟩
    · refine lv_tableIn (off := 102) (tgt := 141) hx hb dX8_trade_39 (by omega) (by omega) (by rw [c39]; rfl) (by decide) ?_
      refine lv_aload_n hx hb dX8_trade_141 rfl (lv_at hl 0 rfl) ?_
      refine hs_get hC hW hi_X8 rfl 21 (by decide) lk_X8_66 rfl mo_obj rfl dX8_trade_142 ?_
      refine lv_iload_n hx hb dX8_trade_145 rfl (lv_at hl 1 rfl) ?_
      refine hs_iald hC hW 0 (mo_int ha.1 21 rfl) rfl hjn dX8_trade_146 ?_
      exact hs_iret hC hW hL hr hlocks (by decide) (by decide) dX8_trade_147 ⟨rfl, rfl, _, _, _, _, rfl, rfl, ⟨_, rfl⟩, rfl, fun j hj => by simp [mo_up, hj]⟩
    · refine lv_tableIn (off := 109) (tgt := 148) hx hb dX8_trade_39 (by omega) (by omega) (by rw [c39]; rfl) (by decide) ?_
      refine lv_aload_n hx hb dX8_trade_148 rfl (lv_at hl 0 rfl) ?_
      refine hs_get hC hW hi_X8 rfl 19 (by decide) lk_X8_60 rfl mo_obj rfl dX8_trade_149 ?_
      refine lv_iload_n hx hb dX8_trade_152 rfl (lv_at hl 1 rfl) ?_
      refine hs_iald hC hW 0 (mo_int ha.1 19 rfl) rfl hjn dX8_trade_153 ?_
      exact hs_iret hC hW hL hr hlocks (by decide) (by decide) dX8_trade_154 ⟨rfl, rfl, _, _, _, _, rfl, rfl, ⟨_, rfl⟩, rfl, fun j hj => by simp [mo_up, hj]⟩
    · refine lv_tableIn (off := 116) (tgt := 155) hx hb dX8_trade_39 (by omega) (by omega) (by rw [c39]; rfl) (by decide) ?_
      refine lv_aload_n hx hb dX8_trade_155 rfl (lv_at hl 0 rfl) ?_
      refine lv_aload_n hx hb dX8_trade_156 rfl (lv_at hl 0 rfl) ?_
      refine hs_get hC hW hi_X8 rfl 22 (by decide) lk_X8_69 rfl mo_obj rfl dX8_trade_157 ?_
      refine lv_iload_n hx hb dX8_trade_160 rfl (lv_at hl 1 rfl) ?_
      refine hs_iald hC hW 0 (mo_int ha.1 22 rfl) rfl hjn dX8_trade_161 ?_
      refine hs_callV hC hs_Tok hW hL (ct_X8_sizeOf E _ _ _ _ _ _ _ ha _ N d S (mo_I.b (mo_J_fr hI ⟨rfl, rfl, rfl⟩ ⟨rfl, rfl, rfl, rfl, rfl, rfl⟩))) cw_X8_sizeOf lk_X8_151 im_X8_sizeOf se_X8_sizeOf (hs_recv hC hW mo_obj rfl) hl.1 (by decide) (Nat.le_of_ble_eq_true rfl) dX8_trade_162 (hs_ke (fun x H locs hJ hW hL => ?_))
      exact hs_iret hC hW hL hr hlocks (by decide) (by decide) dX8_trade_165 ⟨rfl, rfl, _, _, _, _, rfl, rfl, ⟨_, rfl⟩, rfl, fun j hj => by simp [mo_up, hj]⟩
  exact absurd c33 (by first | decide | simp [mo_up])
theorem dt_len (E : hs_E) (G : hs_G) (y m : Nat) (hm : m < 100) : hM E yX8_lengthOf ({ frames := 1, cells := 0, slots := 0, locals := 30 }) [.int (nI y), .int (nI m)] G (hs_pu (some (.int (nI (dt_ml y m)))) G) := by
  have h := ct_X8_lengthOf E G (nI y) (nI m)
  rw [dt_mlI hm] at h
  exact h
set_option maxHeartbeats 4000000 in
set_option maxRecDepth 100000 in
/-- Model.date -/
theorem ct_X8_date (E : hs_E) (mo : Nat) (ar : Nat → Nat) (ix : Nat → Option Nat) (sc : Nat → Int32) (mI : Nat → Nat → Int32) (mL : Nat → Nat → Int64) (F : hs_G) (ha : mo_ok E mo ar ix) (pa : Int32) (N d S : Nat) (hI : mo_I sc mI N d S) : hM E yX8_date ({ frames := 2, cells := 0, slots := 0, locals := 70 }) [.ref mo, .int pa] (mo_W E mo ar ix sc mI mL F) (mo_P E mo ar ix F (fun v sc2 mI2 _ => (∃ x : Int32, v = some (.int x)) ∧ mI2 = mI ∧ (∀ j, j ≠ 0 → sc2 j = sc j) ∧ (¬ (0 ≤ pa.toInt64 ∧ pa.toInt64 ≤ 4) → sc2 0 = 1) ∧ ((0 ≤ pa.toInt64 ∧ pa.toInt64 ≤ 4) → sc2 0 = 0 ∧ v = some (.int (dt_v d pa))))) := by
  refine hs_ofW (cc := cX8_date) (maxL := 5) (ret := (some .int)) (by decide) co_X8_date ?_
  intro p e s m args below meth c hC hlocks hr hin0 hnoh hW
  obtain ⟨hx, hb, hml, hown, hts, -⟩ := id hC
  have hE := hW
  have hL : ∀ q ∈ ([] : List Loc), (eH E).size ≤ q.base := fun q hq => nomatch hq
  have hl := lv_entry ([.ref mo, .int pa] : List Value) (n := 5) (Nat.le_of_ble_eq_true rfl)
  rw [lg_entry_eq]
  generalize (lg_sl [.ref mo, .int pa] ++ List.replicate (5 - (lg_sl [.ref mo, .int pa]).length) Slot.unset).toArray = ls at hl ⊢
  have hl : lv_has ls 5 [(0, .ref mo), (1, .int pa)] := hl
  refine lv_aload_n hx hb dX8_date_0 rfl (lv_at hl 0 rfl) ?_
  refine lv_iload_n hx hb dX8_date_1 rfl (lv_at hl 1 rfl) ?_
  refine lv_i2l hx hb dX8_date_2 rfl ?_
  refine lv_lconst (v := 0) hx hb dX8_date_3 (by decide) ?_
  refine lv_ldc2 hx hb hown (hts _ lk_X8_206) dX8_date_4 ?_
  refine hs_callS hC hs_Tok hW hL (ct_X8_in E _ _ _ _) cw_X8_in lk_X8_99 st_X8_in hl.1 (by decide) (Nat.le_of_ble_eq_true rfl) dX8_date_7 (hs_kp1 (fun H locs hW hL => ?_))
  refine lv_if_eq (tgt := 17) hx hb dX8_date_10 (by decide) (fun c10 => ?_) (fun c10 => ?_)
  · refine lv_iconst (v := 1) hx hb dX8_date_17 (by decide) ?_
    refine hs_put hC hW hL hi_X8 tyX8 tyX8_ok nmX8 rfl 0 (by decide) lk_X8_93 rfl rfl mo_obj ha.2.1 rfl rfl (Nat.le_of_ble_eq_true rfl) dX8_date_18 (fun H locs hW hL => ?_)
    rw [mo_putS (mo_fs0 _)] at hW
    refine lv_aload_n hx hb dX8_date_21 rfl (lv_at hl 0 rfl) ?_
    refine hs_get hC hW hi_X8 rfl 0 (by decide) lk_X8_93 rfl mo_obj rfl dX8_date_22 ?_
    refine lv_if_gt (tgt := 33) hx hb dX8_date_25 (by decide) (fun c25 => ?_) (fun c25 => ?_)
    · refine lv_aload_n hx hb dX8_date_33 rfl (lv_at hl 0 rfl) ?_
      refine hs_get hC hW hi_X8 rfl 0 (by decide) lk_X8_93 rfl mo_obj rfl dX8_date_34 ?_
      refine lv_if_le (tgt := 44) hx hb dX8_date_37 (by decide) (fun c37 => ?_) (fun c37 => ?_)
      · exact absurd c37 (by first | decide | simp [mo_up])
      refine lv_iconst (v := 0) hx hb dX8_date_40 (by decide) ?_
      refine lv_goto (tgt := 63) hx hb dX8_date_41 (by decide) ?_
      exact hs_iret hC hW hL hr hlocks (by decide) (by decide) dX8_date_63 ⟨rfl, rfl, _, _, _, _, rfl, rfl, by (first | exact ⟨⟨_, rfl⟩, rfl, fun j hj => by simp [mo_up, hj], (fun _ => rfl), (fun z => absurd z (hs_b_eq c10))⟩ | exact ⟨⟨_, rfl⟩, rfl, fun j hj => by simp [mo_up, hj], (fun z => absurd (hs_b_ne c10) z), (fun _ => ⟨rfl, by (unfold dt_v; rw [if_neg (dt_g (Int32.not_le.mp c30)).1, if_neg (dt_g (Int32.not_le.mp c30)).2.1, if_neg (dt_g (Int32.not_le.mp c30)).2.2, ← hI.2.2.1]); first | rw [if_pos c46]; rfl | rw [if_neg c46]; rfl⟩)⟩)⟩
    exact absurd c25 (by first | decide | simp [mo_up])
  refine lv_iconst (v := 0) hx hb dX8_date_13 (by decide) ?_
  refine lv_goto (tgt := 18) hx hb dX8_date_14 (by decide) ?_
  refine hs_put hC hW hL hi_X8 tyX8 tyX8_ok nmX8 rfl 0 (by decide) lk_X8_93 rfl rfl mo_obj ha.2.1 rfl rfl (Nat.le_of_ble_eq_true rfl) dX8_date_18 (fun H locs hW hL => ?_)
  rw [mo_putS (mo_fs0 _)] at hW
  refine lv_aload_n hx hb dX8_date_21 rfl (lv_at hl 0 rfl) ?_
  refine hs_get hC hW hi_X8 rfl 0 (by decide) lk_X8_93 rfl mo_obj rfl dX8_date_22 ?_
  refine lv_if_gt (tgt := 33) hx hb dX8_date_25 (by decide) (fun c25 => ?_) (fun c25 => ?_)
  · exact absurd c25 (by first | decide | simp [mo_up])
  refine lv_iload_n hx hb dX8_date_28 rfl (lv_at hl 1 rfl) ?_
  refine lv_iconst (v := 2) hx hb dX8_date_29 (by decide) ?_
  refine lv_icmp_le (tgt := 64) hx hb dX8_date_30 (by decide) (fun c30 => ?_) (fun c30 => ?_)
  · refine lv_aload_n hx hb dX8_date_64 rfl (lv_at hl 0 rfl) ?_
    refine hs_get hC hW hi_X8 rfl 1 (by decide) lk_X8_129 rfl mo_obj rfl dX8_date_65 ?_
    refine lv_istore_n (lv' := [(2, .int _), (0, .ref _), (1, .int _)]) hx hb dX8_date_68 rfl hl (by decide) rfl (fun ls hl => ?_)
    refine lv_sipush (v := 1970) hx hb dX8_date_69 (by decide) ?_
    refine lv_istore_n (lv' := [(3, .int _), (2, .int _), (0, .ref _), (1, .int _)]) hx hb dX8_date_72 rfl hl (by decide) rfl (fun ls hl => ?_)
    rw [show (1970 : Int32) = nI 1970 by decide +kernel] at hl
    rw [show (mo_up sc 0 0) 1 = nI d from hI.2.2.1] at hl
    refine hs_loop (σ := Nat × Nat × Nat) (fun x => match x with | (k, y, r) => k) (fun x H locs ls => match x with | (k, y, r) => (dt_y k y r = dt_Y d ∧ y + k = 2026 ∧ r < 365 * k) ∧ hs_W (eD E) vwCl (eH E) (mo_W E mo ar ix (mo_up sc 0 0) mI mL F) H ∧ (∀ q ∈ locs, (eH E).size ≤ q.base) ∧ lv_has ls 5 [(0, .ref mo), (1, .int pa), (2, .int (nI r)), (3, .int (nI y))]) ?_ (56, 1970, d) _ _ _ ⟨⟨rfl, rfl, by have := hI.2.2.2.1; omega⟩, hW, hL, (lv_sub hl [2, 3, 1, 0] rfl)⟩
    rintro ⟨k, y, r⟩ H locs ls ⟨hinv, hW, hL, hl⟩ ih
    replace hW : hs_W (eD E) vwCl (eH E) (mo_W E mo ar ix (mo_up sc 0 0) mI mL F) H := hW
    replace hl : lv_has ls 5 [(0, .ref mo), (1, .int pa), (2, .int (nI r)), (3, .int (nI y))] := hl
    refine lv_iload_n hx hb dX8_date_73 rfl (lv_at hl 2 rfl) ?_
    obtain ⟨k, rfl⟩ := dt_pos hinv.2.2
    refine lv_iload_n hx hb dX8_date_74 rfl (lv_at hl 3 rfl) ?_
    refine hs_callS hC hs_Tok hW hL (ct_X8_isLeap E _ _) cw_X8_isLeap lk_X8_114 st_X8_isLeap hl.1 (by decide) (Nat.le_of_ble_eq_true rfl) dX8_date_75 (hs_kp1 (fun H locs hW hL => ?_))
    refine lv_if_eq (tgt := 87) hx hb dX8_date_78 (by decide) (fun c78 => ?_) (fun c78 => ?_)
    · refine lv_sipush (v := 365) hx hb dX8_date_87 (by decide) ?_
      refine lv_icmp_lt (tgt := 118) hx hb dX8_date_90 (by decide) (fun c90 => ?_) (fun c90 => ?_)
      · refine lv_iconst (v := 1) hx hb dX8_date_118 (by decide) ?_
        refine lv_istore (lv' := [(4, .int _), (0, .ref _), (1, .int _), (2, .int _), (3, .int _)]) hx hb dX8_date_119 hl (by decide) rfl (fun ls hl => ?_)
        first | rw [dt_y0 c78] at c90 | rw [dt_y1 c78] at c90
        have hlt : r < dt_yl y := (nI_ltI (by omega) (by have := dt_yl_b y; omega)).mp c90
        have hY0 : dt_Y d = (y, r) := dt_y_e hinv.1 hlt
        have hY : (dt_Y d).1 = y := by rw [hY0]
        have hR0 : (dt_Y d).2 = r := by rw [hY0]
        have hr366 : r < 366 := by have := dt_yl_b y; omega
        refine hs_loop (σ := Nat × Nat × Nat) (fun x => match x with | (k, m, r) => k) (fun x H locs ls => match x with | (k, m, r) => (dt_m k y m r = dt_M d ∧ m + k = 13 ∧ r < dt_rl y k ∧ r < 366) ∧ hs_W (eD E) vwCl (eH E) (mo_W E mo ar ix (mo_up sc 0 0) mI mL F) H ∧ (∀ q ∈ locs, (eH E).size ≤ q.base) ∧ lv_has ls 5 [(0, .ref mo), (1, .int pa), (2, .int (nI r)), (3, .int (nI y)), (4, .int (nI m))]) ?_ (12, 1, r) _ _ _ ⟨⟨by unfold dt_M; rw [hY, hR0], rfl, by rw [dt_rl12]; exact hlt, hr366⟩, hW, hL, (lv_sub hl [1, 2, 3, 4, 0] rfl)⟩
        rintro ⟨k, m, r⟩ H locs ls ⟨hinv, hW, hL, hl⟩ ih
        replace hW : hs_W (eD E) vwCl (eH E) (mo_W E mo ar ix (mo_up sc 0 0) mI mL F) H := hW
        replace hl : lv_has ls 5 [(0, .ref mo), (1, .int pa), (2, .int (nI r)), (3, .int (nI y)), (4, .int (nI m))] := hl
        refine lv_iload_n hx hb dX8_date_121 rfl (lv_at hl 2 rfl) ?_
        obtain ⟨k, rfl⟩ := dt_rpos hinv.2.2.1
        refine lv_iload_n hx hb dX8_date_122 rfl (lv_at hl 3 rfl) ?_
        refine lv_iload hx hb dX8_date_123 (lv_at hl 4 rfl) ?_
        refine hs_callS hC hs_Tok hW hL (dt_len E _ _ m (by omega)) cw_X8_lengthOf lk_X8_208 st_X8_lengthOf hl.1 (by decide) (Nat.le_of_ble_eq_true rfl) dX8_date_125 (hs_kp1 (fun H locs hW hL => ?_))
        refine lv_icmp_lt (tgt := 146) hx hb dX8_date_128 (by decide) (fun c128 => ?_) (fun c128 => ?_)
        · have hM : dt_M d = (m, r) := dt_m_e hinv.1 ((nI_ltI (by omega) (by have := dt_ml_b y m; omega)).mp c128)
          refine lv_iload_n hx hb dX8_date_146 rfl (lv_at hl 1 rfl) ?_
          refine lv_if_ne (tgt := 154) hx hb dX8_date_147 (by decide) (fun c147 => ?_) (fun c147 => ?_)
          · refine lv_iload_n hx hb dX8_date_154 rfl (lv_at hl 1 rfl) ?_
            refine lv_iconst (v := 1) hx hb dX8_date_155 (by decide) ?_
            refine lv_icmp_ne (tgt := 164) hx hb dX8_date_156 (by decide) (fun c156 => ?_) (fun c156 => ?_)
            · refine lv_iload_n hx hb dX8_date_164 rfl (lv_at hl 2 rfl) ?_
              refine lv_iconst (v := 1) hx hb dX8_date_165 (by decide) ?_
              refine lv_iadd hx hb dX8_date_166 ?_
              exact hs_iret hC hW hL hr hlocks (by decide) (by decide) dX8_date_167 ⟨rfl, rfl, _, _, _, _, rfl, rfl, ⟨_, rfl⟩, rfl, fun j hj => by simp [mo_up, hj], (fun z => absurd (hs_b_ne c10) z), (fun _ => ⟨rfl, (by first | exact congrArg (fun z => some (Value.int z)) (dt_v2 (hs_b_ne c10) hM c147 c156 (Int32.not_lt.mpr c30)) | exact congrArg (fun z => some (Value.int z)) (dt_v1 hM c147 c156) | exact congrArg (fun z => some (Value.int z)) (dt_v0 hY c147))⟩)⟩
            refine lv_iload hx hb dX8_date_159 (lv_at hl 4 rfl) ?_
            refine lv_goto (tgt := 167) hx hb dX8_date_161 (by decide) ?_
            exact hs_iret hC hW hL hr hlocks (by decide) (by decide) dX8_date_167 ⟨rfl, rfl, _, _, _, _, rfl, rfl, ⟨_, rfl⟩, rfl, fun j hj => by simp [mo_up, hj], (fun z => absurd (hs_b_ne c10) z), (fun _ => ⟨rfl, (by first | exact congrArg (fun z => some (Value.int z)) (dt_v2 (hs_b_ne c10) hM c147 c156 (Int32.not_lt.mpr c30)) | exact congrArg (fun z => some (Value.int z)) (dt_v1 hM c147 c156) | exact congrArg (fun z => some (Value.int z)) (dt_v0 hY c147))⟩)⟩
          refine lv_iload_n hx hb dX8_date_150 rfl (lv_at hl 3 rfl) ?_
          refine lv_goto (tgt := 167) hx hb dX8_date_151 (by decide) ?_
          exact hs_iret hC hW hL hr hlocks (by decide) (by decide) dX8_date_167 ⟨rfl, rfl, _, _, _, _, rfl, rfl, ⟨_, rfl⟩, rfl, fun j hj => by simp [mo_up, hj], (fun z => absurd (hs_b_ne c10) z), (fun _ => ⟨rfl, (by first | exact congrArg (fun z => some (Value.int z)) (dt_v2 (hs_b_ne c10) hM c147 c156 (Int32.not_lt.mpr c30)) | exact congrArg (fun z => some (Value.int z)) (dt_v1 hM c147 c156) | exact congrArg (fun z => some (Value.int z)) (dt_v0 hY c147))⟩)⟩
        refine lv_iload_n hx hb dX8_date_131 rfl (lv_at hl 2 rfl) ?_
        refine lv_iload_n hx hb dX8_date_132 rfl (lv_at hl 3 rfl) ?_
        refine lv_iload hx hb dX8_date_133 (lv_at hl 4 rfl) ?_
        refine hs_callS hC hs_Tok hW hL (dt_len E _ _ m (by omega)) cw_X8_lengthOf lk_X8_208 st_X8_lengthOf hl.1 (by decide) (Nat.le_of_ble_eq_true rfl) dX8_date_135 (hs_kp1 (fun H locs hW hL => ?_))
        refine lv_isub hx hb dX8_date_138 ?_
        refine lv_istore_n (lv' := [(2, .int _), (0, .ref _), (1, .int _), (3, .int _), (4, .int _)]) hx hb dX8_date_139 rfl hl (by decide) rfl (fun ls hl => ?_)
        refine lv_iinc (lv' := [(4, .int _), (2, .int _), (0, .ref _), (1, .int _), (3, .int _)]) hx hb dX8_date_140 hl (k := 4) rfl rfl (by decide) rfl (fun ls hl => ?_)
        refine lv_goto (tgt := 121) hx hb dX8_date_143 (by decide) ?_
        have hle : dt_ml y m ≤ r := dt_le (by omega) (by have := dt_ml_b y m; omega) c128
        rw [pk_sub hle, hs_inc] at hl
        exact ih (k, m + 1, r - dt_ml y m) _ _ _ (by show k < k + 1; omega) ⟨⟨dt_m_s hinv.1 hle, by omega, dt_rl_s hinv.2.2.1 hinv.2.1 hle, by omega⟩, hW, hL, (lv_sub hl [2, 3, 1, 4, 0] rfl)⟩
      refine lv_iload_n hx hb dX8_date_93 rfl (lv_at hl 2 rfl) ?_
      refine lv_iload_n hx hb dX8_date_94 rfl (lv_at hl 3 rfl) ?_
      refine hs_callS hC hs_Tok hW hL (ct_X8_isLeap E _ _) cw_X8_isLeap lk_X8_114 st_X8_isLeap hl.1 (by decide) (Nat.le_of_ble_eq_true rfl) dX8_date_95 (hs_kp1 (fun H locs hW hL => ?_))
      refine lv_if_eq (tgt := 107) hx hb dX8_date_98 (by decide) (fun c98 => ?_) (fun c98 => ?_)
      · refine lv_sipush (v := 365) hx hb dX8_date_107 (by decide) ?_
        refine lv_isub hx hb dX8_date_110 ?_
        refine lv_istore_n (lv' := [(2, .int _), (0, .ref _), (1, .int _), (3, .int _)]) hx hb dX8_date_111 rfl hl (by decide) rfl (fun ls hl => ?_)
        refine lv_iinc (lv' := [(3, .int _), (2, .int _), (0, .ref _), (1, .int _)]) hx hb dX8_date_112 hl (k := 3) rfl rfl (by decide) rfl (fun ls hl => ?_)
        refine lv_goto (tgt := 73) hx hb dX8_date_115 (by decide) ?_
        first | rw [dt_y0 c78] at c90 | rw [dt_y1 c78] at c90
        have hle : dt_yl y ≤ r := dt_le (by omega) (by have := dt_yl_b y; omega) c90
        first | rw [dt_y0 c98, pk_sub hle, hs_inc] at hl | rw [dt_y1 c98, pk_sub hle, hs_inc] at hl
        exact ih (k, y + 1, r - dt_yl y) _ _ _ (by show k < k + 1; omega) ⟨⟨dt_y_s hinv.1 hle, by omega, by have := dt_yl_b y; omega⟩, hW, hL, (lv_sub hl [2, 3, 1, 0] rfl)⟩
      refine lv_sipush (v := 366) hx hb dX8_date_101 (by decide) ?_
      refine lv_goto (tgt := 110) hx hb dX8_date_104 (by decide) ?_
      refine lv_isub hx hb dX8_date_110 ?_
      refine lv_istore_n (lv' := [(2, .int _), (0, .ref _), (1, .int _), (3, .int _)]) hx hb dX8_date_111 rfl hl (by decide) rfl (fun ls hl => ?_)
      refine lv_iinc (lv' := [(3, .int _), (2, .int _), (0, .ref _), (1, .int _)]) hx hb dX8_date_112 hl (k := 3) rfl rfl (by decide) rfl (fun ls hl => ?_)
      refine lv_goto (tgt := 73) hx hb dX8_date_115 (by decide) ?_
      first | rw [dt_y0 c78] at c90 | rw [dt_y1 c78] at c90
      have hle : dt_yl y ≤ r := dt_le (by omega) (by have := dt_yl_b y; omega) c90
      first | rw [dt_y0 c98, pk_sub hle, hs_inc] at hl | rw [dt_y1 c98, pk_sub hle, hs_inc] at hl
      exact ih (k, y + 1, r - dt_yl y) _ _ _ (by show k < k + 1; omega) ⟨⟨dt_y_s hinv.1 hle, by omega, by have := dt_yl_b y; omega⟩, hW, hL, (lv_sub hl [2, 3, 1, 0] rfl)⟩
    refine lv_sipush (v := 366) hx hb dX8_date_81 (by decide) ?_
    refine lv_goto (tgt := 90) hx hb dX8_date_84 (by decide) ?_
    refine lv_icmp_lt (tgt := 118) hx hb dX8_date_90 (by decide) (fun c90 => ?_) (fun c90 => ?_)
    · refine lv_iconst (v := 1) hx hb dX8_date_118 (by decide) ?_
      refine lv_istore (lv' := [(4, .int _), (0, .ref _), (1, .int _), (2, .int _), (3, .int _)]) hx hb dX8_date_119 hl (by decide) rfl (fun ls hl => ?_)
      first | rw [dt_y0 c78] at c90 | rw [dt_y1 c78] at c90
      have hlt : r < dt_yl y := (nI_ltI (by omega) (by have := dt_yl_b y; omega)).mp c90
      have hY0 : dt_Y d = (y, r) := dt_y_e hinv.1 hlt
      have hY : (dt_Y d).1 = y := by rw [hY0]
      have hR0 : (dt_Y d).2 = r := by rw [hY0]
      have hr366 : r < 366 := by have := dt_yl_b y; omega
      refine hs_loop (σ := Nat × Nat × Nat) (fun x => match x with | (k, m, r) => k) (fun x H locs ls => match x with | (k, m, r) => (dt_m k y m r = dt_M d ∧ m + k = 13 ∧ r < dt_rl y k ∧ r < 366) ∧ hs_W (eD E) vwCl (eH E) (mo_W E mo ar ix (mo_up sc 0 0) mI mL F) H ∧ (∀ q ∈ locs, (eH E).size ≤ q.base) ∧ lv_has ls 5 [(0, .ref mo), (1, .int pa), (2, .int (nI r)), (3, .int (nI y)), (4, .int (nI m))]) ?_ (12, 1, r) _ _ _ ⟨⟨by unfold dt_M; rw [hY, hR0], rfl, by rw [dt_rl12]; exact hlt, hr366⟩, hW, hL, (lv_sub hl [1, 2, 3, 4, 0] rfl)⟩
      rintro ⟨k, m, r⟩ H locs ls ⟨hinv, hW, hL, hl⟩ ih
      replace hW : hs_W (eD E) vwCl (eH E) (mo_W E mo ar ix (mo_up sc 0 0) mI mL F) H := hW
      replace hl : lv_has ls 5 [(0, .ref mo), (1, .int pa), (2, .int (nI r)), (3, .int (nI y)), (4, .int (nI m))] := hl
      refine lv_iload_n hx hb dX8_date_121 rfl (lv_at hl 2 rfl) ?_
      obtain ⟨k, rfl⟩ := dt_rpos hinv.2.2.1
      refine lv_iload_n hx hb dX8_date_122 rfl (lv_at hl 3 rfl) ?_
      refine lv_iload hx hb dX8_date_123 (lv_at hl 4 rfl) ?_
      refine hs_callS hC hs_Tok hW hL (dt_len E _ _ m (by omega)) cw_X8_lengthOf lk_X8_208 st_X8_lengthOf hl.1 (by decide) (Nat.le_of_ble_eq_true rfl) dX8_date_125 (hs_kp1 (fun H locs hW hL => ?_))
      refine lv_icmp_lt (tgt := 146) hx hb dX8_date_128 (by decide) (fun c128 => ?_) (fun c128 => ?_)
      · have hM : dt_M d = (m, r) := dt_m_e hinv.1 ((nI_ltI (by omega) (by have := dt_ml_b y m; omega)).mp c128)
        refine lv_iload_n hx hb dX8_date_146 rfl (lv_at hl 1 rfl) ?_
        refine lv_if_ne (tgt := 154) hx hb dX8_date_147 (by decide) (fun c147 => ?_) (fun c147 => ?_)
        · refine lv_iload_n hx hb dX8_date_154 rfl (lv_at hl 1 rfl) ?_
          refine lv_iconst (v := 1) hx hb dX8_date_155 (by decide) ?_
          refine lv_icmp_ne (tgt := 164) hx hb dX8_date_156 (by decide) (fun c156 => ?_) (fun c156 => ?_)
          · refine lv_iload_n hx hb dX8_date_164 rfl (lv_at hl 2 rfl) ?_
            refine lv_iconst (v := 1) hx hb dX8_date_165 (by decide) ?_
            refine lv_iadd hx hb dX8_date_166 ?_
            exact hs_iret hC hW hL hr hlocks (by decide) (by decide) dX8_date_167 ⟨rfl, rfl, _, _, _, _, rfl, rfl, ⟨_, rfl⟩, rfl, fun j hj => by simp [mo_up, hj], (fun z => absurd (hs_b_ne c10) z), (fun _ => ⟨rfl, (by first | exact congrArg (fun z => some (Value.int z)) (dt_v2 (hs_b_ne c10) hM c147 c156 (Int32.not_lt.mpr c30)) | exact congrArg (fun z => some (Value.int z)) (dt_v1 hM c147 c156) | exact congrArg (fun z => some (Value.int z)) (dt_v0 hY c147))⟩)⟩
          refine lv_iload hx hb dX8_date_159 (lv_at hl 4 rfl) ?_
          refine lv_goto (tgt := 167) hx hb dX8_date_161 (by decide) ?_
          exact hs_iret hC hW hL hr hlocks (by decide) (by decide) dX8_date_167 ⟨rfl, rfl, _, _, _, _, rfl, rfl, ⟨_, rfl⟩, rfl, fun j hj => by simp [mo_up, hj], (fun z => absurd (hs_b_ne c10) z), (fun _ => ⟨rfl, (by first | exact congrArg (fun z => some (Value.int z)) (dt_v2 (hs_b_ne c10) hM c147 c156 (Int32.not_lt.mpr c30)) | exact congrArg (fun z => some (Value.int z)) (dt_v1 hM c147 c156) | exact congrArg (fun z => some (Value.int z)) (dt_v0 hY c147))⟩)⟩
        refine lv_iload_n hx hb dX8_date_150 rfl (lv_at hl 3 rfl) ?_
        refine lv_goto (tgt := 167) hx hb dX8_date_151 (by decide) ?_
        exact hs_iret hC hW hL hr hlocks (by decide) (by decide) dX8_date_167 ⟨rfl, rfl, _, _, _, _, rfl, rfl, ⟨_, rfl⟩, rfl, fun j hj => by simp [mo_up, hj], (fun z => absurd (hs_b_ne c10) z), (fun _ => ⟨rfl, (by first | exact congrArg (fun z => some (Value.int z)) (dt_v2 (hs_b_ne c10) hM c147 c156 (Int32.not_lt.mpr c30)) | exact congrArg (fun z => some (Value.int z)) (dt_v1 hM c147 c156) | exact congrArg (fun z => some (Value.int z)) (dt_v0 hY c147))⟩)⟩
      refine lv_iload_n hx hb dX8_date_131 rfl (lv_at hl 2 rfl) ?_
      refine lv_iload_n hx hb dX8_date_132 rfl (lv_at hl 3 rfl) ?_
      refine lv_iload hx hb dX8_date_133 (lv_at hl 4 rfl) ?_
      refine hs_callS hC hs_Tok hW hL (dt_len E _ _ m (by omega)) cw_X8_lengthOf lk_X8_208 st_X8_lengthOf hl.1 (by decide) (Nat.le_of_ble_eq_true rfl) dX8_date_135 (hs_kp1 (fun H locs hW hL => ?_))
      refine lv_isub hx hb dX8_date_138 ?_
      refine lv_istore_n (lv' := [(2, .int _), (0, .ref _), (1, .int _), (3, .int _), (4, .int _)]) hx hb dX8_date_139 rfl hl (by decide) rfl (fun ls hl => ?_)
      refine lv_iinc (lv' := [(4, .int _), (2, .int _), (0, .ref _), (1, .int _), (3, .int _)]) hx hb dX8_date_140 hl (k := 4) rfl rfl (by decide) rfl (fun ls hl => ?_)
      refine lv_goto (tgt := 121) hx hb dX8_date_143 (by decide) ?_
      have hle : dt_ml y m ≤ r := dt_le (by omega) (by have := dt_ml_b y m; omega) c128
      rw [pk_sub hle, hs_inc] at hl
      exact ih (k, m + 1, r - dt_ml y m) _ _ _ (by show k < k + 1; omega) ⟨⟨dt_m_s hinv.1 hle, by omega, dt_rl_s hinv.2.2.1 hinv.2.1 hle, by omega⟩, hW, hL, (lv_sub hl [2, 3, 1, 4, 0] rfl)⟩
    refine lv_iload_n hx hb dX8_date_93 rfl (lv_at hl 2 rfl) ?_
    refine lv_iload_n hx hb dX8_date_94 rfl (lv_at hl 3 rfl) ?_
    refine hs_callS hC hs_Tok hW hL (ct_X8_isLeap E _ _) cw_X8_isLeap lk_X8_114 st_X8_isLeap hl.1 (by decide) (Nat.le_of_ble_eq_true rfl) dX8_date_95 (hs_kp1 (fun H locs hW hL => ?_))
    refine lv_if_eq (tgt := 107) hx hb dX8_date_98 (by decide) (fun c98 => ?_) (fun c98 => ?_)
    · refine lv_sipush (v := 365) hx hb dX8_date_107 (by decide) ?_
      refine lv_isub hx hb dX8_date_110 ?_
      refine lv_istore_n (lv' := [(2, .int _), (0, .ref _), (1, .int _), (3, .int _)]) hx hb dX8_date_111 rfl hl (by decide) rfl (fun ls hl => ?_)
      refine lv_iinc (lv' := [(3, .int _), (2, .int _), (0, .ref _), (1, .int _)]) hx hb dX8_date_112 hl (k := 3) rfl rfl (by decide) rfl (fun ls hl => ?_)
      refine lv_goto (tgt := 73) hx hb dX8_date_115 (by decide) ?_
      first | rw [dt_y0 c78] at c90 | rw [dt_y1 c78] at c90
      have hle : dt_yl y ≤ r := dt_le (by omega) (by have := dt_yl_b y; omega) c90
      first | rw [dt_y0 c98, pk_sub hle, hs_inc] at hl | rw [dt_y1 c98, pk_sub hle, hs_inc] at hl
      exact ih (k, y + 1, r - dt_yl y) _ _ _ (by show k < k + 1; omega) ⟨⟨dt_y_s hinv.1 hle, by omega, by have := dt_yl_b y; omega⟩, hW, hL, (lv_sub hl [2, 3, 1, 0] rfl)⟩
    refine lv_sipush (v := 366) hx hb dX8_date_101 (by decide) ?_
    refine lv_goto (tgt := 110) hx hb dX8_date_104 (by decide) ?_
    refine lv_isub hx hb dX8_date_110 ?_
    refine lv_istore_n (lv' := [(2, .int _), (0, .ref _), (1, .int _), (3, .int _)]) hx hb dX8_date_111 rfl hl (by decide) rfl (fun ls hl => ?_)
    refine lv_iinc (lv' := [(3, .int _), (2, .int _), (0, .ref _), (1, .int _)]) hx hb dX8_date_112 hl (k := 3) rfl rfl (by decide) rfl (fun ls hl => ?_)
    refine lv_goto (tgt := 73) hx hb dX8_date_115 (by decide) ?_
    first | rw [dt_y0 c78] at c90 | rw [dt_y1 c78] at c90
    have hle : dt_yl y ≤ r := dt_le (by omega) (by have := dt_yl_b y; omega) c90
    first | rw [dt_y0 c98, pk_sub hle, hs_inc] at hl | rw [dt_y1 c98, pk_sub hle, hs_inc] at hl
    exact ih (k, y + 1, r - dt_yl y) _ _ _ (by show k < k + 1; omega) ⟨⟨dt_y_s hinv.1 hle, by omega, by have := dt_yl_b y; omega⟩, hW, hL, (lv_sub hl [2, 3, 1, 0] rfl)⟩
  refine lv_aload_n hx hb dX8_date_33 rfl (lv_at hl 0 rfl) ?_
  refine hs_get hC hW hi_X8 rfl 0 (by decide) lk_X8_93 rfl mo_obj rfl dX8_date_34 ?_
  refine lv_if_le (tgt := 44) hx hb dX8_date_37 (by decide) (fun c37 => ?_) (fun c37 => ?_)
  · refine lv_iload_n hx hb dX8_date_44 rfl (lv_at hl 1 rfl) ?_
    refine lv_iconst (v := 3) hx hb dX8_date_45 (by decide) ?_
    refine lv_icmp_ne (tgt := 59) hx hb dX8_date_46 (by decide) (fun c46 => ?_) (fun c46 => ?_)
    · refine lv_aload_n hx hb dX8_date_59 rfl (lv_at hl 0 rfl) ?_
      refine hs_get hC hW hi_X8 rfl 1 (by decide) lk_X8_129 rfl mo_obj rfl dX8_date_60 ?_
      exact hs_iret hC hW hL hr hlocks (by decide) (by decide) dX8_date_63 ⟨rfl, rfl, _, _, _, _, rfl, rfl, by (first | exact ⟨⟨_, rfl⟩, rfl, fun j hj => by simp [mo_up, hj], (fun _ => rfl), (fun z => absurd z (hs_b_eq c10))⟩ | exact ⟨⟨_, rfl⟩, rfl, fun j hj => by simp [mo_up, hj], (fun z => absurd (hs_b_ne c10) z), (fun _ => ⟨rfl, by (unfold dt_v; rw [if_neg (dt_g (Int32.not_le.mp c30)).1, if_neg (dt_g (Int32.not_le.mp c30)).2.1, if_neg (dt_g (Int32.not_le.mp c30)).2.2, ← hI.2.2.1]); first | rw [if_pos c46]; rfl | rw [if_neg c46]; rfl⟩)⟩)⟩
    refine lv_aload_n hx hb dX8_date_49 rfl (lv_at hl 0 rfl) ?_
    refine hs_get hC hW hi_X8 rfl 1 (by decide) lk_X8_129 rfl mo_obj rfl dX8_date_50 ?_
    refine hs_callS hC hs_Tok hW hL (ct_X8_weekday E _ _) cw_X8_weekday lk_X8_110 st_X8_weekday hl.1 (by decide) (Nat.le_of_ble_eq_true rfl) dX8_date_53 (hs_kp1 (fun H locs hW hL => ?_))
    refine lv_goto (tgt := 63) hx hb dX8_date_56 (by decide) ?_
    exact hs_iret hC hW hL hr hlocks (by decide) (by decide) dX8_date_63 ⟨rfl, rfl, _, _, _, _, rfl, rfl, by (first | exact ⟨⟨_, rfl⟩, rfl, fun j hj => by simp [mo_up, hj], (fun _ => rfl), (fun z => absurd z (hs_b_eq c10))⟩ | exact ⟨⟨_, rfl⟩, rfl, fun j hj => by simp [mo_up, hj], (fun z => absurd (hs_b_ne c10) z), (fun _ => ⟨rfl, by (unfold dt_v; rw [if_neg (dt_g (Int32.not_le.mp c30)).1, if_neg (dt_g (Int32.not_le.mp c30)).2.1, if_neg (dt_g (Int32.not_le.mp c30)).2.2, ← hI.2.2.1]); first | rw [if_pos c46]; rfl | rw [if_neg c46]; rfl⟩)⟩)⟩
  exact absurd c37 (by first | decide | simp [mo_up])
