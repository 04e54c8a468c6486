/-! the reference: businessDay, match, count, move, settle, isCovered -/
set_option maxHeartbeats 4000000 in
set_option maxRecDepth 100000 in
/-- Model.move, into the array of field 3 -/
theorem ct_X8_moveB (E : hs_E) (mo : Nat) (ar : Nat → Nat) (ix : Nat → Option Nat) (sc : Nat → Int32) (mI : Nat → Nat → Int32) (mL : Nat → Nat → Int64) (F : hs_G) (ha : mo_ok E mo ar ix) (N d S j : Nat) (q ca : Int32) (hj : j < N) (hI : mo_B sc mI N d S) : hM E yX8_move ({ frames := 1, cells := 0, slots := 0, locals := 30 }) [.ref mo, .int (nI j), .int q, .int ca, .ref (ar 3)] (mo_W E mo ar ix sc mI mL F) (mo_P E mo ar ix F (fun v sc2 mI2 _ => v = none ∧ sc2 = sc ∧ mI2 = mI)) := by
  refine hs_ofW (cc := cX8_move) (maxL := 5) (ret := none) (by decide) co_X8_move ?_
  intro p e s m args below meth c hC hlocks hr hin0 hnoh hW
  obtain ⟨hx, hb, hml, hown, hts, -⟩ := id hC
  have hE := hW
  have hL : ∀ q ∈ ([] : List Loc), (eH E).size ≤ q.base := fun q hq => nomatch hq
  have hl := lv_entry ([.ref mo, .int (nI j), .int q, .int ca, .ref (ar 3)] : List Value) (n := 5) (Nat.le_of_ble_eq_true rfl)
  rw [lg_entry_eq]
  generalize (lg_sl [.ref mo, .int (nI j), .int q, .int ca, .ref (ar 3)] ++ List.replicate (5 - (lg_sl [.ref mo, .int (nI j), .int q, .int ca, .ref (ar 3)]).length) Slot.unset).toArray = ls at hl ⊢
  have hl : lv_has ls 5 [(0, .ref mo), (1, .int (nI j)), (2, .int q), (3, .int ca), (4, .ref (ar 3))] := hl
  obtain ⟨⟨a, ha16, hda⟩, ⟨b, hb16, hdb⟩, ⟨g, hg8, hdg⟩⟩ := hI.2.2.2.2.2 j hj
  have hj150 : j < 150 := Nat.lt_of_lt_of_le hj hI.2.1
  have hjn : vp_in (nI j) 150 := vp_in_nI hj150 (by decide)
  have hcl : (nI j).toNatClampNeg = j := nI_clamp (by omega)
  refine lv_aload hx hb dX8_move_0 (lv_at hl 4 rfl) ?_
  refine lv_aload_n hx hb dX8_move_2 rfl (lv_at hl 0 rfl) ?_
  refine hs_get hC hW hi_X8 rfl 5 (by decide) lk_X8_17 rfl mo_obj rfl dX8_move_3 ?_
  refine lv_iload_n hx hb dX8_move_6 rfl (lv_at hl 1 rfl) ?_
  refine hs_iald hC hW 0 (mo_int ha.1 5 rfl) rfl hjn dX8_move_7 ?_
  refine lv_aload_n hx hb dX8_move_8 rfl (lv_at hl 0 rfl) ?_
  refine hs_get hC hW hi_X8 rfl 7 (by decide) lk_X8_24 rfl mo_obj rfl dX8_move_9 ?_
  refine lv_iload_n hx hb dX8_move_12 rfl (lv_at hl 1 rfl) ?_
  refine hs_iald hC hW 0 (mo_int ha.1 7 rfl) rfl hjn dX8_move_13 ?_
  refine hs_callS hC hs_Tok hW hL (ct_X8_place E _ _ _) cw_X8_place lk_X8_118 st_X8_place hl.1 (by decide) (Nat.le_of_ble_eq_true rfl) dX8_move_14 (hs_kp1 (fun H locs hW hL => ?_))
  refine lv_dup2_11 hx hb dX8_move_17 rfl rfl ?_
  refine hs_lald hC hW 1 (mo_long ha.1 3 rfl) rfl (by rw [hcl, hda, hdg]; exact mo_pl_in ha16 hg8) dX8_move_18 ?_
  refine lv_iload_n hx hb dX8_move_19 rfl (lv_at hl 2 rfl) ?_
  refine lv_i2l hx hb dX8_move_20 rfl ?_
  refine lv_lsub hx hb dX8_move_21 ?_
  refine hs_last hC hW hL 1 (mo_long ha.1 3 rfl) (ha.2.2 3 rfl) rfl (by rw [hcl, hda, hdg]; exact mo_pl_in ha16 hg8) dX8_move_22 (fun H locs hW hL => ?_)
  rw [mo_putL ha.1 3 rfl] at hW
  refine lv_aload hx hb dX8_move_23 (lv_at hl 4 rfl) ?_
  refine lv_aload_n hx hb dX8_move_25 rfl (lv_at hl 0 rfl) ?_
  refine hs_get hC hW hi_X8 rfl 6 (by decide) lk_X8_21 rfl mo_obj rfl dX8_move_26 ?_
  refine lv_iload_n hx hb dX8_move_29 rfl (lv_at hl 1 rfl) ?_
  refine hs_iald hC hW 0 (mo_int ha.1 6 rfl) rfl hjn dX8_move_30 ?_
  refine lv_aload_n hx hb dX8_move_31 rfl (lv_at hl 0 rfl) ?_
  refine hs_get hC hW hi_X8 rfl 7 (by decide) lk_X8_24 rfl mo_obj rfl dX8_move_32 ?_
  refine lv_iload_n hx hb dX8_move_35 rfl (lv_at hl 1 rfl) ?_
  refine hs_iald hC hW 0 (mo_int ha.1 7 rfl) rfl hjn dX8_move_36 ?_
  refine hs_callS hC hs_Tok hW hL (ct_X8_place E _ _ _) cw_X8_place lk_X8_118 st_X8_place hl.1 (by decide) (Nat.le_of_ble_eq_true rfl) dX8_move_37 (hs_kp1 (fun H locs hW hL => ?_))
  refine lv_dup2_11 hx hb dX8_move_40 rfl rfl ?_
  refine hs_lald hC hW 1 (mo_long ha.1 3 rfl) rfl (by rw [hcl, hdb, hdg]; exact mo_pl_in hb16 hg8) dX8_move_41 ?_
  refine lv_iload_n hx hb dX8_move_42 rfl (lv_at hl 2 rfl) ?_
  refine lv_i2l hx hb dX8_move_43 rfl ?_
  refine lv_ladd hx hb dX8_move_44 ?_
  refine hs_last hC hW hL 1 (mo_long ha.1 3 rfl) (ha.2.2 3 rfl) rfl (by rw [hcl, hdb, hdg]; exact mo_pl_in hb16 hg8) dX8_move_45 (fun H locs hW hL => ?_)
  rw [mo_putL ha.1 3 rfl] at hW
  refine lv_aload hx hb dX8_move_46 (lv_at hl 4 rfl) ?_
  refine lv_aload_n hx hb dX8_move_48 rfl (lv_at hl 0 rfl) ?_
  refine hs_get hC hW hi_X8 rfl 6 (by decide) lk_X8_21 rfl mo_obj rfl dX8_move_49 ?_
  refine lv_iload_n hx hb dX8_move_52 rfl (lv_at hl 1 rfl) ?_
  refine hs_iald hC hW 0 (mo_int ha.1 6 rfl) rfl hjn dX8_move_53 ?_
  refine lv_iconst (v := (-1)) hx hb dX8_move_54 (by decide) ?_
  refine hs_callS hC hs_Tok hW hL (ct_X8_place E _ _ _) cw_X8_place lk_X8_118 st_X8_place hl.1 (by decide) (Nat.le_of_ble_eq_true rfl) dX8_move_55 (hs_kp1 (fun H locs hW hL => ?_))
  refine lv_dup2_11 hx hb dX8_move_58 rfl rfl ?_
  refine hs_lald hC hW 1 (mo_long ha.1 3 rfl) rfl (by rw [hcl, hdb]; exact mo_pl_in1 hb16) dX8_move_59 ?_
  refine lv_iload_n hx hb dX8_move_60 rfl (lv_at hl 3 rfl) ?_
  refine lv_i2l hx hb dX8_move_61 rfl ?_
  refine lv_lsub hx hb dX8_move_62 ?_
  refine hs_last hC hW hL 1 (mo_long ha.1 3 rfl) (ha.2.2 3 rfl) rfl (by rw [hcl, hdb]; exact mo_pl_in1 hb16) dX8_move_63 (fun H locs hW hL => ?_)
  rw [mo_putL ha.1 3 rfl] at hW
  refine lv_aload hx hb dX8_move_64 (lv_at hl 4 rfl) ?_
  refine lv_aload_n hx hb dX8_move_66 rfl (lv_at hl 0 rfl) ?_
  refine hs_get hC hW hi_X8 rfl 5 (by decide) lk_X8_17 rfl mo_obj rfl dX8_move_67 ?_
  refine lv_iload_n hx hb dX8_move_70 rfl (lv_at hl 1 rfl) ?_
  refine hs_iald hC hW 0 (mo_int ha.1 5 rfl) rfl hjn dX8_move_71 ?_
  refine lv_iconst (v := (-1)) hx hb dX8_move_72 (by decide) ?_
  refine hs_callS hC hs_Tok hW hL (ct_X8_place E _ _ _) cw_X8_place lk_X8_118 st_X8_place hl.1 (by decide) (Nat.le_of_ble_eq_true rfl) dX8_move_73 (hs_kp1 (fun H locs hW hL => ?_))
  refine lv_dup2_11 hx hb dX8_move_76 rfl rfl ?_
  refine hs_lald hC hW 1 (mo_long ha.1 3 rfl) rfl (by rw [hcl, hda]; exact mo_pl_in1 ha16) dX8_move_77 ?_
  refine lv_iload_n hx hb dX8_move_78 rfl (lv_at hl 3 rfl) ?_
  refine lv_i2l hx hb dX8_move_79 rfl ?_
  refine lv_ladd hx hb dX8_move_80 ?_
  refine hs_last hC hW hL 1 (mo_long ha.1 3 rfl) (ha.2.2 3 rfl) rfl (by rw [hcl, hda]; exact mo_pl_in1 ha16) dX8_move_81 (fun H locs hW hL => ?_)
  rw [mo_putL ha.1 3 rfl] at hW
  exact hs_vret hC hW hL hr hlocks (by decide) (by decide) dX8_move_82 ⟨rfl, rfl, _, _, _, _, rfl, rfl, rfl, rfl, rfl⟩
set_option maxHeartbeats 4000000 in
set_option maxRecDepth 100000 in
/-- Model.move, into the array of field 30 -/
theorem ct_X8_moveM (E : hs_E) (mo : Nat) (ar : Nat → Nat) (ix : Nat → Option Nat) (sc : Nat → Int32) (mI : Nat → Nat → Int32) (mL : Nat → Nat → Int64) (F : hs_G) (ha : mo_ok E mo ar ix) (N d S j : Nat) (q ca : Int32) (hj : j < N) (hI : mo_B sc mI N d S) : hM E yX8_move ({ frames := 1, cells := 0, slots := 0, locals := 30 }) [.ref mo, .int (nI j), .int q, .int ca, .ref (ar 30)] (mo_W E mo ar ix sc mI mL F) (mo_P E mo ar ix F (fun v sc2 mI2 _ => v = none ∧ sc2 = sc ∧ mI2 = mI)) := by
  refine hs_ofW (cc := cX8_move) (maxL := 5) (ret := none) (by decide) co_X8_move ?_
  intro p e s m args below meth c hC hlocks hr hin0 hnoh hW
  obtain ⟨hx, hb, hml, hown, hts, -⟩ := id hC
  have hE := hW
  have hL : ∀ q ∈ ([] : List Loc), (eH E).size ≤ q.base := fun q hq => nomatch hq
  have hl := lv_entry ([.ref mo, .int (nI j), .int q, .int ca, .ref (ar 30)] : List Value) (n := 5) (Nat.le_of_ble_eq_true rfl)
  rw [lg_entry_eq]
  generalize (lg_sl [.ref mo, .int (nI j), .int q, .int ca, .ref (ar 30)] ++ List.replicate (5 - (lg_sl [.ref mo, .int (nI j), .int q, .int ca, .ref (ar 30)]).length) Slot.unset).toArray = ls at hl ⊢
  have hl : lv_has ls 5 [(0, .ref mo), (1, .int (nI j)), (2, .int q), (3, .int ca), (4, .ref (ar 30))] := hl
  obtain ⟨⟨a, ha16, hda⟩, ⟨b, hb16, hdb⟩, ⟨g, hg8, hdg⟩⟩ := hI.2.2.2.2.2 j hj
  have hj150 : j < 150 := Nat.lt_of_lt_of_le hj hI.2.1
  have hjn : vp_in (nI j) 150 := vp_in_nI hj150 (by decide)
  have hcl : (nI j).toNatClampNeg = j := nI_clamp (by omega)
  refine lv_aload hx hb dX8_move_0 (lv_at hl 4 rfl) ?_
  refine lv_aload_n hx hb dX8_move_2 rfl (lv_at hl 0 rfl) ?_
  refine hs_get hC hW hi_X8 rfl 5 (by decide) lk_X8_17 rfl mo_obj rfl dX8_move_3 ?_
  refine lv_iload_n hx hb dX8_move_6 rfl (lv_at hl 1 rfl) ?_
  refine hs_iald hC hW 0 (mo_int ha.1 5 rfl) rfl hjn dX8_move_7 ?_
  refine lv_aload_n hx hb dX8_move_8 rfl (lv_at hl 0 rfl) ?_
  refine hs_get hC hW hi_X8 rfl 7 (by decide) lk_X8_24 rfl mo_obj rfl dX8_move_9 ?_
  refine lv_iload_n hx hb dX8_move_12 rfl (lv_at hl 1 rfl) ?_
  refine hs_iald hC hW 0 (mo_int ha.1 7 rfl) rfl hjn dX8_move_13 ?_
  refine hs_callS hC hs_Tok hW hL (ct_X8_place E _ _ _) cw_X8_place lk_X8_118 st_X8_place hl.1 (by decide) (Nat.le_of_ble_eq_true rfl) dX8_move_14 (hs_kp1 (fun H locs hW hL => ?_))
  refine lv_dup2_11 hx hb dX8_move_17 rfl rfl ?_
  refine hs_lald hC hW 1 (mo_long ha.1 30 rfl) rfl (by rw [hcl, hda, hdg]; exact mo_pl_in ha16 hg8) dX8_move_18 ?_
  refine lv_iload_n hx hb dX8_move_19 rfl (lv_at hl 2 rfl) ?_
  refine lv_i2l hx hb dX8_move_20 rfl ?_
  refine lv_lsub hx hb dX8_move_21 ?_
  refine hs_last hC hW hL 1 (mo_long ha.1 30 rfl) (ha.2.2 30 rfl) rfl (by rw [hcl, hda, hdg]; exact mo_pl_in ha16 hg8) dX8_move_22 (fun H locs hW hL => ?_)
  rw [mo_putL ha.1 30 rfl] at hW
  refine lv_aload hx hb dX8_move_23 (lv_at hl 4 rfl) ?_
  refine lv_aload_n hx hb dX8_move_25 rfl (lv_at hl 0 rfl) ?_
  refine hs_get hC hW hi_X8 rfl 6 (by decide) lk_X8_21 rfl mo_obj rfl dX8_move_26 ?_
  refine lv_iload_n hx hb dX8_move_29 rfl (lv_at hl 1 rfl) ?_
  refine hs_iald hC hW 0 (mo_int ha.1 6 rfl) rfl hjn dX8_move_30 ?_
  refine lv_aload_n hx hb dX8_move_31 rfl (lv_at hl 0 rfl) ?_
  refine hs_get hC hW hi_X8 rfl 7 (by decide) lk_X8_24 rfl mo_obj rfl dX8_move_32 ?_
  refine lv_iload_n hx hb dX8_move_35 rfl (lv_at hl 1 rfl) ?_
  refine hs_iald hC hW 0 (mo_int ha.1 7 rfl) rfl hjn dX8_move_36 ?_
  refine hs_callS hC hs_Tok hW hL (ct_X8_place E _ _ _) cw_X8_place lk_X8_118 st_X8_place hl.1 (by decide) (Nat.le_of_ble_eq_true rfl) dX8_move_37 (hs_kp1 (fun H locs hW hL => ?_))
  refine lv_dup2_11 hx hb dX8_move_40 rfl rfl ?_
  refine hs_lald hC hW 1 (mo_long ha.1 30 rfl) rfl (by rw [hcl, hdb, hdg]; exact mo_pl_in hb16 hg8) dX8_move_41 ?_
  refine lv_iload_n hx hb dX8_move_42 rfl (lv_at hl 2 rfl) ?_
  refine lv_i2l hx hb dX8_move_43 rfl ?_
  refine lv_ladd hx hb dX8_move_44 ?_
  refine hs_last hC hW hL 1 (mo_long ha.1 30 rfl) (ha.2.2 30 rfl) rfl (by rw [hcl, hdb, hdg]; exact mo_pl_in hb16 hg8) dX8_move_45 (fun H locs hW hL => ?_)
  rw [mo_putL ha.1 30 rfl] at hW
  refine lv_aload hx hb dX8_move_46 (lv_at hl 4 rfl) ?_
  refine lv_aload_n hx hb dX8_move_48 rfl (lv_at hl 0 rfl) ?_
  refine hs_get hC hW hi_X8 rfl 6 (by decide) lk_X8_21 rfl mo_obj rfl dX8_move_49 ?_
  refine lv_iload_n hx hb dX8_move_52 rfl (lv_at hl 1 rfl) ?_
  refine hs_iald hC hW 0 (mo_int ha.1 6 rfl) rfl hjn dX8_move_53 ?_
  refine lv_iconst (v := (-1)) hx hb dX8_move_54 (by decide) ?_
  refine hs_callS hC hs_Tok hW hL (ct_X8_place E _ _ _) cw_X8_place lk_X8_118 st_X8_place hl.1 (by decide) (Nat.le_of_ble_eq_true rfl) dX8_move_55 (hs_kp1 (fun H locs hW hL => ?_))
  refine lv_dup2_11 hx hb dX8_move_58 rfl rfl ?_
  refine hs_lald hC hW 1 (mo_long ha.1 30 rfl) rfl (by rw [hcl, hdb]; exact mo_pl_in1 hb16) dX8_move_59 ?_
  refine lv_iload_n hx hb dX8_move_60 rfl (lv_at hl 3 rfl) ?_
  refine lv_i2l hx hb dX8_move_61 rfl ?_
  refine lv_lsub hx hb dX8_move_62 ?_
  refine hs_last hC hW hL 1 (mo_long ha.1 30 rfl) (ha.2.2 30 rfl) rfl (by rw [hcl, hdb]; exact mo_pl_in1 hb16) dX8_move_63 (fun H locs hW hL => ?_)
  rw [mo_putL ha.1 30 rfl] at hW
  refine lv_aload hx hb dX8_move_64 (lv_at hl 4 rfl) ?_
  refine lv_aload_n hx hb dX8_move_66 rfl (lv_at hl 0 rfl) ?_
  refine hs_get hC hW hi_X8 rfl 5 (by decide) lk_X8_17 rfl mo_obj rfl dX8_move_67 ?_
  refine lv_iload_n hx hb dX8_move_70 rfl (lv_at hl 1 rfl) ?_
  refine hs_iald hC hW 0 (mo_int ha.1 5 rfl) rfl hjn dX8_move_71 ?_
  refine lv_iconst (v := (-1)) hx hb dX8_move_72 (by decide) ?_
  refine hs_callS hC hs_Tok hW hL (ct_X8_place E _ _ _) cw_X8_place lk_X8_118 st_X8_place hl.1 (by decide) (Nat.le_of_ble_eq_true rfl) dX8_move_73 (hs_kp1 (fun H locs hW hL => ?_))
  refine lv_dup2_11 hx hb dX8_move_76 rfl rfl ?_
  refine hs_lald hC hW 1 (mo_long ha.1 30 rfl) rfl (by rw [hcl, hda]; exact mo_pl_in1 ha16) dX8_move_77 ?_
  refine lv_iload_n hx hb dX8_move_78 rfl (lv_at hl 3 rfl) ?_
  refine lv_i2l hx hb dX8_move_79 rfl ?_
  refine lv_ladd hx hb dX8_move_80 ?_
  refine hs_last hC hW hL 1 (mo_long ha.1 30 rfl) (ha.2.2 30 rfl) rfl (by rw [hcl, hda]; exact mo_pl_in1 ha16) dX8_move_81 (fun H locs hW hL => ?_)
  rw [mo_putL ha.1 30 rfl] at hW
  exact hs_vret hC hW hL hr hlocks (by decide) (by decide) dX8_move_82 ⟨rfl, rfl, _, _, _, _, rfl, rfl, rfl, rfl, rfl⟩
set_option maxHeartbeats 4000000 in
set_option maxRecDepth 100000 in
/-- Model.settle -/
theorem ct_X8_settle (E : hs_E) (mo : Nat) (ar : Nat → Nat) (ix : Nat → Option Nat) (sc : Nat → Int32) (mI : Nat → Nat → Int32) (mL : Nat → Nat → Int64) (F : hs_G) (ha : mo_ok E mo ar ix) (N d S j : Nat) (q ca : Int32) (hj : j < N) (hS : S < 2000) (hI : mo_B sc mI N d S) : hM E yX8_settle ({ frames := 2, cells := 0, slots := 0, locals := 60 }) [.ref mo, .int (nI j), .int q, .int ca] (mo_W E mo ar ix sc mI mL F) (mo_P E mo ar ix F (fun v sc2 mI2 _ => v = none ∧ sc2 = mo_up sc 23 (sc 23 + 1) ∧ ∀ k, k ≠ 8 → k ≠ 9 → k < 24 ∨ 27 < k → mI2 k = mI k)) := by
  refine hs_ofW (cc := cX8_settle) (maxL := 4) (ret := none) (by decide) co_X8_settle ?_
  intro p e s m args below meth c hC hlocks hr hin0 hnoh hW
  obtain ⟨hx, hb, hml, hown, hts, -⟩ := id hC
  have hE := hW
  have hL : ∀ q ∈ ([] : List Loc), (eH E).size ≤ q.base := fun q hq => nomatch hq
  have hl := lv_entry ([.ref mo, .int (nI j), .int q, .int ca] : List Value) (n := 4) (Nat.le_of_ble_eq_true rfl)
  rw [lg_entry_eq]
  generalize (lg_sl [.ref mo, .int (nI j), .int q, .int ca] ++ List.replicate (4 - (lg_sl [.ref mo, .int (nI j), .int q, .int ca]).length) Slot.unset).toArray = ls at hl ⊢
  have hl : lv_has ls 4 [(0, .ref mo), (1, .int (nI j)), (2, .int q), (3, .int ca)] := hl
  obtain ⟨⟨a, ha16, hda⟩, ⟨b, hb16, hdb⟩, ⟨g, hg8, hdg⟩⟩ := hI.2.2.2.2.2 j hj
  have hj150 : j < 150 := Nat.lt_of_lt_of_le hj hI.2.1
  have hjn : vp_in (nI j) 150 := vp_in_nI hj150 (by decide)
  have hcl : (nI j).toNatClampNeg = j := nI_clamp (by omega)
  have hSn : vp_in (sc 23) 2000 := by rw [hI.2.2.2.2.1]; exact vp_in_nI hS (by decide)
  refine lv_aload_n hx hb dX8_settle_0 rfl (lv_at hl 0 rfl) ?_
  refine lv_iload_n hx hb dX8_settle_1 rfl (lv_at hl 1 rfl) ?_
  refine lv_iload_n hx hb dX8_settle_2 rfl (lv_at hl 2 rfl) ?_
  refine lv_iload_n hx hb dX8_settle_3 rfl (lv_at hl 3 rfl) ?_
  refine lv_aload_n hx hb dX8_settle_4 rfl (lv_at hl 0 rfl) ?_
  refine hs_get hC hW hi_X8 rfl 3 (by decide) lk_X8_13 rfl mo_obj rfl dX8_settle_5 ?_
  refine hs_callV hC hs_Tok hW hL (ct_X8_moveB E _ _ _ _ _ _ _ ha N d S j _ _ hj hI) cw_X8_move lk_X8_122 im_X8_move se_X8_move (hs_recv hC hW mo_obj rfl) hl.1 (by decide) (Nat.le_of_ble_eq_true rfl) dX8_settle_8 (mo_k0 (fun _ _ _ _ h => h.1) (fun sc1 mI1 mL1 H locs hq hW hL => ?_))
  obtain ⟨-, e1, e2⟩ := hq
  rw [e1, e2] at hW
  refine lv_aload_n hx hb dX8_settle_11 rfl (lv_at hl 0 rfl) ?_
  refine hs_get hC hW hi_X8 rfl 8 (by decide) lk_X8_27 rfl mo_obj rfl dX8_settle_12 ?_
  refine lv_iload_n hx hb dX8_settle_15 rfl (lv_at hl 1 rfl) ?_
  refine lv_dup2_11 hx hb dX8_settle_16 rfl rfl ?_
  refine hs_iald hC hW 0 (mo_int ha.1 8 rfl) rfl hjn dX8_settle_17 ?_
  refine lv_iload_n hx hb dX8_settle_18 rfl (lv_at hl 2 rfl) ?_
  refine lv_isub hx hb dX8_settle_19 ?_
  refine hs_iast hC hW hL 0 (mo_int ha.1 8 rfl) (ha.2.2 8 rfl) rfl hjn dX8_settle_20 (fun H locs hW hL => ?_)
  rw [mo_putI ha.1 8 rfl] at hW
  refine lv_aload_n hx hb dX8_settle_21 rfl (lv_at hl 0 rfl) ?_
  refine hs_get hC hW hi_X8 rfl 9 (by decide) lk_X8_30 rfl mo_obj rfl dX8_settle_22 ?_
  refine lv_iload_n hx hb dX8_settle_25 rfl (lv_at hl 1 rfl) ?_
  refine lv_dup2_11 hx hb dX8_settle_26 rfl rfl ?_
  refine hs_iald hC hW 0 (mo_int ha.1 9 rfl) rfl hjn dX8_settle_27 ?_
  refine lv_iload_n hx hb dX8_settle_28 rfl (lv_at hl 3 rfl) ?_
  refine lv_isub hx hb dX8_settle_29 ?_
  refine hs_iast hC hW hL 0 (mo_int ha.1 9 rfl) (ha.2.2 9 rfl) rfl hjn dX8_settle_30 (fun H locs hW hL => ?_)
  rw [mo_putI ha.1 9 rfl] at hW
  refine lv_aload_n hx hb dX8_settle_31 rfl (lv_at hl 0 rfl) ?_
  refine hs_get hC hW hi_X8 rfl 24 (by decide) lk_X8_72 rfl mo_obj rfl dX8_settle_32 ?_
  refine lv_aload_n hx hb dX8_settle_35 rfl (lv_at hl 0 rfl) ?_
  refine hs_get hC hW hi_X8 rfl 23 (by decide) lk_X8_126 rfl mo_obj rfl dX8_settle_36 ?_
  refine lv_iload_n hx hb dX8_settle_39 rfl (lv_at hl 1 rfl) ?_
  refine hs_iast hC hW hL 0 (mo_int ha.1 24 rfl) (ha.2.2 24 rfl) rfl hSn dX8_settle_40 (fun H locs hW hL => ?_)
  rw [mo_putI ha.1 24 rfl] at hW
  refine lv_aload_n hx hb dX8_settle_41 rfl (lv_at hl 0 rfl) ?_
  refine hs_get hC hW hi_X8 rfl 25 (by decide) lk_X8_75 rfl mo_obj rfl dX8_settle_42 ?_
  refine lv_aload_n hx hb dX8_settle_45 rfl (lv_at hl 0 rfl) ?_
  refine hs_get hC hW hi_X8 rfl 23 (by decide) lk_X8_126 rfl mo_obj rfl dX8_settle_46 ?_
  refine lv_iload_n hx hb dX8_settle_49 rfl (lv_at hl 2 rfl) ?_
  refine hs_iast hC hW hL 0 (mo_int ha.1 25 rfl) (ha.2.2 25 rfl) rfl hSn dX8_settle_50 (fun H locs hW hL => ?_)
  rw [mo_putI ha.1 25 rfl] at hW
  refine lv_aload_n hx hb dX8_settle_51 rfl (lv_at hl 0 rfl) ?_
  refine hs_get hC hW hi_X8 rfl 26 (by decide) lk_X8_78 rfl mo_obj rfl dX8_settle_52 ?_
  refine lv_aload_n hx hb dX8_settle_55 rfl (lv_at hl 0 rfl) ?_
  refine hs_get hC hW hi_X8 rfl 23 (by decide) lk_X8_126 rfl mo_obj rfl dX8_settle_56 ?_
  refine lv_iload_n hx hb dX8_settle_59 rfl (lv_at hl 3 rfl) ?_
  refine hs_iast hC hW hL 0 (mo_int ha.1 26 rfl) (ha.2.2 26 rfl) rfl hSn dX8_settle_60 (fun H locs hW hL => ?_)
  rw [mo_putI ha.1 26 rfl] at hW
  refine lv_aload_n hx hb dX8_settle_61 rfl (lv_at hl 0 rfl) ?_
  refine hs_get hC hW hi_X8 rfl 27 (by decide) lk_X8_81 rfl mo_obj rfl dX8_settle_62 ?_
  refine lv_aload_n hx hb dX8_settle_65 rfl (lv_at hl 0 rfl) ?_
  refine hs_get hC hW hi_X8 rfl 23 (by decide) lk_X8_126 rfl mo_obj rfl dX8_settle_66 ?_
  refine lv_aload_n hx hb dX8_settle_69 rfl (lv_at hl 0 rfl) ?_
  refine hs_get hC hW hi_X8 rfl 1 (by decide) lk_X8_129 rfl mo_obj rfl dX8_settle_70 ?_
  refine hs_iast hC hW hL 0 (mo_int ha.1 27 rfl) (ha.2.2 27 rfl) rfl hSn dX8_settle_73 (fun H locs hW hL => ?_)
  rw [mo_putI ha.1 27 rfl] at hW
  refine lv_aload_n hx hb dX8_settle_74 rfl (lv_at hl 0 rfl) ?_
  refine lv_dup hx hb dX8_settle_75 rfl ?_
  refine hs_get hC hW hi_X8 rfl 23 (by decide) lk_X8_126 rfl mo_obj rfl dX8_settle_76 ?_
  refine lv_iconst (v := 1) hx hb dX8_settle_79 (by decide) ?_
  refine lv_iadd hx hb dX8_settle_80 ?_
  refine hs_put hC hW hL hi_X8 tyX8 tyX8_ok nmX8 rfl 23 (by decide) lk_X8_126 rfl rfl mo_obj ha.2.1 rfl rfl (Nat.le_of_ble_eq_true rfl) dX8_settle_81 (fun H locs hW hL => ?_)
  rw [mo_putS (mo_fs23 _)] at hW
  exact hs_vret hC hW hL hr hlocks (by decide) (by decide) dX8_settle_84 ⟨rfl, rfl, _, _, _, _, rfl, rfl, rfl, rfl, fun k h8 h9 hk => by simp only [mo_up]; repeat rw [if_neg (by omega)]⟩
set_option maxHeartbeats 4000000 in
set_option maxRecDepth 100000 in
/-- Model.count -/
theorem ct_X8_count (E : hs_E) (mo : Nat) (ar : Nat → Nat) (ix : Nat → Option Nat) (sc : Nat → Int32) (mI : Nat → Nat → Int32) (mL : Nat → Nat → Int64) (F : hs_G) (ha : mo_ok E mo ar ix) (st : Int32) (N d S : Nat) (hI : mo_B sc mI N d S) : hM E yX8_count ({ frames := 1, cells := 0, slots := 0, locals := 40 }) [.ref mo, .int st] (mo_W E mo ar ix sc mI mL F) (mo_P E mo ar ix F (fun v sc2 mI2 _ => (∃ x : Int32, v = some (.int x)) ∧ mI2 = mI ∧ ∀ j, j ≠ 0 → sc2 j = sc j)) := by
  refine hs_ofW (cc := cX8_count) (maxL := 4) (ret := (some .int)) (by decide) co_X8_count ?_
  intro p e s m args below meth c hC hlocks hr hin0 hnoh hW
  obtain ⟨hx, hb, hml, hown, hts, -⟩ := id hC
  have hE := hW
  have hL : ∀ q ∈ ([] : List Loc), (eH E).size ≤ q.base := fun q hq => nomatch hq
  have hl := lv_entry ([.ref mo, .int st] : List Value) (n := 4) (Nat.le_of_ble_eq_true rfl)
  rw [lg_entry_eq]
  generalize (lg_sl [.ref mo, .int st] ++ List.replicate (4 - (lg_sl [.ref mo, .int st]).length) Slot.unset).toArray = ls at hl ⊢
  have hl : lv_has ls 4 [(0, .ref mo), (1, .int st)] := hl
  refine lv_aload_n hx hb dX8_count_0 rfl (lv_at hl 0 rfl) ?_
  refine lv_iload_n hx hb dX8_count_1 rfl (lv_at hl 1 rfl) ?_
  refine lv_i2l hx hb dX8_count_2 rfl ?_
  refine lv_lconst (v := 0) hx hb dX8_count_3 (by decide) ?_
  refine lv_ldc2 hx hb hown (hts _ lk_X8_206) dX8_count_4 ?_
  refine hs_callS hC hs_Tok hW hL (ct_X8_in E _ _ _ _) cw_X8_in lk_X8_99 st_X8_in hl.1 (by decide) (Nat.le_of_ble_eq_true rfl) dX8_count_7 (hs_kp1 (fun H locs hW hL => ?_))
  refine lv_if_eq (tgt := 17) hx hb dX8_count_10 (by decide) (fun c10 => ?_) (fun c10 => ?_)
  · refine lv_iconst (v := 1) hx hb dX8_count_17 (by decide) ?_
    refine hs_put hC hW hL hi_X8 tyX8 tyX8_ok nmX8 rfl 0 (by decide) lk_X8_93 rfl rfl mo_obj ha.2.1 rfl rfl (Nat.le_of_ble_eq_true rfl) dX8_count_18 (fun H locs hW hL => ?_)
    rw [mo_putS (mo_fs0 _)] at hW
    refine lv_iconst (v := 0) hx hb dX8_count_21 (by decide) ?_
    refine lv_istore_n (lv' := [(2, .int _), (0, .ref _), (1, .int _)]) hx hb dX8_count_22 rfl hl (by decide) rfl (fun ls hl => ?_)
    refine lv_iconst (v := 0) hx hb dX8_count_23 (by decide) ?_
    refine lv_istore_n (lv' := [(3, .int _), (2, .int _), (0, .ref _), (1, .int _)]) hx hb dX8_count_24 rfl hl (by decide) rfl (fun ls hl => ?_)
    refine hs_loop (σ := Nat × Int32) (fun x => match x with | (i, acc) => N - i) (fun x H locs ls => match x with | (i, acc) => (i ≤ N) ∧ hs_W (eD E) vwCl (eH E) (mo_W E mo ar ix (mo_up sc 0 1) mI mL F) H ∧ (∀ q ∈ locs, (eH E).size ≤ q.base) ∧ lv_has ls 4 [(0, .ref mo), (1, .int st), (2, .int acc), (3, .int (nI i))]) ?_ (0, 0) _ _ _ ⟨Nat.zero_le _, hW, hL, (lv_sub hl [2, 3, 1, 0] rfl)⟩
    rintro ⟨i, acc⟩ H locs ls ⟨hinv, hW, hL, hl⟩ ih
    replace hW : hs_W (eD E) vwCl (eH E) (mo_W E mo ar ix (mo_up sc 0 1) mI mL F) H := hW
    replace hl : lv_has ls 4 [(0, .ref mo), (1, .int st), (2, .int acc), (3, .int (nI i))] := hl
    refine lv_iload_n hx hb dX8_count_25 rfl (lv_at hl 3 rfl) ?_
    refine lv_aload_n hx hb dX8_count_26 rfl (lv_at hl 0 rfl) ?_
    refine hs_get hC hW hi_X8 rfl 4 (by decide) lk_X8_107 rfl mo_obj rfl dX8_count_27 ?_
    refine lv_icmp_ge (tgt := 64) hx hb dX8_count_30 (by decide) (fun c30 => ?_) (fun c30 => ?_)
    · refine lv_iload_n hx hb dX8_count_64 rfl (lv_at hl 2 rfl) ?_
      exact hs_iret hC hW hL hr hlocks (by decide) (by decide) dX8_count_65 ⟨rfl, rfl, _, _, _, _, rfl, rfl, ⟨_, rfl⟩, rfl, fun j hj => by simp [mo_up, hj]⟩
    have hlt : i < N := hs_ltN (show (mo_up sc 0 1) 4 = nI N from hI.1) (by have := hI.2.1; omega) (by have := hI.2.1; omega) c30
    have hi150 : i < 150 := Nat.lt_of_lt_of_le hlt hI.2.1
    have hin : vp_in (nI i) 150 := vp_in_nI hi150 (by decide)
    have hcl : (nI i).toNatClampNeg = i := nI_clamp (by omega)
    refine lv_aload_n hx hb dX8_count_33 rfl (lv_at hl 0 rfl) ?_
    refine hs_get hC hW hi_X8 rfl 0 (by decide) lk_X8_93 rfl mo_obj rfl dX8_count_34 ?_
    refine lv_if_ne (tgt := 64) hx hb dX8_count_37 (by decide) (fun c37 => ?_) (fun c37 => ?_)
    · refine lv_iload_n hx hb dX8_count_64 rfl (lv_at hl 2 rfl) ?_
      exact hs_iret hC hW hL hr hlocks (by decide) (by decide) dX8_count_65 ⟨rfl, rfl, _, _, _, _, rfl, rfl, ⟨_, rfl⟩, rfl, fun j hj => by simp [mo_up, hj]⟩
    exact absurd c37 (by first | decide | simp [mo_up])
  refine lv_iconst (v := 0) hx hb dX8_count_13 (by decide) ?_
  refine lv_goto (tgt := 18) hx hb dX8_count_14 (by decide) ?_
  refine hs_put hC hW hL hi_X8 tyX8 tyX8_ok nmX8 rfl 0 (by decide) lk_X8_93 rfl rfl mo_obj ha.2.1 rfl rfl (Nat.le_of_ble_eq_true rfl) dX8_count_18 (fun H locs hW hL => ?_)
  rw [mo_putS (mo_fs0 _)] at hW
  refine lv_iconst (v := 0) hx hb dX8_count_21 (by decide) ?_
  refine lv_istore_n (lv' := [(2, .int _), (0, .ref _), (1, .int _)]) hx hb dX8_count_22 rfl hl (by decide) rfl (fun ls hl => ?_)
  refine lv_iconst (v := 0) hx hb dX8_count_23 (by decide) ?_
  refine lv_istore_n (lv' := [(3, .int _), (2, .int _), (0, .ref _), (1, .int _)]) hx hb dX8_count_24 rfl hl (by decide) rfl (fun ls hl => ?_)
  refine hs_loop (σ := Nat × Int32) (fun x => match x with | (i, acc) => N - i) (fun x H locs ls => match x with | (i, acc) => (i ≤ N) ∧ hs_W (eD E) vwCl (eH E) (mo_W E mo ar ix (mo_up sc 0 0) mI mL F) H ∧ (∀ q ∈ locs, (eH E).size ≤ q.base) ∧ lv_has ls 4 [(0, .ref mo), (1, .int st), (2, .int acc), (3, .int (nI i))]) ?_ (0, 0) _ _ _ ⟨Nat.zero_le _, hW, hL, (lv_sub hl [2, 3, 1, 0] rfl)⟩
  rintro ⟨i, acc⟩ H locs ls ⟨hinv, hW, hL, hl⟩ ih
  replace hW : hs_W (eD E) vwCl (eH E) (mo_W E mo ar ix (mo_up sc 0 0) mI mL F) H := hW
  replace hl : lv_has ls 4 [(0, .ref mo), (1, .int st), (2, .int acc), (3, .int (nI i))] := hl
  refine lv_iload_n hx hb dX8_count_25 rfl (lv_at hl 3 rfl) ?_
  refine lv_aload_n hx hb dX8_count_26 rfl (lv_at hl 0 rfl) ?_
  refine hs_get hC hW hi_X8 rfl 4 (by decide) lk_X8_107 rfl mo_obj rfl dX8_count_27 ?_
  refine lv_icmp_ge (tgt := 64) hx hb dX8_count_30 (by decide) (fun c30 => ?_) (fun c30 => ?_)
  · refine lv_iload_n hx hb dX8_count_64 rfl (lv_at hl 2 rfl) ?_
    exact hs_iret hC hW hL hr hlocks (by decide) (by decide) dX8_count_65 ⟨rfl, rfl, _, _, _, _, rfl, rfl, ⟨_, rfl⟩, rfl, fun j hj => by simp [mo_up, hj]⟩
  have hlt : i < N := hs_ltN (show (mo_up sc 0 0) 4 = nI N from hI.1) (by have := hI.2.1; omega) (by have := hI.2.1; omega) c30
  have hi150 : i < 150 := Nat.lt_of_lt_of_le hlt hI.2.1
  have hin : vp_in (nI i) 150 := vp_in_nI hi150 (by decide)
  have hcl : (nI i).toNatClampNeg = i := nI_clamp (by omega)
  refine lv_aload_n hx hb dX8_count_33 rfl (lv_at hl 0 rfl) ?_
  refine hs_get hC hW hi_X8 rfl 0 (by decide) lk_X8_93 rfl mo_obj rfl dX8_count_34 ?_
  refine lv_if_ne (tgt := 64) hx hb dX8_count_37 (by decide) (fun c37 => ?_) (fun c37 => ?_)
  · exact absurd c37 (by first | decide | simp [mo_up])
  refine lv_iload_n hx hb dX8_count_40 rfl (lv_at hl 2 rfl) ?_
  refine lv_aload_n hx hb dX8_count_41 rfl (lv_at hl 0 rfl) ?_
  refine hs_get hC hW hi_X8 rfl 15 (by decide) lk_X8_48 rfl mo_obj rfl dX8_count_42 ?_
  refine lv_iload_n hx hb dX8_count_45 rfl (lv_at hl 3 rfl) ?_
  refine hs_iald hC hW 0 (mo_int ha.1 15 rfl) rfl hin dX8_count_46 ?_
  refine lv_iload_n hx hb dX8_count_47 rfl (lv_at hl 1 rfl) ?_
  refine lv_icmp_ne (tgt := 55) hx hb dX8_count_48 (by decide) (fun c48 => ?_) (fun c48 => ?_)
  · refine lv_iconst (v := 0) hx hb dX8_count_55 (by decide) ?_
    refine lv_iadd hx hb dX8_count_56 ?_
    refine lv_istore_n (lv' := [(2, .int _), (0, .ref _), (1, .int _), (3, .int _)]) hx hb dX8_count_57 rfl hl (by decide) rfl (fun ls hl => ?_)
    refine lv_iinc (lv' := [(3, .int _), (2, .int _), (0, .ref _), (1, .int _)]) hx hb dX8_count_58 hl (k := 3) rfl rfl (by decide) rfl (fun ls hl => ?_)
    refine lv_goto (tgt := 25) hx hb dX8_count_61 (by decide) ?_
    rw [hs_inc] at hl
    exact ih (i + 1, _) _ _ _ (by first | decide | (simp only []; omega) | omega) ⟨hlt, hW, hL, (lv_sub hl [2, 3, 1, 0] rfl)⟩
  refine lv_iconst (v := 1) hx hb dX8_count_51 (by decide) ?_
  refine lv_goto (tgt := 56) hx hb dX8_count_52 (by decide) ?_
  refine lv_iadd hx hb dX8_count_56 ?_
  refine lv_istore_n (lv' := [(2, .int _), (0, .ref _), (1, .int _), (3, .int _)]) hx hb dX8_count_57 rfl hl (by decide) rfl (fun ls hl => ?_)
  refine lv_iinc (lv' := [(3, .int _), (2, .int _), (0, .ref _), (1, .int _)]) hx hb dX8_count_58 hl (k := 3) rfl rfl (by decide) rfl (fun ls hl => ?_)
  refine lv_goto (tgt := 25) hx hb dX8_count_61 (by decide) ?_
  rw [hs_inc] at hl
  exact ih (i + 1, _) _ _ _ (by first | decide | (simp only []; omega) | omega) ⟨hlt, hW, hL, (lv_sub hl [2, 3, 1, 0] rfl)⟩
