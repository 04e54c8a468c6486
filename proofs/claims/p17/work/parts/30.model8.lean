/-! the reference: partOf, settleParts -/
set_option maxHeartbeats 4000000 in
set_option maxRecDepth 100000 in
/-- Model.partOf -/
theorem ct_X8_partOf (E : hs_E) (mo : Nat) (ar : Nat → Nat) (ix : Nat → Option Nat) (sc : Nat → Int32) (mI : Nat → Nat → Int32) (mL : Nat → Nat → Int64) (F : hs_G) (ha : mo_ok E mo ar ix) (N d S j : Nat) (hj : j < N) (hI : mo_B sc mI N d S) : hM E yX8_partOf ({ frames := 1, cells := 0, slots := 0, locals := 30 }) [.ref mo, .int (nI j)] (mo_W E mo ar ix sc mI mL F) (fun r G1 k n => ∃ x : Int32, hs_pu (some (.int x)) (mo_W E mo ar ix sc mI mL F) r G1 k n ∧ (x = 0 ∨ ¬ mI 8 j = 0)) := by
  refine hs_ofW (cc := cX8_partOf) (maxL := 8) (ret := (some .int)) (by decide) co_X8_partOf ?_
  intro p e s m args below meth c hC hlocks hr hin0 hnoh hW
  obtain ⟨hx, hb, hml, hown, hts, -⟩ := id hC
  have hE := hW
  have hL : ∀ q ∈ ([] : List Loc), (eH E).size ≤ q.base := fun q hq => nomatch hq
  have hl := lv_entry ([.ref mo, .int (nI j)] : List Value) (n := 8) (Nat.le_of_ble_eq_true rfl)
  rw [lg_entry_eq]
  generalize (lg_sl [.ref mo, .int (nI j)] ++ List.replicate (8 - (lg_sl [.ref mo, .int (nI j)]).length) Slot.unset).toArray = ls at hl ⊢
  have hl : lv_has ls 8 [(0, .ref mo), (1, .int (nI j))] := hl
  obtain ⟨⟨a, ha16, hda⟩, ⟨b, hb16, hdb⟩, ⟨g, hg8, hdg⟩⟩ := hI.2.2.2.2.2 j hj
  have hj150 : j < 150 := Nat.lt_of_lt_of_le hj hI.2.1
  have hjn : vp_in (nI j) 150 := vp_in_nI hj150 (by decide)
  have hcl : (nI j).toNatClampNeg = j := nI_clamp (by omega)
  refine lv_aload_n hx hb dX8_partOf_0 rfl (lv_at hl 0 rfl) ?_
  refine hs_get hC hW hi_X8 rfl 3 (by decide) lk_X8_13 rfl mo_obj rfl dX8_partOf_1 ?_
  refine lv_aload_n hx hb dX8_partOf_4 rfl (lv_at hl 0 rfl) ?_
  refine hs_get hC hW hi_X8 rfl 5 (by decide) lk_X8_17 rfl mo_obj rfl dX8_partOf_5 ?_
  refine lv_iload_n hx hb dX8_partOf_8 rfl (lv_at hl 1 rfl) ?_
  refine hs_iald hC hW 0 (mo_int ha.1 5 rfl) rfl hjn dX8_partOf_9 ?_
  refine lv_aload_n hx hb dX8_partOf_10 rfl (lv_at hl 0 rfl) ?_
  refine hs_get hC hW hi_X8 rfl 7 (by decide) lk_X8_24 rfl mo_obj rfl dX8_partOf_11 ?_
  refine lv_iload_n hx hb dX8_partOf_14 rfl (lv_at hl 1 rfl) ?_
  refine hs_iald hC hW 0 (mo_int ha.1 7 rfl) rfl hjn dX8_partOf_15 ?_
  refine hs_callS hC hs_Tok hW hL (ct_X8_place E _ _ _) cw_X8_place lk_X8_118 st_X8_place hl.1 (by decide) (Nat.le_of_ble_eq_true rfl) dX8_partOf_16 (hs_kp1 (fun H locs hW hL => ?_))
  refine hs_lald hC hW 1 (mo_long ha.1 3 rfl) rfl (by rw [hcl, hda, hdg]; exact mo_pl_in ha16 hg8) dX8_partOf_19 ?_
  refine lv_lstore_n (lv' := [(2, .long _), (0, .ref _), (1, .int _)]) hx hb dX8_partOf_20 rfl hl (by decide) rfl (fun ls hl => ?_)
  refine lv_lload_n hx hb dX8_partOf_21 rfl (lv_at hl 0 rfl) ?_
  refine lv_aload_n hx hb dX8_partOf_22 rfl (lv_at hl 1 rfl) ?_
  refine hs_get hC hW hi_X8 rfl 8 (by decide) lk_X8_27 rfl mo_obj rfl dX8_partOf_23 ?_
  refine lv_iload_n hx hb dX8_partOf_26 rfl (lv_at hl 2 rfl) ?_
  refine hs_iald hC hW 0 (mo_int ha.1 8 rfl) rfl hjn dX8_partOf_27 ?_
  refine lv_iconst (v := 1) hx hb dX8_partOf_28 (by decide) ?_
  refine lv_isub hx hb dX8_partOf_29 ?_
  refine lv_i2l hx hb dX8_partOf_30 rfl ?_
  refine W.lcmp hx hb dX8_partOf_31 ?_
  refine lv_if_ge (tgt := 39) hx hb dX8_partOf_32 (by decide) (fun c32 => ?_) (fun c32 => ?_)
  · refine lv_aload_n hx hb dX8_partOf_39 rfl (lv_at hl 1 rfl) ?_
    refine hs_get hC hW hi_X8 rfl 8 (by decide) lk_X8_27 rfl mo_obj rfl dX8_partOf_40 ?_
    refine lv_iload_n hx hb dX8_partOf_43 rfl (lv_at hl 2 rfl) ?_
    refine hs_iald hC hW 0 (mo_int ha.1 8 rfl) rfl hjn dX8_partOf_44 ?_
    refine lv_iconst (v := 1) hx hb dX8_partOf_45 (by decide) ?_
    refine lv_isub hx hb dX8_partOf_46 ?_
    refine lv_i2l hx hb dX8_partOf_47 rfl ?_
    refine lv_lstore_n (lv' := [(2, .long _), (0, .ref _), (1, .int _)]) hx hb dX8_partOf_48 rfl hl (by decide) rfl (fun ls hl => ?_)
    refine lv_aload_n hx hb dX8_partOf_49 rfl (lv_at hl 1 rfl) ?_
    refine hs_get hC hW hi_X8 rfl 3 (by decide) lk_X8_13 rfl mo_obj rfl dX8_partOf_50 ?_
    refine lv_aload_n hx hb dX8_partOf_53 rfl (lv_at hl 1 rfl) ?_
    refine hs_get hC hW hi_X8 rfl 6 (by decide) lk_X8_21 rfl mo_obj rfl dX8_partOf_54 ?_
    refine lv_iload_n hx hb dX8_partOf_57 rfl (lv_at hl 2 rfl) ?_
    refine hs_iald hC hW 0 (mo_int ha.1 6 rfl) rfl hjn dX8_partOf_58 ?_
    refine lv_iconst (v := (-1)) hx hb dX8_partOf_59 (by decide) ?_
    refine hs_callS hC hs_Tok hW hL (ct_X8_place E _ _ _) cw_X8_place lk_X8_118 st_X8_place hl.1 (by decide) (Nat.le_of_ble_eq_true rfl) dX8_partOf_60 (hs_kp1 (fun H locs hW hL => ?_))
    refine hs_lald hC hW 1 (mo_long ha.1 3 rfl) rfl (by rw [hcl, hdb]; exact mo_pl_in1 hb16) dX8_partOf_63 ?_
    refine lv_lstore (lv' := [(4, .long _), (2, .long _), (0, .ref _), (1, .int _)]) hx hb dX8_partOf_64 hl (by decide) rfl (fun ls hl => ?_)
    refine lv_lload_n hx hb dX8_partOf_66 rfl (lv_at hl 1 rfl) ?_
    refine lv_lconst (v := 0) hx hb dX8_partOf_67 (by decide) ?_
    refine W.lcmp hx hb dX8_partOf_68 ?_
    refine lv_if_gt (tgt := 74) hx hb dX8_partOf_69 (by decide) (fun c69 => ?_) (fun c69 => ?_)
    · refine lv_aload_n hx hb dX8_partOf_74 rfl (lv_at hl 2 rfl) ?_
      refine hs_get hC hW hi_X8 rfl 9 (by decide) lk_X8_30 rfl mo_obj rfl dX8_partOf_75 ?_
      refine lv_iload_n hx hb dX8_partOf_78 rfl (lv_at hl 3 rfl) ?_
      refine hs_iald hC hW 0 (mo_int ha.1 9 rfl) rfl hjn dX8_partOf_79 ?_
      refine lv_if_le (tgt := 142) hx hb dX8_partOf_80 (by decide) (fun c80 => ?_) (fun c80 => ?_)
      · refine lv_lload_n hx hb dX8_partOf_142 rfl (lv_at hl 1 rfl) ?_
        refine lv_l2i hx hb dX8_partOf_143 rfl ?_
        exact hs_iret hC hW hL hr hlocks (by decide) (by decide) dX8_partOf_144 ⟨_, ⟨rfl, rfl, rfl, rfl⟩, Or.inr (by rw [← hcl]; first | exact mo_ptA c69 | exact mo_ptB c32 c69)⟩
      refine lv_lload hx hb dX8_partOf_83 (lv_at hl 0 rfl) ?_
      refine lv_aload_n hx hb dX8_partOf_85 rfl (lv_at hl 2 rfl) ?_
      refine hs_get hC hW hi_X8 rfl 9 (by decide) lk_X8_30 rfl mo_obj rfl dX8_partOf_86 ?_
      refine lv_iload_n hx hb dX8_partOf_89 rfl (lv_at hl 3 rfl) ?_
      refine hs_iald hC hW 0 (mo_int ha.1 9 rfl) rfl hjn dX8_partOf_90 ?_
      refine lv_i2l hx hb dX8_partOf_91 rfl ?_
      refine W.lcmp hx hb dX8_partOf_92 ?_
      refine lv_if_ge (tgt := 142) hx hb dX8_partOf_93 (by decide) (fun c93 => ?_) (fun c93 => ?_)
      · refine lv_lload_n hx hb dX8_partOf_142 rfl (lv_at hl 1 rfl) ?_
        refine lv_l2i hx hb dX8_partOf_143 rfl ?_
        exact hs_iret hC hW hL hr hlocks (by decide) (by decide) dX8_partOf_144 ⟨_, ⟨rfl, rfl, rfl, rfl⟩, Or.inr (by rw [← hcl]; first | exact mo_ptA c69 | exact mo_ptB c32 c69)⟩
      refine lv_lload hx hb dX8_partOf_96 (lv_at hl 0 rfl) ?_
      refine lv_lconst (v := 1) hx hb dX8_partOf_98 (by decide) ?_
      refine lv_ladd hx hb dX8_partOf_99 ?_
      refine lv_aload_n hx hb dX8_partOf_100 rfl (lv_at hl 2 rfl) ?_
      refine hs_get hC hW hi_X8 rfl 8 (by decide) lk_X8_27 rfl mo_obj rfl dX8_partOf_101 ?_
      refine lv_iload_n hx hb dX8_partOf_104 rfl (lv_at hl 3 rfl) ?_
      refine hs_iald hC hW 0 (mo_int ha.1 8 rfl) rfl hjn dX8_partOf_105 ?_
      refine lv_i2l hx hb dX8_partOf_106 rfl ?_
      refine lv_lmul hx hb dX8_partOf_107 ?_
      refine lv_lconst (v := 1) hx hb dX8_partOf_108 (by decide) ?_
      refine lv_lsub hx hb dX8_partOf_109 ?_
      refine lv_lstore (lv' := [(6, .long _), (4, .long _), (2, .long _), (0, .ref _), (1, .int _)]) hx hb dX8_partOf_110 hl (by decide) rfl (fun ls hl => ?_)
      refine lv_lload hx hb dX8_partOf_112 (lv_at hl 0 rfl) ?_
      refine lv_aload_n hx hb dX8_partOf_114 rfl (lv_at hl 3 rfl) ?_
      refine hs_get hC hW hi_X8 rfl 9 (by decide) lk_X8_30 rfl mo_obj rfl dX8_partOf_115 ?_
      refine lv_iload_n hx hb dX8_partOf_118 rfl (lv_at hl 4 rfl) ?_
      refine hs_iald hC hW 0 (mo_int ha.1 9 rfl) rfl hjn dX8_partOf_119 ?_
      refine lv_i2l hx hb dX8_partOf_120 rfl ?_
      refine lv_ldiv hx hb dX8_partOf_121 (mo_pos64 c80) ?_
      refine lv_lload_n hx hb dX8_partOf_122 rfl (lv_at hl 2 rfl) ?_
      refine W.lcmp hx hb dX8_partOf_123 ?_
      refine lv_if_ge (tgt := 140) hx hb dX8_partOf_124 (by decide) (fun c124 => ?_) (fun c124 => ?_)
      · refine lv_lload_n hx hb dX8_partOf_140 rfl (lv_at hl 2 rfl) ?_
        refine lv_lstore_n (lv' := [(2, .long _), (6, .long _), (4, .long _), (0, .ref _), (1, .int _)]) hx hb dX8_partOf_141 rfl hl (by decide) rfl (fun ls hl => ?_)
        refine lv_lload_n hx hb dX8_partOf_142 rfl (lv_at hl 0 rfl) ?_
        refine lv_l2i hx hb dX8_partOf_143 rfl ?_
        exact hs_iret hC hW hL hr hlocks (by decide) (by decide) dX8_partOf_144 ⟨_, ⟨rfl, rfl, rfl, rfl⟩, Or.inr (by rw [← hcl]; first | exact mo_ptA c69 | exact mo_ptB c32 c69)⟩
      refine lv_lload hx hb dX8_partOf_127 (lv_at hl 0 rfl) ?_
      refine lv_aload_n hx hb dX8_partOf_129 rfl (lv_at hl 3 rfl) ?_
      refine hs_get hC hW hi_X8 rfl 9 (by decide) lk_X8_30 rfl mo_obj rfl dX8_partOf_130 ?_
      refine lv_iload_n hx hb dX8_partOf_133 rfl (lv_at hl 4 rfl) ?_
      refine hs_iald hC hW 0 (mo_int ha.1 9 rfl) rfl hjn dX8_partOf_134 ?_
      refine lv_i2l hx hb dX8_partOf_135 rfl ?_
      refine lv_ldiv hx hb dX8_partOf_136 (mo_pos64 c80) ?_
      refine lv_goto (tgt := 141) hx hb dX8_partOf_137 (by decide) ?_
      refine lv_lstore_n (lv' := [(2, .long _), (6, .long _), (4, .long _), (0, .ref _), (1, .int _)]) hx hb dX8_partOf_141 rfl hl (by decide) rfl (fun ls hl => ?_)
      refine lv_lload_n hx hb dX8_partOf_142 rfl (lv_at hl 0 rfl) ?_
      refine lv_l2i hx hb dX8_partOf_143 rfl ?_
      exact hs_iret hC hW hL hr hlocks (by decide) (by decide) dX8_partOf_144 ⟨_, ⟨rfl, rfl, rfl, rfl⟩, Or.inr (by rw [← hcl]; first | exact mo_ptA c69 | exact mo_ptB c32 c69)⟩
    refine lv_iconst (v := 0) hx hb dX8_partOf_72 (by decide) ?_
    exact hs_iret hC hW hL hr hlocks (by decide) (by decide) dX8_partOf_73 ⟨_, ⟨rfl, rfl, rfl, rfl⟩, Or.inl rfl⟩
  refine lv_lload_n hx hb dX8_partOf_35 rfl (lv_at hl 0 rfl) ?_
  refine lv_goto (tgt := 48) hx hb dX8_partOf_36 (by decide) ?_
  refine lv_lstore_n (lv' := [(2, .long _), (0, .ref _), (1, .int _)]) hx hb dX8_partOf_48 rfl hl (by decide) rfl (fun ls hl => ?_)
  refine lv_aload_n hx hb dX8_partOf_49 rfl (lv_at hl 1 rfl) ?_
  refine hs_get hC hW hi_X8 rfl 3 (by decide) lk_X8_13 rfl mo_obj rfl dX8_partOf_50 ?_
  refine lv_aload_n hx hb dX8_partOf_53 rfl (lv_at hl 1 rfl) ?_
  refine hs_get hC hW hi_X8 rfl 6 (by decide) lk_X8_21 rfl mo_obj rfl dX8_partOf_54 ?_
  refine lv_iload_n hx hb dX8_partOf_57 rfl (lv_at hl 2 rfl) ?_
  refine hs_iald hC hW 0 (mo_int ha.1 6 rfl) rfl hjn dX8_partOf_58 ?_
  refine lv_iconst (v := (-1)) hx hb dX8_partOf_59 (by decide) ?_
  refine hs_callS hC hs_Tok hW hL (ct_X8_place E _ _ _) cw_X8_place lk_X8_118 st_X8_place hl.1 (by decide) (Nat.le_of_ble_eq_true rfl) dX8_partOf_60 (hs_kp1 (fun H locs hW hL => ?_))
  refine hs_lald hC hW 1 (mo_long ha.1 3 rfl) rfl (by rw [hcl, hdb]; exact mo_pl_in1 hb16) dX8_partOf_63 ?_
  refine lv_lstore (lv' := [(4, .long _), (2, .long _), (0, .ref _), (1, .int _)]) hx hb dX8_partOf_64 hl (by decide) rfl (fun ls hl => ?_)
  refine lv_lload_n hx hb dX8_partOf_66 rfl (lv_at hl 1 rfl) ?_
  refine lv_lconst (v := 0) hx hb dX8_partOf_67 (by decide) ?_
  refine W.lcmp hx hb dX8_partOf_68 ?_
  refine lv_if_gt (tgt := 74) hx hb dX8_partOf_69 (by decide) (fun c69 => ?_) (fun c69 => ?_)
  · refine lv_aload_n hx hb dX8_partOf_74 rfl (lv_at hl 2 rfl) ?_
    refine hs_get hC hW hi_X8 rfl 9 (by decide) lk_X8_30 rfl mo_obj rfl dX8_partOf_75 ?_
    refine lv_iload_n hx hb dX8_partOf_78 rfl (lv_at hl 3 rfl) ?_
    refine hs_iald hC hW 0 (mo_int ha.1 9 rfl) rfl hjn dX8_partOf_79 ?_
    refine lv_if_le (tgt := 142) hx hb dX8_partOf_80 (by decide) (fun c80 => ?_) (fun c80 => ?_)
    · refine lv_lload_n hx hb dX8_partOf_142 rfl (lv_at hl 1 rfl) ?_
      refine lv_l2i hx hb dX8_partOf_143 rfl ?_
      exact hs_iret hC hW hL hr hlocks (by decide) (by decide) dX8_partOf_144 ⟨_, ⟨rfl, rfl, rfl, rfl⟩, Or.inr (by rw [← hcl]; first | exact mo_ptA c69 | exact mo_ptB c32 c69)⟩
    refine lv_lload hx hb dX8_partOf_83 (lv_at hl 0 rfl) ?_
    refine lv_aload_n hx hb dX8_partOf_85 rfl (lv_at hl 2 rfl) ?_
    refine hs_get hC hW hi_X8 rfl 9 (by decide) lk_X8_30 rfl mo_obj rfl dX8_partOf_86 ?_
    refine lv_iload_n hx hb dX8_partOf_89 rfl (lv_at hl 3 rfl) ?_
    refine hs_iald hC hW 0 (mo_int ha.1 9 rfl) rfl hjn dX8_partOf_90 ?_
    refine lv_i2l hx hb dX8_partOf_91 rfl ?_
    refine W.lcmp hx hb dX8_partOf_92 ?_
    refine lv_if_ge (tgt := 142) hx hb dX8_partOf_93 (by decide) (fun c93 => ?_) (fun c93 => ?_)
    · refine lv_lload_n hx hb dX8_partOf_142 rfl (lv_at hl 1 rfl) ?_
      refine lv_l2i hx hb dX8_partOf_143 rfl ?_
      exact hs_iret hC hW hL hr hlocks (by decide) (by decide) dX8_partOf_144 ⟨_, ⟨rfl, rfl, rfl, rfl⟩, Or.inr (by rw [← hcl]; first | exact mo_ptA c69 | exact mo_ptB c32 c69)⟩
    refine lv_lload hx hb dX8_partOf_96 (lv_at hl 0 rfl) ?_
    refine lv_lconst (v := 1) hx hb dX8_partOf_98 (by decide) ?_
    refine lv_ladd hx hb dX8_partOf_99 ?_
    refine lv_aload_n hx hb dX8_partOf_100 rfl (lv_at hl 2 rfl) ?_
    refine hs_get hC hW hi_X8 rfl 8 (by decide) lk_X8_27 rfl mo_obj rfl dX8_partOf_101 ?_
    refine lv_iload_n hx hb dX8_partOf_104 rfl (lv_at hl 3 rfl) ?_
    refine hs_iald hC hW 0 (mo_int ha.1 8 rfl) rfl hjn dX8_partOf_105 ?_
    refine lv_i2l hx hb dX8_partOf_106 rfl ?_
    refine lv_lmul hx hb dX8_partOf_107 ?_
    refine lv_lconst (v := 1) hx hb dX8_partOf_108 (by decide) ?_
    refine lv_lsub hx hb dX8_partOf_109 ?_
    refine lv_lstore (lv' := [(6, .long _), (4, .long _), (2, .long _), (0, .ref _), (1, .int _)]) hx hb dX8_partOf_110 hl (by decide) rfl (fun ls hl => ?_)
    refine lv_lload hx hb dX8_partOf_112 (lv_at hl 0 rfl) ?_
    refine lv_aload_n hx hb dX8_partOf_114 rfl (lv_at hl 3 rfl) ?_
    refine hs_get hC hW hi_X8 rfl 9 (by decide) lk_X8_30 rfl mo_obj rfl dX8_partOf_115 ?_
    refine lv_iload_n hx hb dX8_partOf_118 rfl (lv_at hl 4 rfl) ?_
    refine hs_iald hC hW 0 (mo_int ha.1 9 rfl) rfl hjn dX8_partOf_119 ?_
    refine lv_i2l hx hb dX8_partOf_120 rfl ?_
    refine lv_ldiv hx hb dX8_partOf_121 (mo_pos64 c80) ?_
    refine lv_lload_n hx hb dX8_partOf_122 rfl (lv_at hl 2 rfl) ?_
    refine W.lcmp hx hb dX8_partOf_123 ?_
    refine lv_if_ge (tgt := 140) hx hb dX8_partOf_124 (by decide) (fun c124 => ?_) (fun c124 => ?_)
    · refine lv_lload_n hx hb dX8_partOf_140 rfl (lv_at hl 2 rfl) ?_
      refine lv_lstore_n (lv' := [(2, .long _), (6, .long _), (4, .long _), (0, .ref _), (1, .int _)]) hx hb dX8_partOf_141 rfl hl (by decide) rfl (fun ls hl => ?_)
      refine lv_lload_n hx hb dX8_partOf_142 rfl (lv_at hl 0 rfl) ?_
      refine lv_l2i hx hb dX8_partOf_143 rfl ?_
      exact hs_iret hC hW hL hr hlocks (by decide) (by decide) dX8_partOf_144 ⟨_, ⟨rfl, rfl, rfl, rfl⟩, Or.inr (by rw [← hcl]; first | exact mo_ptA c69 | exact mo_ptB c32 c69)⟩
    refine lv_lload hx hb dX8_partOf_127 (lv_at hl 0 rfl) ?_
    refine lv_aload_n hx hb dX8_partOf_129 rfl (lv_at hl 3 rfl) ?_
    refine hs_get hC hW hi_X8 rfl 9 (by decide) lk_X8_30 rfl mo_obj rfl dX8_partOf_130 ?_
    refine lv_iload_n hx hb dX8_partOf_133 rfl (lv_at hl 4 rfl) ?_
    refine hs_iald hC hW 0 (mo_int ha.1 9 rfl) rfl hjn dX8_partOf_134 ?_
    refine lv_i2l hx hb dX8_partOf_135 rfl ?_
    refine lv_ldiv hx hb dX8_partOf_136 (mo_pos64 c80) ?_
    refine lv_goto (tgt := 141) hx hb dX8_partOf_137 (by decide) ?_
    refine lv_lstore_n (lv' := [(2, .long _), (6, .long _), (4, .long _), (0, .ref _), (1, .int _)]) hx hb dX8_partOf_141 rfl hl (by decide) rfl (fun ls hl => ?_)
    refine lv_lload_n hx hb dX8_partOf_142 rfl (lv_at hl 0 rfl) ?_
    refine lv_l2i hx hb dX8_partOf_143 rfl ?_
    exact hs_iret hC hW hL hr hlocks (by decide) (by decide) dX8_partOf_144 ⟨_, ⟨rfl, rfl, rfl, rfl⟩, Or.inr (by rw [← hcl]; first | exact mo_ptA c69 | exact mo_ptB c32 c69)⟩
  refine lv_iconst (v := 0) hx hb dX8_partOf_72 (by decide) ?_
  exact hs_iret hC hW hL hr hlocks (by decide) (by decide) dX8_partOf_73 ⟨_, ⟨rfl, rfl, rfl, rfl⟩, Or.inl rfl⟩
theorem mo_B_set {sc sc2 : Nat → Int32} {mI mI2 : Nat → Nat → Int32} {N d S : Nat} (h : mo_B sc mI N d S) (hs : sc2 = mo_up sc 23 (sc 23 + 1)) (h5 : mI2 5 = mI 5) (h6 : mI2 6 = mI 6) (h7 : mI2 7 = mI 7) : mo_B sc2 mI2 N d (S + 1) := by
  obtain ⟨i1, i2, i3, i4, i5, i6⟩ := h
  subst hs
  refine ⟨i1, i2, i3, i4, ?_, ?_⟩
  · rw [mo_up_eq, i5, nI_1]
  · unfold mo_T at i6 ⊢
    rw [h5, h6, h7]
    exact i6
set_option maxHeartbeats 4000000 in
set_option maxRecDepth 100000 in
/-- Model.settleParts -/
theorem ct_X8_settleParts (E : hs_E) (mo : Nat) (ar : Nat → Nat) (ix : Nat → Option Nat) (sc : Nat → Int32) (mI : Nat → Nat → Int32) (mL : Nat → Nat → Int64) (F : hs_G) (ha : mo_ok E mo ar ix) (N d S : Nat) (hI : mo_B sc mI N d S) (hG : mo_Gr mI N) (hS : S ≤ 1500) : hM E yX8_settleParts ({ frames := 3, cells := 0, slots := 0, locals := 100 }) [.ref mo] (mo_W E mo ar ix sc mI mL F) (mo_P E mo ar ix F (fun v sc2 mI2 _ => v = none ∧ ∃ (rw : List Nat) (S2 : Nat), rw.Nodup ∧ (∀ t ∈ rw, mo_ld sc mI N t) ∧ S2 ≤ S + rw.length ∧ mo_B sc2 mI2 N d S2 ∧ (∀ j, j ≠ 23 → j ≠ 28 → sc2 j = sc j) ∧ (∀ k, k ≠ 8 → k ≠ 9 → k ≠ 29 → (k < 24 ∨ 27 < k) → mI2 k = mI k))) := by
  refine hs_ofW (cc := cX8_settleParts) (maxL := 4) (ret := none) (by decide) co_X8_settleParts ?_
  intro p e s m args below meth c hC hlocks hr hin0 hnoh hW
  obtain ⟨hx, hb, hml, hown, hts, -⟩ := id hC
  have hE := hW
  have hL : ∀ q ∈ ([] : List Loc), (eH E).size ≤ q.base := fun q hq => nomatch hq
  have hl := lv_entry ([.ref mo] : List Value) (n := 4) (Nat.le_of_ble_eq_true rfl)
  rw [lg_entry_eq]
  generalize (lg_sl [.ref mo] ++ List.replicate (4 - (lg_sl [.ref mo]).length) Slot.unset).toArray = ls at hl ⊢
  have hl : lv_has ls 4 [(0, .ref mo)] := hl
  refine lv_aload_n hx hb dX8_settleParts_0 rfl (lv_at hl 0 rfl) ?_
  refine hs_callV hC hs_Tok hW hL (ct_X8_layRow E _ _ _ _ _ _ _ ha N d S hI hG) cw_X8_layRow lk_X8_141 im_X8_layRow se_X8_layRow (hs_recv hC hW mo_obj rfl) hl.1 (by decide) (Nat.le_of_ble_eq_true rfl) dX8_settleParts_1 (mo_k0 (fun _ _ _ _ h => h.1) (fun sc9 mI9 mL9 H locs hq hW hL => ?_))
  obtain ⟨-, rw, f, hnd, hld, hrw, e1, e2⟩ := hq
  rw [e1, e2] at hW
  refine lv_iconst (v := 0) hx hb dX8_settleParts_4 (by decide) ?_
  refine lv_istore_n (lv' := [(1, .int _), (0, .ref _)]) hx hb dX8_settleParts_5 rfl hl (by decide) rfl (fun ls hl => ?_)
  refine hs_loop (σ := Nat × (Nat → Int32) × (Nat → Nat → Int32) × (Nat → Nat → Int64) × Nat) (fun x => match x with | (k, sc2, mI2, mL2, S2) => rw.length - k) (fun x H locs ls => match x with | (k, sc2, mI2, mL2, S2) => (k ≤ rw.length ∧ mo_B sc2 mI2 N d S2 ∧ S2 ≤ S + k ∧ (∀ j, j ≠ 23 → sc2 j = (mo_up sc 28 (nI rw.length)) j) ∧ (∀ k, k ≠ 8 → k ≠ 9 → (k < 24 ∨ 27 < k) → mI2 k = (mo_up mI 29 f) k)) ∧ hs_W (eD E) vwCl (eH E) (mo_W E mo ar ix sc2 mI2 mL2 F) H ∧ (∀ q ∈ locs, (eH E).size ≤ q.base) ∧ lv_has ls 4 [(0, .ref mo), (1, .int (nI k))]) ?_ (0, mo_up sc 28 (nI rw.length), mo_up mI 29 f, _, S) _ _ _ ⟨⟨Nat.zero_le _, mo_B_fr hI ⟨rfl, rfl, rfl⟩ ⟨rfl, rfl, rfl⟩, Nat.le_refl _, (fun _ _ => rfl), fun _ _ _ _ => rfl⟩, hW, hL, (lv_sub hl [1, 0] rfl)⟩
  rintro ⟨k, sc2, mI2, mL2, S2⟩ H locs ls ⟨hinv, hW, hL, hl⟩ ih
  replace hW : hs_W (eD E) vwCl (eH E) (mo_W E mo ar ix sc2 mI2 mL2 F) H := hW
  replace hl : lv_has ls 4 [(0, .ref mo), (1, .int (nI k))] := hl
  refine lv_iload_n hx hb dX8_settleParts_6 rfl (lv_at hl 1 rfl) ?_
  refine lv_aload_n hx hb dX8_settleParts_7 rfl (lv_at hl 0 rfl) ?_
  refine hs_get hC hW hi_X8 rfl 28 (by decide) lk_X8_132 rfl mo_obj rfl dX8_settleParts_8 ?_
  refine lv_icmp_ge (tgt := 89) hx hb dX8_settleParts_11 (by decide) (fun c11 => ?_) (fun c11 => ?_)
  · exact hs_vret hC hW hL hr hlocks (by decide) (by decide) dX8_settleParts_89 ⟨rfl, rfl, _, _, _, _, rfl, rfl, rfl, rw, S2, hnd, hld, by omega, hinv.2.1, (fun j z1 z2 => (hinv.2.2.2.1 j z1).trans (by simp [mo_up, z2])), fun q z1 z2 z3 z4 => (hinv.2.2.2.2 q z1 z2 z4).trans (by simp [mo_up, z3])⟩
  have hlen9 : rw.length ≤ 150 := Nat.le_trans (mo_nodup N rw hnd (fun t ht => (hld t ht).1)) hI.2.1
  have hk1 : k < rw.length := Nat.not_le.mp fun z => c11 (by show nI k ≥ sc2 28; rw [hinv.2.2.2.1 28 (by decide), mo_up_eq]; exact (nI_leI (by omega) (by omega)).mpr z)
  obtain ⟨t0, hk0⟩ : ∃ t0, rw[k]? = some t0 := ⟨rw[k], List.getElem?_eq_getElem hk1⟩
  have hld0 := hld t0 (List.mem_of_getElem? hk0)
  have hf0 : mI2 29 k = nI t0 := by rw [hinv.2.2.2.2 29 (by decide) (by decide) (by decide), mo_up_eq]; exact hrw k t0 hk0
  have hkc : (nI k).toNatClampNeg = k := nI_clamp (by omega)
  have ht150 : t0 < 150 := Nat.lt_of_lt_of_le hld0.1 hI.2.1
  have ht0c : (nI t0).toNatClampNeg = t0 := nI_clamp (by omega)
  have htn : vp_in (nI t0) 150 := vp_in_nI ht150 (by decide)
  have hS2 : S2 < 2000 := by omega
  refine lv_aload_n hx hb dX8_settleParts_14 rfl (lv_at hl 0 rfl) ?_
  refine hs_get hC hW hi_X8 rfl 29 (by decide) lk_X8_84 rfl mo_obj rfl dX8_settleParts_15 ?_
  refine lv_iload_n hx hb dX8_settleParts_18 rfl (lv_at hl 1 rfl) ?_
  refine hs_iald hC hW 0 (mo_int ha.1 29 rfl) rfl (vp_in_nI (N := 150) (by omega) (by decide)) dX8_settleParts_19 ?_
  rw [hkc, hf0]
  refine lv_istore_n (lv' := [(2, .int _), (0, .ref _), (1, .int _)]) hx hb dX8_settleParts_20 rfl hl (by decide) rfl (fun ls hl => ?_)
  refine lv_aload_n hx hb dX8_settleParts_21 rfl (lv_at hl 1 rfl) ?_
  refine hs_get hC hW hi_X8 rfl 20 (by decide) lk_X8_63 rfl mo_obj rfl dX8_settleParts_22 ?_
  refine lv_iload_n hx hb dX8_settleParts_25 rfl (lv_at hl 0 rfl) ?_
  refine hs_zald hC hW 2 (mo_bool ha.1 20 rfl) rfl htn dX8_settleParts_26 ?_
  refine lv_if_eq (tgt := 52) hx hb dX8_settleParts_27 (by decide) (fun c27 => ?_) (fun c27 => ?_)
  · refine lv_iconst (v := 0) hx hb dX8_settleParts_52 (by decide) ?_
    refine lv_istore_n (lv' := [(3, .int _), (2, .int _), (0, .ref _), (1, .int _)]) hx hb dX8_settleParts_53 rfl hl (by decide) rfl (fun ls hl => ?_)
    refine lv_iload_n hx hb dX8_settleParts_54 rfl (lv_at hl 0 rfl) ?_
    refine lv_if_le (tgt := 83) hx hb dX8_settleParts_55 (by decide) (fun c55 => ?_) (fun c55 => ?_)
    · refine lv_iinc (lv' := [(1, .int _), (3, .int _), (2, .int _), (0, .ref _)]) hx hb dX8_settleParts_83 hl (k := 3) rfl rfl (by decide) rfl (fun ls hl => ?_)
      refine lv_goto (tgt := 6) hx hb dX8_settleParts_86 (by decide) ?_
      rw [hs_inc] at hl
      exact ih (k + 1, _, _, _, S2) _ _ _ (by show rw.length - (k + 1) < rw.length - k; omega) ⟨⟨by omega, hinv.2.1, by omega, hinv.2.2.2⟩, hW, hL, (lv_sub hl [3, 0] rfl)⟩
    exact absurd c55 (by first | decide | simp [mo_up])
  refine lv_aload_n hx hb dX8_settleParts_30 rfl (lv_at hl 1 rfl) ?_
  refine lv_aload_n hx hb dX8_settleParts_31 rfl (lv_at hl 1 rfl) ?_
  refine hs_get hC hW hi_X8 rfl 22 (by decide) lk_X8_69 rfl mo_obj rfl dX8_settleParts_32 ?_
  refine lv_iload_n hx hb dX8_settleParts_35 rfl (lv_at hl 0 rfl) ?_
  refine hs_iald hC hW 0 (mo_int ha.1 22 rfl) rfl htn dX8_settleParts_36 ?_
  refine hs_callV hC hs_Tok hW hL (ct_X8_sizeOf E _ _ _ _ _ _ _ ha _ N d S2 hinv.2.1) cw_X8_sizeOf lk_X8_151 im_X8_sizeOf se_X8_sizeOf (hs_recv hC hW mo_obj rfl) hl.1 (by decide) (Nat.le_of_ble_eq_true rfl) dX8_settleParts_37 (hs_ke (fun x H locs hJ hW hL => ?_))
  refine lv_iconst (v := 1) hx hb dX8_settleParts_40 (by decide) ?_
  refine lv_icmp_ne (tgt := 52) hx hb dX8_settleParts_41 (by decide) (fun c41 => ?_) (fun c41 => ?_)
  · refine lv_iconst (v := 0) hx hb dX8_settleParts_52 (by decide) ?_
    refine lv_istore_n (lv' := [(3, .int _), (2, .int _), (0, .ref _), (1, .int _)]) hx hb dX8_settleParts_53 rfl hl (by decide) rfl (fun ls hl => ?_)
    refine lv_iload_n hx hb dX8_settleParts_54 rfl (lv_at hl 0 rfl) ?_
    refine lv_if_le (tgt := 83) hx hb dX8_settleParts_55 (by decide) (fun c55 => ?_) (fun c55 => ?_)
    · refine lv_iinc (lv' := [(1, .int _), (3, .int _), (2, .int _), (0, .ref _)]) hx hb dX8_settleParts_83 hl (k := 3) rfl rfl (by decide) rfl (fun ls hl => ?_)
      refine lv_goto (tgt := 6) hx hb dX8_settleParts_86 (by decide) ?_
      rw [hs_inc] at hl
      exact ih (k + 1, _, _, _, S2) _ _ _ (by show rw.length - (k + 1) < rw.length - k; omega) ⟨⟨by omega, hinv.2.1, by omega, hinv.2.2.2⟩, hW, hL, (lv_sub hl [3, 0] rfl)⟩
    exact absurd c55 (by first | decide | simp [mo_up])
  refine lv_aload_n hx hb dX8_settleParts_44 rfl (lv_at hl 1 rfl) ?_
  refine lv_iload_n hx hb dX8_settleParts_45 rfl (lv_at hl 0 rfl) ?_
  refine hs_callV hC hs_Tok hW hL (ct_X8_partOf E _ _ _ _ _ _ _ ha N d S2 t0 hld0.1 hinv.2.1) cw_X8_partOf lk_X8_154 im_X8_partOf se_X8_partOf (hs_recv hC hW mo_obj rfl) hl.1 (by decide) (Nat.le_of_ble_eq_true rfl) dX8_settleParts_46 (hs_ke (fun x2 H locs hJ2 hW hL => ?_))
  refine lv_goto (tgt := 53) hx hb dX8_settleParts_49 (by decide) ?_
  refine lv_istore_n (lv' := [(3, .int _), (2, .int _), (0, .ref _), (1, .int _)]) hx hb dX8_settleParts_53 rfl hl (by decide) rfl (fun ls hl => ?_)
  refine lv_iload_n hx hb dX8_settleParts_54 rfl (lv_at hl 0 rfl) ?_
  refine lv_if_le (tgt := 83) hx hb dX8_settleParts_55 (by decide) (fun c55 => ?_) (fun c55 => ?_)
  · refine lv_iinc (lv' := [(1, .int _), (3, .int _), (2, .int _), (0, .ref _)]) hx hb dX8_settleParts_83 hl (k := 3) rfl rfl (by decide) rfl (fun ls hl => ?_)
    refine lv_goto (tgt := 6) hx hb dX8_settleParts_86 (by decide) ?_
    rw [hs_inc] at hl
    exact ih (k + 1, _, _, _, S2) _ _ _ (by show rw.length - (k + 1) < rw.length - k; omega) ⟨⟨by omega, hinv.2.1, by omega, hinv.2.2.2⟩, hW, hL, (lv_sub hl [3, 0] rfl)⟩
  have hq0 : ¬ mI2 8 t0 = 0 := by first | exact hJ2.resolve_left (fun z => c55 (by rw [z]; decide)) | exact absurd (by decide : (0 : Int32) ≤ 0) c55
  refine lv_aload_n hx hb dX8_settleParts_58 rfl (lv_at hl 2 rfl) ?_
  refine lv_iload_n hx hb dX8_settleParts_59 rfl (lv_at hl 1 rfl) ?_
  refine lv_iload_n hx hb dX8_settleParts_60 rfl (lv_at hl 0 rfl) ?_
  refine lv_aload_n hx hb dX8_settleParts_61 rfl (lv_at hl 2 rfl) ?_
  refine hs_get hC hW hi_X8 rfl 9 (by decide) lk_X8_30 rfl mo_obj rfl dX8_settleParts_62 ?_
  refine lv_iload_n hx hb dX8_settleParts_65 rfl (lv_at hl 1 rfl) ?_
  refine hs_iald hC hW 0 (mo_int ha.1 9 rfl) rfl htn dX8_settleParts_66 ?_
  refine lv_i2l hx hb dX8_settleParts_67 rfl ?_
  refine lv_iload_n hx hb dX8_settleParts_68 rfl (lv_at hl 0 rfl) ?_
  refine lv_i2l hx hb dX8_settleParts_69 rfl ?_
  refine lv_lmul hx hb dX8_settleParts_70 ?_
  refine lv_aload_n hx hb dX8_settleParts_71 rfl (lv_at hl 2 rfl) ?_
  refine hs_get hC hW hi_X8 rfl 8 (by decide) lk_X8_27 rfl mo_obj rfl dX8_settleParts_72 ?_
  refine lv_iload_n hx hb dX8_settleParts_75 rfl (lv_at hl 1 rfl) ?_
  refine hs_iald hC hW 0 (mo_int ha.1 8 rfl) rfl htn dX8_settleParts_76 ?_
  refine lv_i2l hx hb dX8_settleParts_77 rfl ?_
  refine lv_ldiv hx hb dX8_settleParts_78 (mo_ne64 (by rw [ht0c]; exact hq0)) ?_
  refine lv_l2i hx hb dX8_settleParts_79 rfl ?_
  refine hs_callV hC hs_Tok hW hL (ct_X8_settle E _ _ _ _ _ _ _ ha N d S2 t0 _ _ hld0.1 hS2 hinv.2.1) cw_X8_settle lk_X8_147 im_X8_settle se_X8_settle (hs_recv hC hW mo_obj rfl) hl.1 (by decide) (Nat.le_of_ble_eq_true rfl) dX8_settleParts_80 (mo_k0 (fun _ _ _ _ h => h.1) (fun sc3 mI3 mL3 H locs hq hW hL => ?_))
  refine lv_iinc (lv' := [(1, .int _), (3, .int _), (2, .int _), (0, .ref _)]) hx hb dX8_settleParts_83 hl (k := 3) rfl rfl (by decide) rfl (fun ls hl => ?_)
  refine lv_goto (tgt := 6) hx hb dX8_settleParts_86 (by decide) ?_
  rw [hs_inc] at hl
  exact ih (k + 1, _, _, _, S2 + 1) _ _ _ (by show rw.length - (k + 1) < rw.length - k; omega) ⟨⟨by omega, mo_B_set hinv.2.1 hq.2.1 (hq.2.2 5 (by decide) (by decide) (by decide)) (hq.2.2 6 (by decide) (by decide) (by decide)) (hq.2.2 7 (by decide) (by decide) (by decide)), by omega, (fun j z => by rw [hq.2.1]; simp only [mo_up, if_neg z]; exact hinv.2.2.2.1 j z), fun q z1 z2 z3 => (hq.2.2 q z1 z2 z3).trans (hinv.2.2.2.2 q z1 z2 z3)⟩, hW, hL, (lv_sub hl [3, 0] rfl)⟩
