/-! the reference: addTrade, tell, link -/
set_option maxHeartbeats 4000000 in
set_option maxRecDepth 100000 in
/-- Model.addTrade -/
theorem ct_X8_addTrade (E : hs_E) (mo : Nat) (ar : Nat → Nat) (ix : Nat → Option Nat) (sc : Nat → Int32) (mI : Nat → Nat → Int32) (mL : Nat → Nat → Int64) (F : hs_G) (ha : mo_ok E mo ar ix) (te : Int32) (a b g : Nat) (N d S : Nat) (hI : mo_I sc mI N d S) (hN : N < 150) (ha16 : a < 16) (hb16 : b < 16) (hg8 : g < 8) (hw0 : mI 31 0 = nI a) (hw1 : mI 31 1 = nI b) (hw2 : mI 31 2 = nI g) : hM E yX8_addTrade ({ frames := 0, cells := 0, slots := 0, locals := 0 }) [.ref mo, .int te] (mo_W E mo ar ix sc mI mL F) (mo_P E mo ar ix F (fun v sc2 mI2 _ => v = none ∧ mI2 2 = mI 2 ∧ mo_I sc2 mI2 (N + 1) d S)) := by
  refine hs_ofW (cc := cX8_addTrade) (maxL := 2) (ret := none) (by decide) co_X8_addTrade ?_
  intro p e s m args below meth c hC hlocks hr hin0 hnoh hW
  obtain ⟨hx, hb, hml, hown, hts, -⟩ := id hC
  have hE := hW
  have hL : ∀ q ∈ ([] : List Loc), (eH E).size ≤ q.base := fun q hq => nomatch hq
  have hl := lv_entry ([.ref mo, .int te] : List Value) (n := 2) (Nat.le_of_ble_eq_true rfl)
  rw [lg_entry_eq]
  generalize (lg_sl [.ref mo, .int te] ++ List.replicate (2 - (lg_sl [.ref mo, .int te]).length) Slot.unset).toArray = ls at hl ⊢
  have hl : lv_has ls 2 [(0, .ref mo), (1, .int te)] := hl
  have hn4 : vp_in (sc 4) 150 := by rw [hI.1]; exact vp_in_nI hN (by decide)
  have hcl : (sc 4).toNatClampNeg = N := by rw [hI.1]; exact nI_clamp (by omega)
  refine lv_aload_n hx hb dX8_addTrade_0 rfl (lv_at hl 0 rfl) ?_
  refine hs_get hC hW hi_X8 rfl 5 (by decide) lk_X8_17 rfl mo_obj rfl dX8_addTrade_1 ?_
  refine lv_aload_n hx hb dX8_addTrade_4 rfl (lv_at hl 0 rfl) ?_
  refine hs_get hC hW hi_X8 rfl 4 (by decide) lk_X8_107 rfl mo_obj rfl dX8_addTrade_5 ?_
  refine lv_aload_n hx hb dX8_addTrade_8 rfl (lv_at hl 0 rfl) ?_
  refine hs_get hC hW hi_X8 rfl 31 (by decide) lk_X8_90 rfl mo_obj rfl dX8_addTrade_9 ?_
  refine lv_iconst (v := 0) hx hb dX8_addTrade_12 (by decide) ?_
  refine hs_iald hC hW 0 (mo_int ha.1 31 rfl) rfl (by unfold vp_in; decide) dX8_addTrade_13 ?_
  refine hs_iast hC hW hL 0 (mo_int ha.1 5 rfl) (ha.2.2 5 rfl) rfl hn4 dX8_addTrade_14 (fun H locs hW hL => ?_)
  rw [mo_putI ha.1 5 rfl] at hW
  refine lv_aload_n hx hb dX8_addTrade_15 rfl (lv_at hl 0 rfl) ?_
  refine hs_get hC hW hi_X8 rfl 6 (by decide) lk_X8_21 rfl mo_obj rfl dX8_addTrade_16 ?_
  refine lv_aload_n hx hb dX8_addTrade_19 rfl (lv_at hl 0 rfl) ?_
  refine hs_get hC hW hi_X8 rfl 4 (by decide) lk_X8_107 rfl mo_obj rfl dX8_addTrade_20 ?_
  refine lv_aload_n hx hb dX8_addTrade_23 rfl (lv_at hl 0 rfl) ?_
  refine hs_get hC hW hi_X8 rfl 31 (by decide) lk_X8_90 rfl mo_obj rfl dX8_addTrade_24 ?_
  refine lv_iconst (v := 1) hx hb dX8_addTrade_27 (by decide) ?_
  refine hs_iald hC hW 0 (mo_int ha.1 31 rfl) rfl (by unfold vp_in; decide) dX8_addTrade_28 ?_
  refine hs_iast hC hW hL 0 (mo_int ha.1 6 rfl) (ha.2.2 6 rfl) rfl hn4 dX8_addTrade_29 (fun H locs hW hL => ?_)
  rw [mo_putI ha.1 6 rfl] at hW
  refine lv_aload_n hx hb dX8_addTrade_30 rfl (lv_at hl 0 rfl) ?_
  refine hs_get hC hW hi_X8 rfl 7 (by decide) lk_X8_24 rfl mo_obj rfl dX8_addTrade_31 ?_
  refine lv_aload_n hx hb dX8_addTrade_34 rfl (lv_at hl 0 rfl) ?_
  refine hs_get hC hW hi_X8 rfl 4 (by decide) lk_X8_107 rfl mo_obj rfl dX8_addTrade_35 ?_
  refine lv_aload_n hx hb dX8_addTrade_38 rfl (lv_at hl 0 rfl) ?_
  refine hs_get hC hW hi_X8 rfl 31 (by decide) lk_X8_90 rfl mo_obj rfl dX8_addTrade_39 ?_
  refine lv_iconst (v := 2) hx hb dX8_addTrade_42 (by decide) ?_
  refine hs_iald hC hW 0 (mo_int ha.1 31 rfl) rfl (by unfold vp_in; decide) dX8_addTrade_43 ?_
  refine hs_iast hC hW hL 0 (mo_int ha.1 7 rfl) (ha.2.2 7 rfl) rfl hn4 dX8_addTrade_44 (fun H locs hW hL => ?_)
  rw [mo_putI ha.1 7 rfl] at hW
  refine lv_aload_n hx hb dX8_addTrade_45 rfl (lv_at hl 0 rfl) ?_
  refine hs_get hC hW hi_X8 rfl 10 (by decide) lk_X8_33 rfl mo_obj rfl dX8_addTrade_46 ?_
  refine lv_aload_n hx hb dX8_addTrade_49 rfl (lv_at hl 0 rfl) ?_
  refine hs_get hC hW hi_X8 rfl 4 (by decide) lk_X8_107 rfl mo_obj rfl dX8_addTrade_50 ?_
  refine lv_aload_n hx hb dX8_addTrade_53 rfl (lv_at hl 0 rfl) ?_
  refine hs_get hC hW hi_X8 rfl 31 (by decide) lk_X8_90 rfl mo_obj rfl dX8_addTrade_54 ?_
  refine lv_iconst (v := 3) hx hb dX8_addTrade_57 (by decide) ?_
  refine hs_iald hC hW 0 (mo_int ha.1 31 rfl) rfl (by unfold vp_in; decide) dX8_addTrade_58 ?_
  refine hs_iast hC hW hL 0 (mo_int ha.1 10 rfl) (ha.2.2 10 rfl) rfl hn4 dX8_addTrade_59 (fun H locs hW hL => ?_)
  rw [mo_putI ha.1 10 rfl] at hW
  refine lv_aload_n hx hb dX8_addTrade_60 rfl (lv_at hl 0 rfl) ?_
  refine hs_get hC hW hi_X8 rfl 11 (by decide) lk_X8_36 rfl mo_obj rfl dX8_addTrade_61 ?_
  refine lv_aload_n hx hb dX8_addTrade_64 rfl (lv_at hl 0 rfl) ?_
  refine hs_get hC hW hi_X8 rfl 4 (by decide) lk_X8_107 rfl mo_obj rfl dX8_addTrade_65 ?_
  refine lv_aload_n hx hb dX8_addTrade_68 rfl (lv_at hl 0 rfl) ?_
  refine hs_get hC hW hi_X8 rfl 31 (by decide) lk_X8_90 rfl mo_obj rfl dX8_addTrade_69 ?_
  refine lv_iconst (v := 4) hx hb dX8_addTrade_72 (by decide) ?_
  refine hs_iald hC hW 0 (mo_int ha.1 31 rfl) rfl (by unfold vp_in; decide) dX8_addTrade_73 ?_
  refine hs_iast hC hW hL 0 (mo_int ha.1 11 rfl) (ha.2.2 11 rfl) rfl hn4 dX8_addTrade_74 (fun H locs hW hL => ?_)
  rw [mo_putI ha.1 11 rfl] at hW
  refine lv_aload_n hx hb dX8_addTrade_75 rfl (lv_at hl 0 rfl) ?_
  refine hs_get hC hW hi_X8 rfl 8 (by decide) lk_X8_27 rfl mo_obj rfl dX8_addTrade_76 ?_
  refine lv_aload_n hx hb dX8_addTrade_79 rfl (lv_at hl 0 rfl) ?_
  refine hs_get hC hW hi_X8 rfl 4 (by decide) lk_X8_107 rfl mo_obj rfl dX8_addTrade_80 ?_
  refine lv_aload_n hx hb dX8_addTrade_83 rfl (lv_at hl 0 rfl) ?_
  refine hs_get hC hW hi_X8 rfl 31 (by decide) lk_X8_90 rfl mo_obj rfl dX8_addTrade_84 ?_
  refine lv_iconst (v := 3) hx hb dX8_addTrade_87 (by decide) ?_
  refine hs_iald hC hW 0 (mo_int ha.1 31 rfl) rfl (by unfold vp_in; decide) dX8_addTrade_88 ?_
  refine hs_iast hC hW hL 0 (mo_int ha.1 8 rfl) (ha.2.2 8 rfl) rfl hn4 dX8_addTrade_89 (fun H locs hW hL => ?_)
  rw [mo_putI ha.1 8 rfl] at hW
  refine lv_aload_n hx hb dX8_addTrade_90 rfl (lv_at hl 0 rfl) ?_
  refine hs_get hC hW hi_X8 rfl 9 (by decide) lk_X8_30 rfl mo_obj rfl dX8_addTrade_91 ?_
  refine lv_aload_n hx hb dX8_addTrade_94 rfl (lv_at hl 0 rfl) ?_
  refine hs_get hC hW hi_X8 rfl 4 (by decide) lk_X8_107 rfl mo_obj rfl dX8_addTrade_95 ?_
  refine lv_aload_n hx hb dX8_addTrade_98 rfl (lv_at hl 0 rfl) ?_
  refine hs_get hC hW hi_X8 rfl 31 (by decide) lk_X8_90 rfl mo_obj rfl dX8_addTrade_99 ?_
  refine lv_iconst (v := 4) hx hb dX8_addTrade_102 (by decide) ?_
  refine hs_iald hC hW 0 (mo_int ha.1 31 rfl) rfl (by unfold vp_in; decide) dX8_addTrade_103 ?_
  refine hs_iast hC hW hL 0 (mo_int ha.1 9 rfl) (ha.2.2 9 rfl) rfl hn4 dX8_addTrade_104 (fun H locs hW hL => ?_)
  rw [mo_putI ha.1 9 rfl] at hW
  refine lv_aload_n hx hb dX8_addTrade_105 rfl (lv_at hl 0 rfl) ?_
  refine hs_get hC hW hi_X8 rfl 12 (by decide) lk_X8_39 rfl mo_obj rfl dX8_addTrade_106 ?_
  refine lv_aload_n hx hb dX8_addTrade_109 rfl (lv_at hl 0 rfl) ?_
  refine hs_get hC hW hi_X8 rfl 4 (by decide) lk_X8_107 rfl mo_obj rfl dX8_addTrade_110 ?_
  refine lv_aload_n hx hb dX8_addTrade_113 rfl (lv_at hl 0 rfl) ?_
  refine hs_get hC hW hi_X8 rfl 31 (by decide) lk_X8_90 rfl mo_obj rfl dX8_addTrade_114 ?_
  refine lv_iconst (v := 5) hx hb dX8_addTrade_117 (by decide) ?_
  refine hs_iald hC hW 0 (mo_int ha.1 31 rfl) rfl (by unfold vp_in; decide) dX8_addTrade_118 ?_
  refine hs_iast hC hW hL 0 (mo_int ha.1 12 rfl) (ha.2.2 12 rfl) rfl hn4 dX8_addTrade_119 (fun H locs hW hL => ?_)
  rw [mo_putI ha.1 12 rfl] at hW
  refine lv_aload_n hx hb dX8_addTrade_120 rfl (lv_at hl 0 rfl) ?_
  refine hs_get hC hW hi_X8 rfl 13 (by decide) lk_X8_42 rfl mo_obj rfl dX8_addTrade_121 ?_
  refine lv_aload_n hx hb dX8_addTrade_124 rfl (lv_at hl 0 rfl) ?_
  refine hs_get hC hW hi_X8 rfl 4 (by decide) lk_X8_107 rfl mo_obj rfl dX8_addTrade_125 ?_
  refine lv_aload_n hx hb dX8_addTrade_128 rfl (lv_at hl 0 rfl) ?_
  refine hs_get hC hW hi_X8 rfl 31 (by decide) lk_X8_90 rfl mo_obj rfl dX8_addTrade_129 ?_
  refine lv_bipush (v := 6) hx hb dX8_addTrade_132 (by decide) ?_
  refine hs_iald hC hW 0 (mo_int ha.1 31 rfl) rfl (by unfold vp_in; decide) dX8_addTrade_134 ?_
  refine hs_iast hC hW hL 0 (mo_int ha.1 13 rfl) (ha.2.2 13 rfl) rfl hn4 dX8_addTrade_135 (fun H locs hW hL => ?_)
  rw [mo_putI ha.1 13 rfl] at hW
  refine lv_aload_n hx hb dX8_addTrade_136 rfl (lv_at hl 0 rfl) ?_
  refine hs_get hC hW hi_X8 rfl 14 (by decide) lk_X8_45 rfl mo_obj rfl dX8_addTrade_137 ?_
  refine lv_aload_n hx hb dX8_addTrade_140 rfl (lv_at hl 0 rfl) ?_
  refine hs_get hC hW hi_X8 rfl 4 (by decide) lk_X8_107 rfl mo_obj rfl dX8_addTrade_141 ?_
  refine lv_iload_n hx hb dX8_addTrade_144 rfl (lv_at hl 1 rfl) ?_
  refine hs_iast hC hW hL 0 (mo_int ha.1 14 rfl) (ha.2.2 14 rfl) rfl hn4 dX8_addTrade_145 (fun H locs hW hL => ?_)
  rw [mo_putI ha.1 14 rfl] at hW
  refine lv_aload_n hx hb dX8_addTrade_146 rfl (lv_at hl 0 rfl) ?_
  refine hs_get hC hW hi_X8 rfl 15 (by decide) lk_X8_48 rfl mo_obj rfl dX8_addTrade_147 ?_
  refine lv_aload_n hx hb dX8_addTrade_150 rfl (lv_at hl 0 rfl) ?_
  refine hs_get hC hW hi_X8 rfl 4 (by decide) lk_X8_107 rfl mo_obj rfl dX8_addTrade_151 ?_
  refine lv_iconst (v := 0) hx hb dX8_addTrade_154 (by decide) ?_
  refine hs_iast hC hW hL 0 (mo_int ha.1 15 rfl) (ha.2.2 15 rfl) rfl hn4 dX8_addTrade_155 (fun H locs hW hL => ?_)
  rw [mo_putI ha.1 15 rfl] at hW
  refine lv_aload_n hx hb dX8_addTrade_156 rfl (lv_at hl 0 rfl) ?_
  refine hs_get hC hW hi_X8 rfl 16 (by decide) lk_X8_51 rfl mo_obj rfl dX8_addTrade_157 ?_
  refine lv_aload_n hx hb dX8_addTrade_160 rfl (lv_at hl 0 rfl) ?_
  refine hs_get hC hW hi_X8 rfl 4 (by decide) lk_X8_107 rfl mo_obj rfl dX8_addTrade_161 ?_
  refine lv_iconst (v := (-1)) hx hb dX8_addTrade_164 (by decide) ?_
  refine hs_iast hC hW hL 0 (mo_int ha.1 16 rfl) (ha.2.2 16 rfl) rfl hn4 dX8_addTrade_165 (fun H locs hW hL => ?_)
  rw [mo_putI ha.1 16 rfl] at hW
  refine lv_aload_n hx hb dX8_addTrade_166 rfl (lv_at hl 0 rfl) ?_
  refine hs_get hC hW hi_X8 rfl 19 (by decide) lk_X8_60 rfl mo_obj rfl dX8_addTrade_167 ?_
  refine lv_aload_n hx hb dX8_addTrade_170 rfl (lv_at hl 0 rfl) ?_
  refine hs_get hC hW hi_X8 rfl 4 (by decide) lk_X8_107 rfl mo_obj rfl dX8_addTrade_171 ?_
  refine lv_iconst (v := 1) hx hb dX8_addTrade_174 (by decide) ?_
  refine hs_iast hC hW hL 0 (mo_int ha.1 19 rfl) (ha.2.2 19 rfl) rfl hn4 dX8_addTrade_175 (fun H locs hW hL => ?_)
  rw [mo_putI ha.1 19 rfl] at hW
  refine lv_aload_n hx hb dX8_addTrade_176 rfl (lv_at hl 0 rfl) ?_
  refine hs_get hC hW hi_X8 rfl 22 (by decide) lk_X8_69 rfl mo_obj rfl dX8_addTrade_177 ?_
  refine lv_aload_n hx hb dX8_addTrade_180 rfl (lv_at hl 0 rfl) ?_
  refine hs_get hC hW hi_X8 rfl 4 (by decide) lk_X8_107 rfl mo_obj rfl dX8_addTrade_181 ?_
  refine lv_iconst (v := (-1)) hx hb dX8_addTrade_184 (by decide) ?_
  refine hs_iast hC hW hL 0 (mo_int ha.1 22 rfl) (ha.2.2 22 rfl) rfl hn4 dX8_addTrade_185 (fun H locs hW hL => ?_)
  rw [mo_putI ha.1 22 rfl] at hW
  rw [hcl] at hW
  refine lv_aload_n hx hb dX8_addTrade_186 rfl (lv_at hl 0 rfl) ?_
  refine lv_dup hx hb dX8_addTrade_187 rfl ?_
  refine hs_get hC hW hi_X8 rfl 4 (by decide) lk_X8_107 rfl mo_obj rfl dX8_addTrade_188 ?_
  refine lv_iconst (v := 1) hx hb dX8_addTrade_191 (by decide) ?_
  refine lv_iadd hx hb dX8_addTrade_192 ?_
  refine hs_put hC hW hL hi_X8 tyX8 tyX8_ok nmX8 rfl 4 (by decide) lk_X8_107 rfl rfl mo_obj ha.2.1 rfl rfl (Nat.le_of_ble_eq_true rfl) dX8_addTrade_193 (fun H locs hW hL => ?_)
  rw [mo_putS (mo_fs4 _)] at hW
  exact hs_vret hC hW hL hr hlocks (by decide) (by decide) dX8_addTrade_196 ⟨rfl, rfl, _, _, _, _, rfl, rfl, rfl, rfl, mo_I_add hI hN ha16 hb16 hg8 ⟨rfl, rfl, rfl⟩ (by rw [← hw0]; rfl) (by rw [← hw1]; rfl) (by rw [← hw2]; rfl) rfl rfl rfl⟩
set_option maxHeartbeats 4000000 in
set_option maxRecDepth 100000 in
/-- Model.tell -/
theorem ct_X8_tell (E : hs_E) (mo : Nat) (ar : Nat → Nat) (ix : Nat → Option Nat) (sc : Nat → Int32) (mI : Nat → Nat → Int32) (mL : Nat → Nat → Int64) (F : hs_G) (ha : mo_ok E mo ar ix) (pa ot de se qu am day lag : Int32) (N d S : Nat) (hI : mo_I sc mI N d S) : hM E yX8_tell ({ frames := 3, cells := 0, slots := 0, locals := 90 }) [.ref mo, .int pa, .int ot, .int de, .int se, .int qu, .int am, .int day, .int lag] (mo_W E mo ar ix sc mI mL F) (mo_P E mo ar ix F (fun v sc2 mI2 _ => (∃ x : Int32, v = some (.int x)) ∧ mI2 2 = mI 2 ∧ mo_J d sc2 mI2)) := by
  refine hs_ofW (cc := cX8_tell) (maxL := 12) (ret := (some .int)) (by decide) co_X8_tell ?_
  intro p e s m args below meth c hC hlocks hr hin0 hnoh hW
  obtain ⟨hx, hb, hml, hown, hts, -⟩ := id hC
  have hE := hW
  have hL : ∀ q ∈ ([] : List Loc), (eH E).size ≤ q.base := fun q hq => nomatch hq
  have hl := lv_entry ([.ref mo, .int pa, .int ot, .int de, .int se, .int qu, .int am, .int day, .int lag] : List Value) (n := 12) (Nat.le_of_ble_eq_true rfl)
  rw [lg_entry_eq]
  generalize (lg_sl [.ref mo, .int pa, .int ot, .int de, .int se, .int qu, .int am, .int day, .int lag] ++ List.replicate (12 - (lg_sl [.ref mo, .int pa, .int ot, .int de, .int se, .int qu, .int am, .int day, .int lag]).length) Slot.unset).toArray = ls at hl ⊢
  have hl : lv_has ls 12 [(0, .ref mo), (1, .int pa), (2, .int ot), (3, .int de), (4, .int se), (5, .int qu), (6, .int am), (7, .int day), (8, .int lag)] := hl
  refine lv_iload_n hx hb dX8_tell_0 rfl (lv_at hl 1 rfl) ?_
  refine hs_callS hC hs_Tok hW hL (ct_X8_isParty E _ _) cw_X8_isParty lk_X8_164 st_X8_isParty hl.1 (by decide) (Nat.le_of_ble_eq_true rfl) dX8_tell_1 (hs_kp1 (fun H locs hW hL => ?_))
  refine lv_if_eq (tgt := 36) hx hb dX8_tell_4 (by decide) (fun c4 => ?_) (fun c4 => ?_)
  · refine lv_iconst (v := 0) hx hb dX8_tell_36 (by decide) ?_
    refine lv_istore (lv' := [(9, .int _), (0, .ref _), (1, .int _), (2, .int _), (3, .int _), (4, .int _), (5, .int _), (6, .int _), (7, .int _), (8, .int _)]) hx hb dX8_tell_37 hl (by decide) rfl (fun ls hl => ?_)
    refine lv_iload hx hb dX8_tell_39 (lv_at hl 6 rfl) ?_
    refine lv_i2l hx hb dX8_tell_41 rfl ?_
    refine lv_lconst (v := 0) hx hb dX8_tell_42 (by decide) ?_
    refine lv_ldc2 hx hb hown (hts _ lk_X8_176) dX8_tell_43 ?_
    refine hs_callS hC hs_Tok hW hL (ct_X8_in E _ _ _ _) cw_X8_in lk_X8_99 st_X8_in hl.1 (by decide) (Nat.le_of_ble_eq_true rfl) dX8_tell_46 (hs_kp1 (fun H locs hW hL => ?_))
    refine lv_if_eq (tgt := 77) hx hb dX8_tell_49 (by decide) (fun c49 => ?_) (fun c49 => ?_)
    · refine lv_iconst (v := 0) hx hb dX8_tell_77 (by decide) ?_
      refine lv_istore (lv' := [(10, .int _), (9, .int _), (0, .ref _), (1, .int _), (2, .int _), (3, .int _), (4, .int _), (5, .int _), (6, .int _), (7, .int _), (8, .int _)]) hx hb dX8_tell_78 hl (by decide) rfl (fun ls hl => ?_)
      refine lv_aload_n hx hb dX8_tell_80 rfl (lv_at hl 2 rfl) ?_
      refine lv_iload hx hb dX8_tell_81 (lv_at hl 1 rfl) ?_
      refine lv_if_eq (tgt := 123) hx hb dX8_tell_83 (by decide) (fun c83 => ?_) (fun c83 => ?_)
      · refine lv_iconst (v := 1) hx hb dX8_tell_123 (by decide) ?_
        refine hs_put hC hW hL hi_X8 tyX8 tyX8_ok nmX8 rfl 0 (by decide) lk_X8_93 rfl rfl mo_obj ha.2.1 rfl rfl (Nat.le_of_ble_eq_true rfl) dX8_tell_124 (fun H locs hW hL => ?_)
        rw [mo_putS (mo_fs0 _)] at hW
        refine lv_aload_n hx hb dX8_tell_127 rfl (lv_at hl 2 rfl) ?_
        refine hs_get hC hW hi_X8 rfl 0 (by decide) lk_X8_93 rfl mo_obj rfl dX8_tell_128 ?_
        refine lv_if_le (tgt := 136) hx hb dX8_tell_131 (by decide) (fun c131 => ?_) (fun c131 => ?_)
        · exact absurd c131 (by first | decide | simp [mo_up])
        refine lv_iconst (v := 0) hx hb dX8_tell_134 (by decide) ?_
        exact hs_iret hC hW hL hr hlocks (by decide) (by decide) dX8_tell_135 ⟨rfl, rfl, _, _, _, _, rfl, rfl, ⟨_, rfl⟩, by (first | exact rfl | exact hm3), ⟨N, S, mo_J_fr hI ⟨rfl, rfl, rfl⟩ ⟨rfl, rfl, rfl, rfl, rfl, rfl⟩⟩⟩
      exact absurd c83 (by first | decide | simp [mo_up])
    refine lv_iload hx hb dX8_tell_52 (lv_at hl 7 rfl) ?_
    refine lv_i2l hx hb dX8_tell_54 rfl ?_
    refine lv_lconst (v := 0) hx hb dX8_tell_55 (by decide) ?_
    refine lv_ldc2 hx hb hown (hts _ lk_X8_170) dX8_tell_56 ?_
    refine hs_callS hC hs_Tok hW hL (ct_X8_in E _ _ _ _) cw_X8_in lk_X8_99 st_X8_in hl.1 (by decide) (Nat.le_of_ble_eq_true rfl) dX8_tell_59 (hs_kp1 (fun H locs hW hL => ?_))
    refine lv_if_eq (tgt := 77) hx hb dX8_tell_62 (by decide) (fun c62 => ?_) (fun c62 => ?_)
    · refine lv_iconst (v := 0) hx hb dX8_tell_77 (by decide) ?_
      refine lv_istore (lv' := [(10, .int _), (9, .int _), (0, .ref _), (1, .int _), (2, .int _), (3, .int _), (4, .int _), (5, .int _), (6, .int _), (7, .int _), (8, .int _)]) hx hb dX8_tell_78 hl (by decide) rfl (fun ls hl => ?_)
      refine lv_aload_n hx hb dX8_tell_80 rfl (lv_at hl 2 rfl) ?_
      refine lv_iload hx hb dX8_tell_81 (lv_at hl 1 rfl) ?_
      refine lv_if_eq (tgt := 123) hx hb dX8_tell_83 (by decide) (fun c83 => ?_) (fun c83 => ?_)
      · refine lv_iconst (v := 1) hx hb dX8_tell_123 (by decide) ?_
        refine hs_put hC hW hL hi_X8 tyX8 tyX8_ok nmX8 rfl 0 (by decide) lk_X8_93 rfl rfl mo_obj ha.2.1 rfl rfl (Nat.le_of_ble_eq_true rfl) dX8_tell_124 (fun H locs hW hL => ?_)
        rw [mo_putS (mo_fs0 _)] at hW
        refine lv_aload_n hx hb dX8_tell_127 rfl (lv_at hl 2 rfl) ?_
        refine hs_get hC hW hi_X8 rfl 0 (by decide) lk_X8_93 rfl mo_obj rfl dX8_tell_128 ?_
        refine lv_if_le (tgt := 136) hx hb dX8_tell_131 (by decide) (fun c131 => ?_) (fun c131 => ?_)
        · exact absurd c131 (by first | decide | simp [mo_up])
        refine lv_iconst (v := 0) hx hb dX8_tell_134 (by decide) ?_
        exact hs_iret hC hW hL hr hlocks (by decide) (by decide) dX8_tell_135 ⟨rfl, rfl, _, _, _, _, rfl, rfl, ⟨_, rfl⟩, by (first | exact rfl | exact hm3), ⟨N, S, mo_J_fr hI ⟨rfl, rfl, rfl⟩ ⟨rfl, rfl, rfl, rfl, rfl, rfl⟩⟩⟩
      exact absurd c83 (by first | decide | simp [mo_up])
    refine lv_iload hx hb dX8_tell_65 (lv_at hl 6 rfl) ?_
    refine lv_iload hx hb dX8_tell_67 (lv_at hl 7 rfl) ?_
    refine lv_iadd hx hb dX8_tell_69 ?_
    refine lv_if_le (tgt := 77) hx hb dX8_tell_70 (by decide) (fun c70 => ?_) (fun c70 => ?_)
    · refine lv_iconst (v := 0) hx hb dX8_tell_77 (by decide) ?_
      refine lv_istore (lv' := [(10, .int _), (9, .int _), (0, .ref _), (1, .int _), (2, .int _), (3, .int _), (4, .int _), (5, .int _), (6, .int _), (7, .int _), (8, .int _)]) hx hb dX8_tell_78 hl (by decide) rfl (fun ls hl => ?_)
      refine lv_aload_n hx hb dX8_tell_80 rfl (lv_at hl 2 rfl) ?_
      refine lv_iload hx hb dX8_tell_81 (lv_at hl 1 rfl) ?_
      refine lv_if_eq (tgt := 123) hx hb dX8_tell_83 (by decide) (fun c83 => ?_) (fun c83 => ?_)
      · refine lv_iconst (v := 1) hx hb dX8_tell_123 (by decide) ?_
        refine hs_put hC hW hL hi_X8 tyX8 tyX8_ok nmX8 rfl 0 (by decide) lk_X8_93 rfl rfl mo_obj ha.2.1 rfl rfl (Nat.le_of_ble_eq_true rfl) dX8_tell_124 (fun H locs hW hL => ?_)
        rw [mo_putS (mo_fs0 _)] at hW
        refine lv_aload_n hx hb dX8_tell_127 rfl (lv_at hl 2 rfl) ?_
        refine hs_get hC hW hi_X8 rfl 0 (by decide) lk_X8_93 rfl mo_obj rfl dX8_tell_128 ?_
        refine lv_if_le (tgt := 136) hx hb dX8_tell_131 (by decide) (fun c131 => ?_) (fun c131 => ?_)
        · exact absurd c131 (by first | decide | simp [mo_up])
        refine lv_iconst (v := 0) hx hb dX8_tell_134 (by decide) ?_
        exact hs_iret hC hW hL hr hlocks (by decide) (by decide) dX8_tell_135 ⟨rfl, rfl, _, _, _, _, rfl, rfl, ⟨_, rfl⟩, by (first | exact rfl | exact hm3), ⟨N, S, mo_J_fr hI ⟨rfl, rfl, rfl⟩ ⟨rfl, rfl, rfl, rfl, rfl, rfl⟩⟩⟩
      exact absurd c83 (by first | decide | simp [mo_up])
    refine lv_iconst (v := 1) hx hb dX8_tell_73 (by decide) ?_
    refine lv_goto (tgt := 78) hx hb dX8_tell_74 (by decide) ?_
    refine lv_istore (lv' := [(10, .int _), (9, .int _), (0, .ref _), (1, .int _), (2, .int _), (3, .int _), (4, .int _), (5, .int _), (6, .int _), (7, .int _), (8, .int _)]) hx hb dX8_tell_78 hl (by decide) rfl (fun ls hl => ?_)
    refine lv_aload_n hx hb dX8_tell_80 rfl (lv_at hl 2 rfl) ?_
    refine lv_iload hx hb dX8_tell_81 (lv_at hl 1 rfl) ?_
    refine lv_if_eq (tgt := 123) hx hb dX8_tell_83 (by decide) (fun c83 => ?_) (fun c83 => ?_)
    · refine lv_iconst (v := 1) hx hb dX8_tell_123 (by decide) ?_
      refine hs_put hC hW hL hi_X8 tyX8 tyX8_ok nmX8 rfl 0 (by decide) lk_X8_93 rfl rfl mo_obj ha.2.1 rfl rfl (Nat.le_of_ble_eq_true rfl) dX8_tell_124 (fun H locs hW hL => ?_)
      rw [mo_putS (mo_fs0 _)] at hW
      refine lv_aload_n hx hb dX8_tell_127 rfl (lv_at hl 2 rfl) ?_
      refine hs_get hC hW hi_X8 rfl 0 (by decide) lk_X8_93 rfl mo_obj rfl dX8_tell_128 ?_
      refine lv_if_le (tgt := 136) hx hb dX8_tell_131 (by decide) (fun c131 => ?_) (fun c131 => ?_)
      · exact absurd c131 (by first | decide | simp [mo_up])
      refine lv_iconst (v := 0) hx hb dX8_tell_134 (by decide) ?_
      exact hs_iret hC hW hL hr hlocks (by decide) (by decide) dX8_tell_135 ⟨rfl, rfl, _, _, _, _, rfl, rfl, ⟨_, rfl⟩, by (first | exact rfl | exact hm3), ⟨N, S, mo_J_fr hI ⟨rfl, rfl, rfl⟩ ⟨rfl, rfl, rfl, rfl, rfl, rfl⟩⟩⟩
    exact absurd c83 (by first | decide | simp [mo_up])
  refine lv_iload_n hx hb dX8_tell_7 rfl (lv_at hl 2 rfl) ?_
  refine hs_callS hC hs_Tok hW hL (ct_X8_isParty E _ _) cw_X8_isParty lk_X8_164 st_X8_isParty hl.1 (by decide) (Nat.le_of_ble_eq_true rfl) dX8_tell_8 (hs_kp1 (fun H locs hW hL => ?_))
  refine lv_if_eq (tgt := 36) hx hb dX8_tell_11 (by decide) (fun c11 => ?_) (fun c11 => ?_)
  · refine lv_iconst (v := 0) hx hb dX8_tell_36 (by decide) ?_
    refine lv_istore (lv' := [(9, .int _), (0, .ref _), (1, .int _), (2, .int _), (3, .int _), (4, .int _), (5, .int _), (6, .int _), (7, .int _), (8, .int _)]) hx hb dX8_tell_37 hl (by decide) rfl (fun ls hl => ?_)
    refine lv_iload hx hb dX8_tell_39 (lv_at hl 6 rfl) ?_
    refine lv_i2l hx hb dX8_tell_41 rfl ?_
    refine lv_lconst (v := 0) hx hb dX8_tell_42 (by decide) ?_
    refine lv_ldc2 hx hb hown (hts _ lk_X8_176) dX8_tell_43 ?_
    refine hs_callS hC hs_Tok hW hL (ct_X8_in E _ _ _ _) cw_X8_in lk_X8_99 st_X8_in hl.1 (by decide) (Nat.le_of_ble_eq_true rfl) dX8_tell_46 (hs_kp1 (fun H locs hW hL => ?_))
    refine lv_if_eq (tgt := 77) hx hb dX8_tell_49 (by decide) (fun c49 => ?_) (fun c49 => ?_)
    · refine lv_iconst (v := 0) hx hb dX8_tell_77 (by decide) ?_
      refine lv_istore (lv' := [(10, .int _), (9, .int _), (0, .ref _), (1, .int _), (2, .int _), (3, .int _), (4, .int _), (5, .int _), (6, .int _), (7, .int _), (8, .int _)]) hx hb dX8_tell_78 hl (by decide) rfl (fun ls hl => ?_)
      refine lv_aload_n hx hb dX8_tell_80 rfl (lv_at hl 2 rfl) ?_
      refine lv_iload hx hb dX8_tell_81 (lv_at hl 1 rfl) ?_
      refine lv_if_eq (tgt := 123) hx hb dX8_tell_83 (by decide) (fun c83 => ?_) (fun c83 => ?_)
      · refine lv_iconst (v := 1) hx hb dX8_tell_123 (by decide) ?_
        refine hs_put hC hW hL hi_X8 tyX8 tyX8_ok nmX8 rfl 0 (by decide) lk_X8_93 rfl rfl mo_obj ha.2.1 rfl rfl (Nat.le_of_ble_eq_true rfl) dX8_tell_124 (fun H locs hW hL => ?_)
        rw [mo_putS (mo_fs0 _)] at hW
        refine lv_aload_n hx hb dX8_tell_127 rfl (lv_at hl 2 rfl) ?_
        refine hs_get hC hW hi_X8 rfl 0 (by decide) lk_X8_93 rfl mo_obj rfl dX8_tell_128 ?_
        refine lv_if_le (tgt := 136) hx hb dX8_tell_131 (by decide) (fun c131 => ?_) (fun c131 => ?_)
        · exact absurd c131 (by first | decide | simp [mo_up])
        refine lv_iconst (v := 0) hx hb dX8_tell_134 (by decide) ?_
        exact hs_iret hC hW hL hr hlocks (by decide) (by decide) dX8_tell_135 ⟨rfl, rfl, _, _, _, _, rfl, rfl, ⟨_, rfl⟩, by (first | exact rfl | exact hm3), ⟨N, S, mo_J_fr hI ⟨rfl, rfl, rfl⟩ ⟨rfl, rfl, rfl, rfl, rfl, rfl⟩⟩⟩
      exact absurd c83 (by first | decide | simp [mo_up])
    refine lv_iload hx hb dX8_tell_52 (lv_at hl 7 rfl) ?_
    refine lv_i2l hx hb dX8_tell_54 rfl ?_
    refine lv_lconst (v := 0) hx hb dX8_tell_55 (by decide) ?_
    refine lv_ldc2 hx hb hown (hts _ lk_X8_170) dX8_tell_56 ?_
    refine hs_callS hC hs_Tok hW hL (ct_X8_in E _ _ _ _) cw_X8_in lk_X8_99 st_X8_in hl.1 (by decide) (Nat.le_of_ble_eq_true rfl) dX8_tell_59 (hs_kp1 (fun H locs hW hL => ?_))
    refine lv_if_eq (tgt := 77) hx hb dX8_tell_62 (by decide) (fun c62 => ?_) (fun c62 => ?_)
    · refine lv_iconst (v := 0) hx hb dX8_tell_77 (by decide) ?_
      refine lv_istore (lv' := [(10, .int _), (9, .int _), (0, .ref _), (1, .int _), (2, .int _), (3, .int _), (4, .int _), (5, .int _), (6, .int _), (7, .int _), (8, .int _)]) hx hb dX8_tell_78 hl (by decide) rfl (fun ls hl => ?_)
      refine lv_aload_n hx hb dX8_tell_80 rfl (lv_at hl 2 rfl) ?_
      refine lv_iload hx hb dX8_tell_81 (lv_at hl 1 rfl) ?_
      refine lv_if_eq (tgt := 123) hx hb dX8_tell_83 (by decide) (fun c83 => ?_) (fun c83 => ?_)
      · refine lv_iconst (v := 1) hx hb dX8_tell_123 (by decide) ?_
        refine hs_put hC hW hL hi_X8 tyX8 tyX8_ok nmX8 rfl 0 (by decide) lk_X8_93 rfl rfl mo_obj ha.2.1 rfl rfl (Nat.le_of_ble_eq_true rfl) dX8_tell_124 (fun H locs hW hL => ?_)
        rw [mo_putS (mo_fs0 _)] at hW
        refine lv_aload_n hx hb dX8_tell_127 rfl (lv_at hl 2 rfl) ?_
        refine hs_get hC hW hi_X8 rfl 0 (by decide) lk_X8_93 rfl mo_obj rfl dX8_tell_128 ?_
        refine lv_if_le (tgt := 136) hx hb dX8_tell_131 (by decide) (fun c131 => ?_) (fun c131 => ?_)
        · exact absurd c131 (by first | decide | simp [mo_up])
        refine lv_iconst (v := 0) hx hb dX8_tell_134 (by decide) ?_
        exact hs_iret hC hW hL hr hlocks (by decide) (by decide) dX8_tell_135 ⟨rfl, rfl, _, _, _, _, rfl, rfl, ⟨_, rfl⟩, by (first | exact rfl | exact hm3), ⟨N, S, mo_J_fr hI ⟨rfl, rfl, rfl⟩ ⟨rfl, rfl, rfl, rfl, rfl, rfl⟩⟩⟩
      exact absurd c83 (by first | decide | simp [mo_up])
    refine lv_iload hx hb dX8_tell_65 (lv_at hl 6 rfl) ?_
    refine lv_iload hx hb dX8_tell_67 (lv_at hl 7 rfl) ?_
    refine lv_iadd hx hb dX8_tell_69 ?_
    refine lv_if_le (tgt := 77) hx hb dX8_tell_70 (by decide) (fun c70 => ?_) (fun c70 => ?_)
    · refine lv_iconst (v := 0) hx hb dX8_tell_77 (by decide) ?_
      refine lv_istore (lv' := [(10, .int _), (9, .int _), (0, .ref _), (1, .int _), (2, .int _), (3, .int _), (4, .int _), (5, .int _), (6, .int _), (7, .int _), (8, .int _)]) hx hb dX8_tell_78 hl (by decide) rfl (fun ls hl => ?_)
      refine lv_aload_n hx hb dX8_tell_80 rfl (lv_at hl 2 rfl) ?_
      refine lv_iload hx hb dX8_tell_81 (lv_at hl 1 rfl) ?_
      refine lv_if_eq (tgt := 123) hx hb dX8_tell_83 (by decide) (fun c83 => ?_) (fun c83 => ?_)
      · refine lv_iconst (v := 1) hx hb dX8_tell_123 (by decide) ?_
        refine hs_put hC hW hL hi_X8 tyX8 tyX8_ok nmX8 rfl 0 (by decide) lk_X8_93 rfl rfl mo_obj ha.2.1 rfl rfl (Nat.le_of_ble_eq_true rfl) dX8_tell_124 (fun H locs hW hL => ?_)
        rw [mo_putS (mo_fs0 _)] at hW
        refine lv_aload_n hx hb dX8_tell_127 rfl (lv_at hl 2 rfl) ?_
        refine hs_get hC hW hi_X8 rfl 0 (by decide) lk_X8_93 rfl mo_obj rfl dX8_tell_128 ?_
        refine lv_if_le (tgt := 136) hx hb dX8_tell_131 (by decide) (fun c131 => ?_) (fun c131 => ?_)
        · exact absurd c131 (by first | decide | simp [mo_up])
        refine lv_iconst (v := 0) hx hb dX8_tell_134 (by decide) ?_
        exact hs_iret hC hW hL hr hlocks (by decide) (by decide) dX8_tell_135 ⟨rfl, rfl, _, _, _, _, rfl, rfl, ⟨_, rfl⟩, by (first | exact rfl | exact hm3), ⟨N, S, mo_J_fr hI ⟨rfl, rfl, rfl⟩ ⟨rfl, rfl, rfl, rfl, rfl, rfl⟩⟩⟩
      exact absurd c83 (by first | decide | simp [mo_up])
    refine lv_iconst (v := 1) hx hb dX8_tell_73 (by decide) ?_
    refine lv_goto (tgt := 78) hx hb dX8_tell_74 (by decide) ?_
    refine lv_istore (lv' := [(10, .int _), (9, .int _), (0, .ref _), (1, .int _), (2, .int _), (3, .int _), (4, .int _), (5, .int _), (6, .int _), (7, .int _), (8, .int _)]) hx hb dX8_tell_78 hl (by decide) rfl (fun ls hl => ?_)
    refine lv_aload_n hx hb dX8_tell_80 rfl (lv_at hl 2 rfl) ?_
    refine lv_iload hx hb dX8_tell_81 (lv_at hl 1 rfl) ?_
    refine lv_if_eq (tgt := 123) hx hb dX8_tell_83 (by decide) (fun c83 => ?_) (fun c83 => ?_)
    · refine lv_iconst (v := 1) hx hb dX8_tell_123 (by decide) ?_
      refine hs_put hC hW hL hi_X8 tyX8 tyX8_ok nmX8 rfl 0 (by decide) lk_X8_93 rfl rfl mo_obj ha.2.1 rfl rfl (Nat.le_of_ble_eq_true rfl) dX8_tell_124 (fun H locs hW hL => ?_)
      rw [mo_putS (mo_fs0 _)] at hW
      refine lv_aload_n hx hb dX8_tell_127 rfl (lv_at hl 2 rfl) ?_
      refine hs_get hC hW hi_X8 rfl 0 (by decide) lk_X8_93 rfl mo_obj rfl dX8_tell_128 ?_
      refine lv_if_le (tgt := 136) hx hb dX8_tell_131 (by decide) (fun c131 => ?_) (fun c131 => ?_)
      · exact absurd c131 (by first | decide | simp [mo_up])
      refine lv_iconst (v := 0) hx hb dX8_tell_134 (by decide) ?_
      exact hs_iret hC hW hL hr hlocks (by decide) (by decide) dX8_tell_135 ⟨rfl, rfl, _, _, _, _, rfl, rfl, ⟨_, rfl⟩, by (first | exact rfl | exact hm3), ⟨N, S, mo_J_fr hI ⟨rfl, rfl, rfl⟩ ⟨rfl, rfl, rfl, rfl, rfl, rfl⟩⟩⟩
    exact absurd c83 (by first | decide | simp [mo_up])
  refine lv_iload_n hx hb dX8_tell_14 rfl (lv_at hl 1 rfl) ?_
  refine lv_iload_n hx hb dX8_tell_15 rfl (lv_at hl 2 rfl) ?_
  refine lv_icmp_eq (tgt := 36) hx hb dX8_tell_16 (by decide) (fun c16 => ?_) (fun c16 => ?_)
  · refine lv_iconst (v := 0) hx hb dX8_tell_36 (by decide) ?_
    refine lv_istore (lv' := [(9, .int _), (0, .ref _), (1, .int _), (2, .int _), (3, .int _), (4, .int _), (5, .int _), (6, .int _), (7, .int _), (8, .int _)]) hx hb dX8_tell_37 hl (by decide) rfl (fun ls hl => ?_)
    refine lv_iload hx hb dX8_tell_39 (lv_at hl 6 rfl) ?_
    refine lv_i2l hx hb dX8_tell_41 rfl ?_
    refine lv_lconst (v := 0) hx hb dX8_tell_42 (by decide) ?_
    refine lv_ldc2 hx hb hown (hts _ lk_X8_176) dX8_tell_43 ?_
    refine hs_callS hC hs_Tok hW hL (ct_X8_in E _ _ _ _) cw_X8_in lk_X8_99 st_X8_in hl.1 (by decide) (Nat.le_of_ble_eq_true rfl) dX8_tell_46 (hs_kp1 (fun H locs hW hL => ?_))
    refine lv_if_eq (tgt := 77) hx hb dX8_tell_49 (by decide) (fun c49 => ?_) (fun c49 => ?_)
    · refine lv_iconst (v := 0) hx hb dX8_tell_77 (by decide) ?_
      refine lv_istore (lv' := [(10, .int _), (9, .int _), (0, .ref _), (1, .int _), (2, .int _), (3, .int _), (4, .int _), (5, .int _), (6, .int _), (7, .int _), (8, .int _)]) hx hb dX8_tell_78 hl (by decide) rfl (fun ls hl => ?_)
      refine lv_aload_n hx hb dX8_tell_80 rfl (lv_at hl 2 rfl) ?_
      refine lv_iload hx hb dX8_tell_81 (lv_at hl 1 rfl) ?_
      refine lv_if_eq (tgt := 123) hx hb dX8_tell_83 (by decide) (fun c83 => ?_) (fun c83 => ?_)
      · refine lv_iconst (v := 1) hx hb dX8_tell_123 (by decide) ?_
        refine hs_put hC hW hL hi_X8 tyX8 tyX8_ok nmX8 rfl 0 (by decide) lk_X8_93 rfl rfl mo_obj ha.2.1 rfl rfl (Nat.le_of_ble_eq_true rfl) dX8_tell_124 (fun H locs hW hL => ?_)
        rw [mo_putS (mo_fs0 _)] at hW
        refine lv_aload_n hx hb dX8_tell_127 rfl (lv_at hl 2 rfl) ?_
        refine hs_get hC hW hi_X8 rfl 0 (by decide) lk_X8_93 rfl mo_obj rfl dX8_tell_128 ?_
        refine lv_if_le (tgt := 136) hx hb dX8_tell_131 (by decide) (fun c131 => ?_) (fun c131 => ?_)
        · exact absurd c131 (by first | decide | simp [mo_up])
        refine lv_iconst (v := 0) hx hb dX8_tell_134 (by decide) ?_
        exact hs_iret hC hW hL hr hlocks (by decide) (by decide) dX8_tell_135 ⟨rfl, rfl, _, _, _, _, rfl, rfl, ⟨_, rfl⟩, by (first | exact rfl | exact hm3), ⟨N, S, mo_J_fr hI ⟨rfl, rfl, rfl⟩ ⟨rfl, rfl, rfl, rfl, rfl, rfl⟩⟩⟩
      exact absurd c83 (by first | decide | simp [mo_up])
    refine lv_iload hx hb dX8_tell_52 (lv_at hl 7 rfl) ?_
    refine lv_i2l hx hb dX8_tell_54 rfl ?_
    refine lv_lconst (v := 0) hx hb dX8_tell_55 (by decide) ?_
    refine lv_ldc2 hx hb hown (hts _ lk_X8_170) dX8_tell_56 ?_
    refine hs_callS hC hs_Tok hW hL (ct_X8_in E _ _ _ _) cw_X8_in lk_X8_99 st_X8_in hl.1 (by decide) (Nat.le_of_ble_eq_true rfl) dX8_tell_59 (hs_kp1 (fun H locs hW hL => ?_))
    refine lv_if_eq (tgt := 77) hx hb dX8_tell_62 (by decide) (fun c62 => ?_) (fun c62 => ?_)
    · refine lv_iconst (v := 0) hx hb dX8_tell_77 (by decide) ?_
      refine lv_istore (lv' := [(10, .int _), (9, .int _), (0, .ref _), (1, .int _), (2, .int _), (3, .int _), (4, .int _), (5, .int _), (6, .int _), (7, .int _), (8, .int _)]) hx hb dX8_tell_78 hl (by decide) rfl (fun ls hl => ?_)
      refine lv_aload_n hx hb dX8_tell_80 rfl (lv_at hl 2 rfl) ?_
      refine lv_iload hx hb dX8_tell_81 (lv_at hl 1 rfl) ?_
      refine lv_if_eq (tgt := 123) hx hb dX8_tell_83 (by decide) (fun c83 => ?_) (fun c83 => ?_)
      · refine lv_iconst (v := 1) hx hb dX8_tell_123 (by decide) ?_
        refine hs_put hC hW hL hi_X8 tyX8 tyX8_ok nmX8 rfl 0 (by decide) lk_X8_93 rfl rfl mo_obj ha.2.1 rfl rfl (Nat.le_of_ble_eq_true rfl) dX8_tell_124 (fun H locs hW hL => ?_)
        rw [mo_putS (mo_fs0 _)] at hW
        refine lv_aload_n hx hb dX8_tell_127 rfl (lv_at hl 2 rfl) ?_
        refine hs_get hC hW hi_X8 rfl 0 (by decide) lk_X8_93 rfl mo_obj rfl dX8_tell_128 ?_
        refine lv_if_le (tgt := 136) hx hb dX8_tell_131 (by decide) (fun c131 => ?_) (fun c131 => ?_)
        · exact absurd c131 (by first | decide | simp [mo_up])
        refine lv_iconst (v := 0) hx hb dX8_tell_134 (by decide) ?_
        exact hs_iret hC hW hL hr hlocks (by decide) (by decide) dX8_tell_135 ⟨rfl, rfl, _, _, _, _, rfl, rfl, ⟨_, rfl⟩, by (first | exact rfl | exact hm3), ⟨N, S, mo_J_fr hI ⟨rfl, rfl, rfl⟩ ⟨rfl, rfl, rfl, rfl, rfl, rfl⟩⟩⟩
      exact absurd c83 (by first | decide | simp [mo_up])
    refine lv_iload hx hb dX8_tell_65 (lv_at hl 6 rfl) ?_
    refine lv_iload hx hb dX8_tell_67 (lv_at hl 7 rfl) ?_
    refine lv_iadd hx hb dX8_tell_69 ?_
    refine lv_if_le (tgt := 77) hx hb dX8_tell_70 (by decide) (fun c70 => ?_) (fun c70 => ?_)
    · refine lv_iconst (v := 0) hx hb dX8_tell_77 (by decide) ?_
      refine lv_istore (lv' := [(10, .int _), (9, .int _), (0, .ref _), (1, .int _), (2, .int _), (3, .int _), (4, .int _), (5, .int _), (6, .int _), (7, .int _), (8, .int _)]) hx hb dX8_tell_78 hl (by decide) rfl (fun ls hl => ?_)
      refine lv_aload_n hx hb dX8_tell_80 rfl (lv_at hl 2 rfl) ?_
      refine lv_iload hx hb dX8_tell_81 (lv_at hl 1 rfl) ?_
      refine lv_if_eq (tgt := 123) hx hb dX8_tell_83 (by decide) (fun c83 => ?_) (fun c83 => ?_)
      · refine lv_iconst (v := 1) hx hb dX8_tell_123 (by decide) ?_
        refine hs_put hC hW hL hi_X8 tyX8 tyX8_ok nmX8 rfl 0 (by decide) lk_X8_93 rfl rfl mo_obj ha.2.1 rfl rfl (Nat.le_of_ble_eq_true rfl) dX8_tell_124 (fun H locs hW hL => ?_)
        rw [mo_putS (mo_fs0 _)] at hW
        refine lv_aload_n hx hb dX8_tell_127 rfl (lv_at hl 2 rfl) ?_
        refine hs_get hC hW hi_X8 rfl 0 (by decide) lk_X8_93 rfl mo_obj rfl dX8_tell_128 ?_
        refine lv_if_le (tgt := 136) hx hb dX8_tell_131 (by decide) (fun c131 => ?_) (fun c131 => ?_)
        · exact absurd c131 (by first | decide | simp [mo_up])
        refine lv_iconst (v := 0) hx hb dX8_tell_134 (by decide) ?_
        exact hs_iret hC hW hL hr hlocks (by decide) (by decide) dX8_tell_135 ⟨rfl, rfl, _, _, _, _, rfl, rfl, ⟨_, rfl⟩, by (first | exact rfl | exact hm3), ⟨N, S, mo_J_fr hI ⟨rfl, rfl, rfl⟩ ⟨rfl, rfl, rfl, rfl, rfl, rfl⟩⟩⟩
      exact absurd c83 (by first | decide | simp [mo_up])
    refine lv_iconst (v := 1) hx hb dX8_tell_73 (by decide) ?_
    refine lv_goto (tgt := 78) hx hb dX8_tell_74 (by decide) ?_
    refine lv_istore (lv' := [(10, .int _), (9, .int _), (0, .ref _), (1, .int _), (2, .int _), (3, .int _), (4, .int _), (5, .int _), (6, .int _), (7, .int _), (8, .int _)]) hx hb dX8_tell_78 hl (by decide) rfl (fun ls hl => ?_)
    refine lv_aload_n hx hb dX8_tell_80 rfl (lv_at hl 2 rfl) ?_
    refine lv_iload hx hb dX8_tell_81 (lv_at hl 1 rfl) ?_
    refine lv_if_eq (tgt := 123) hx hb dX8_tell_83 (by decide) (fun c83 => ?_) (fun c83 => ?_)
    · refine lv_iconst (v := 1) hx hb dX8_tell_123 (by decide) ?_
      refine hs_put hC hW hL hi_X8 tyX8 tyX8_ok nmX8 rfl 0 (by decide) lk_X8_93 rfl rfl mo_obj ha.2.1 rfl rfl (Nat.le_of_ble_eq_true rfl) dX8_tell_124 (fun H locs hW hL => ?_)
      rw [mo_putS (mo_fs0 _)] at hW
      refine lv_aload_n hx hb dX8_tell_127 rfl (lv_at hl 2 rfl) ?_
      refine hs_get hC hW hi_X8 rfl 0 (by decide) lk_X8_93 rfl mo_obj rfl dX8_tell_128 ?_
      refine lv_if_le (tgt := 136) hx hb dX8_tell_131 (by decide) (fun c131 => ?_) (fun c131 => ?_)
      · exact absurd c131 (by first | decide | simp [mo_up])
      refine lv_iconst (v := 0) hx hb dX8_tell_134 (by decide) ?_
      exact hs_iret hC hW hL hr hlocks (by decide) (by decide) dX8_tell_135 ⟨rfl, rfl, _, _, _, _, rfl, rfl, ⟨_, rfl⟩, by (first | exact rfl | exact hm3), ⟨N, S, mo_J_fr hI ⟨rfl, rfl, rfl⟩ ⟨rfl, rfl, rfl, rfl, rfl, rfl⟩⟩⟩
    exact absurd c83 (by first | decide | simp [mo_up])
  refine lv_iload hx hb dX8_tell_19 (lv_at hl 4 rfl) ?_
  refine lv_i2l hx hb dX8_tell_21 rfl ?_
  refine lv_lconst (v := 0) hx hb dX8_tell_22 (by decide) ?_
  refine lv_ldc2 hx hb hown (hts _ lk_X8_105) dX8_tell_23 ?_
  refine hs_callS hC hs_Tok hW hL (ct_X8_in E _ _ _ _) cw_X8_in lk_X8_99 st_X8_in hl.1 (by decide) (Nat.le_of_ble_eq_true rfl) dX8_tell_26 (hs_kp1 (fun H locs hW hL => ?_))
  refine lv_if_eq (tgt := 36) hx hb dX8_tell_29 (by decide) (fun c29 => ?_) (fun c29 => ?_)
  · refine lv_iconst (v := 0) hx hb dX8_tell_36 (by decide) ?_
    refine lv_istore (lv' := [(9, .int _), (0, .ref _), (1, .int _), (2, .int _), (3, .int _), (4, .int _), (5, .int _), (6, .int _), (7, .int _), (8, .int _)]) hx hb dX8_tell_37 hl (by decide) rfl (fun ls hl => ?_)
    refine lv_iload hx hb dX8_tell_39 (lv_at hl 6 rfl) ?_
    refine lv_i2l hx hb dX8_tell_41 rfl ?_
    refine lv_lconst (v := 0) hx hb dX8_tell_42 (by decide) ?_
    refine lv_ldc2 hx hb hown (hts _ lk_X8_176) dX8_tell_43 ?_
    refine hs_callS hC hs_Tok hW hL (ct_X8_in E _ _ _ _) cw_X8_in lk_X8_99 st_X8_in hl.1 (by decide) (Nat.le_of_ble_eq_true rfl) dX8_tell_46 (hs_kp1 (fun H locs hW hL => ?_))
    refine lv_if_eq (tgt := 77) hx hb dX8_tell_49 (by decide) (fun c49 => ?_) (fun c49 => ?_)
    · refine lv_iconst (v := 0) hx hb dX8_tell_77 (by decide) ?_
      refine lv_istore (lv' := [(10, .int _), (9, .int _), (0, .ref _), (1, .int _), (2, .int _), (3, .int _), (4, .int _), (5, .int _), (6, .int _), (7, .int _), (8, .int _)]) hx hb dX8_tell_78 hl (by decide) rfl (fun ls hl => ?_)
      refine lv_aload_n hx hb dX8_tell_80 rfl (lv_at hl 2 rfl) ?_
      refine lv_iload hx hb dX8_tell_81 (lv_at hl 1 rfl) ?_
      refine lv_if_eq (tgt := 123) hx hb dX8_tell_83 (by decide) (fun c83 => ?_) (fun c83 => ?_)
      · refine lv_iconst (v := 1) hx hb dX8_tell_123 (by decide) ?_
        refine hs_put hC hW hL hi_X8 tyX8 tyX8_ok nmX8 rfl 0 (by decide) lk_X8_93 rfl rfl mo_obj ha.2.1 rfl rfl (Nat.le_of_ble_eq_true rfl) dX8_tell_124 (fun H locs hW hL => ?_)
        rw [mo_putS (mo_fs0 _)] at hW
        refine lv_aload_n hx hb dX8_tell_127 rfl (lv_at hl 2 rfl) ?_
        refine hs_get hC hW hi_X8 rfl 0 (by decide) lk_X8_93 rfl mo_obj rfl dX8_tell_128 ?_
        refine lv_if_le (tgt := 136) hx hb dX8_tell_131 (by decide) (fun c131 => ?_) (fun c131 => ?_)
        · exact absurd c131 (by first | decide | simp [mo_up])
        refine lv_iconst (v := 0) hx hb dX8_tell_134 (by decide) ?_
        exact hs_iret hC hW hL hr hlocks (by decide) (by decide) dX8_tell_135 ⟨rfl, rfl, _, _, _, _, rfl, rfl, ⟨_, rfl⟩, by (first | exact rfl | exact hm3), ⟨N, S, mo_J_fr hI ⟨rfl, rfl, rfl⟩ ⟨rfl, rfl, rfl, rfl, rfl, rfl⟩⟩⟩
      exact absurd c83 (by first | decide | simp [mo_up])
    refine lv_iload hx hb dX8_tell_52 (lv_at hl 7 rfl) ?_
    refine lv_i2l hx hb dX8_tell_54 rfl ?_
    refine lv_lconst (v := 0) hx hb dX8_tell_55 (by decide) ?_
    refine lv_ldc2 hx hb hown (hts _ lk_X8_170) dX8_tell_56 ?_
    refine hs_callS hC hs_Tok hW hL (ct_X8_in E _ _ _ _) cw_X8_in lk_X8_99 st_X8_in hl.1 (by decide) (Nat.le_of_ble_eq_true rfl) dX8_tell_59 (hs_kp1 (fun H locs hW hL => ?_))
    refine lv_if_eq (tgt := 77) hx hb dX8_tell_62 (by decide) (fun c62 => ?_) (fun c62 => ?_)
    · refine lv_iconst (v := 0) hx hb dX8_tell_77 (by decide) ?_
      refine lv_istore (lv' := [(10, .int _), (9, .int _), (0, .ref _), (1, .int _), (2, .int _), (3, .int _), (4, .int _), (5, .int _), (6, .int _), (7, .int _), (8, .int _)]) hx hb dX8_tell_78 hl (by decide) rfl (fun ls hl => ?_)
      refine lv_aload_n hx hb dX8_tell_80 rfl (lv_at hl 2 rfl) ?_
      refine lv_iload hx hb dX8_tell_81 (lv_at hl 1 rfl) ?_
      refine lv_if_eq (tgt := 123) hx hb dX8_tell_83 (by decide) (fun c83 => ?_) (fun c83 => ?_)
      · refine lv_iconst (v := 1) hx hb dX8_tell_123 (by decide) ?_
        refine hs_put hC hW hL hi_X8 tyX8 tyX8_ok nmX8 rfl 0 (by decide) lk_X8_93 rfl rfl mo_obj ha.2.1 rfl rfl (Nat.le_of_ble_eq_true rfl) dX8_tell_124 (fun H locs hW hL => ?_)
        rw [mo_putS (mo_fs0 _)] at hW
        refine lv_aload_n hx hb dX8_tell_127 rfl (lv_at hl 2 rfl) ?_
        refine hs_get hC hW hi_X8 rfl 0 (by decide) lk_X8_93 rfl mo_obj rfl dX8_tell_128 ?_
        refine lv_if_le (tgt := 136) hx hb dX8_tell_131 (by decide) (fun c131 => ?_) (fun c131 => ?_)
        · exact absurd c131 (by first | decide | simp [mo_up])
        refine lv_iconst (v := 0) hx hb dX8_tell_134 (by decide) ?_
        exact hs_iret hC hW hL hr hlocks (by decide) (by decide) dX8_tell_135 ⟨rfl, rfl, _, _, _, _, rfl, rfl, ⟨_, rfl⟩, by (first | exact rfl | exact hm3), ⟨N, S, mo_J_fr hI ⟨rfl, rfl, rfl⟩ ⟨rfl, rfl, rfl, rfl, rfl, rfl⟩⟩⟩
      exact absurd c83 (by first | decide | simp [mo_up])
    refine lv_iload hx hb dX8_tell_65 (lv_at hl 6 rfl) ?_
    refine lv_iload hx hb dX8_tell_67 (lv_at hl 7 rfl) ?_
    refine lv_iadd hx hb dX8_tell_69 ?_
    refine lv_if_le (tgt := 77) hx hb dX8_tell_70 (by decide) (fun c70 => ?_) (fun c70 => ?_)
    · refine lv_iconst (v := 0) hx hb dX8_tell_77 (by decide) ?_
      refine lv_istore (lv' := [(10, .int _), (9, .int _), (0, .ref _), (1, .int _), (2, .int _), (3, .int _), (4, .int _), (5, .int _), (6, .int _), (7, .int _), (8, .int _)]) hx hb dX8_tell_78 hl (by decide) rfl (fun ls hl => ?_)
      refine lv_aload_n hx hb dX8_tell_80 rfl (lv_at hl 2 rfl) ?_
      refine lv_iload hx hb dX8_tell_81 (lv_at hl 1 rfl) ?_
      refine lv_if_eq (tgt := 123) hx hb dX8_tell_83 (by decide) (fun c83 => ?_) (fun c83 => ?_)
      · refine lv_iconst (v := 1) hx hb dX8_tell_123 (by decide) ?_
        refine hs_put hC hW hL hi_X8 tyX8 tyX8_ok nmX8 rfl 0 (by decide) lk_X8_93 rfl rfl mo_obj ha.2.1 rfl rfl (Nat.le_of_ble_eq_true rfl) dX8_tell_124 (fun H locs hW hL => ?_)
        rw [mo_putS (mo_fs0 _)] at hW
        refine lv_aload_n hx hb dX8_tell_127 rfl (lv_at hl 2 rfl) ?_
        refine hs_get hC hW hi_X8 rfl 0 (by decide) lk_X8_93 rfl mo_obj rfl dX8_tell_128 ?_
        refine lv_if_le (tgt := 136) hx hb dX8_tell_131 (by decide) (fun c131 => ?_) (fun c131 => ?_)
        · exact absurd c131 (by first | decide | simp [mo_up])
        refine lv_iconst (v := 0) hx hb dX8_tell_134 (by decide) ?_
        exact hs_iret hC hW hL hr hlocks (by decide) (by decide) dX8_tell_135 ⟨rfl, rfl, _, _, _, _, rfl, rfl, ⟨_, rfl⟩, by (first | exact rfl | exact hm3), ⟨N, S, mo_J_fr hI ⟨rfl, rfl, rfl⟩ ⟨rfl, rfl, rfl, rfl, rfl, rfl⟩⟩⟩
      exact absurd c83 (by first | decide | simp [mo_up])
    refine lv_iconst (v := 1) hx hb dX8_tell_73 (by decide) ?_
    refine lv_goto (tgt := 78) hx hb dX8_tell_74 (by decide) ?_
    refine lv_istore (lv' := [(10, .int _), (9, .int _), (0, .ref _), (1, .int _), (2, .int _), (3, .int _), (4, .int _), (5, .int _), (6, .int _), (7, .int _), (8, .int _)]) hx hb dX8_tell_78 hl (by decide) rfl (fun ls hl => ?_)
    refine lv_aload_n hx hb dX8_tell_80 rfl (lv_at hl 2 rfl) ?_
    refine lv_iload hx hb dX8_tell_81 (lv_at hl 1 rfl) ?_
    refine lv_if_eq (tgt := 123) hx hb dX8_tell_83 (by decide) (fun c83 => ?_) (fun c83 => ?_)
    · refine lv_iconst (v := 1) hx hb dX8_tell_123 (by decide) ?_
      refine hs_put hC hW hL hi_X8 tyX8 tyX8_ok nmX8 rfl 0 (by decide) lk_X8_93 rfl rfl mo_obj ha.2.1 rfl rfl (Nat.le_of_ble_eq_true rfl) dX8_tell_124 (fun H locs hW hL => ?_)
      rw [mo_putS (mo_fs0 _)] at hW
      refine lv_aload_n hx hb dX8_tell_127 rfl (lv_at hl 2 rfl) ?_
      refine hs_get hC hW hi_X8 rfl 0 (by decide) lk_X8_93 rfl mo_obj rfl dX8_tell_128 ?_
      refine lv_if_le (tgt := 136) hx hb dX8_tell_131 (by decide) (fun c131 => ?_) (fun c131 => ?_)
      · exact absurd c131 (by first | decide | simp [mo_up])
      refine lv_iconst (v := 0) hx hb dX8_tell_134 (by decide) ?_
      exact hs_iret hC hW hL hr hlocks (by decide) (by decide) dX8_tell_135 ⟨rfl, rfl, _, _, _, _, rfl, rfl, ⟨_, rfl⟩, by (first | exact rfl | exact hm3), ⟨N, S, mo_J_fr hI ⟨rfl, rfl, rfl⟩ ⟨rfl, rfl, rfl, rfl, rfl, rfl⟩⟩⟩
    exact absurd c83 (by first | decide | simp [mo_up])
  refine lv_iconst (v := 1) hx hb dX8_tell_32 (by decide) ?_
  refine lv_goto (tgt := 37) hx hb dX8_tell_33 (by decide) ?_
  refine lv_istore (lv' := [(9, .int _), (0, .ref _), (1, .int _), (2, .int _), (3, .int _), (4, .int _), (5, .int _), (6, .int _), (7, .int _), (8, .int _)]) hx hb dX8_tell_37 hl (by decide) rfl (fun ls hl => ?_)
  refine lv_iload hx hb dX8_tell_39 (lv_at hl 6 rfl) ?_
  refine lv_i2l hx hb dX8_tell_41 rfl ?_
  refine lv_lconst (v := 0) hx hb dX8_tell_42 (by decide) ?_
  refine lv_ldc2 hx hb hown (hts _ lk_X8_176) dX8_tell_43 ?_
  refine hs_callS hC hs_Tok hW hL (ct_X8_in E _ _ _ _) cw_X8_in lk_X8_99 st_X8_in hl.1 (by decide) (Nat.le_of_ble_eq_true rfl) dX8_tell_46 (hs_kp1 (fun H locs hW hL => ?_))
  refine lv_if_eq (tgt := 77) hx hb dX8_tell_49 (by decide) (fun c49 => ?_) (fun c49 => ?_)
  · refine lv_iconst (v := 0) hx hb dX8_tell_77 (by decide) ?_
    refine lv_istore (lv' := [(10, .int _), (9, .int _), (0, .ref _), (1, .int _), (2, .int _), (3, .int _), (4, .int _), (5, .int _), (6, .int _), (7, .int _), (8, .int _)]) hx hb dX8_tell_78 hl (by decide) rfl (fun ls hl => ?_)
    refine lv_aload_n hx hb dX8_tell_80 rfl (lv_at hl 2 rfl) ?_
    refine lv_iload hx hb dX8_tell_81 (lv_at hl 1 rfl) ?_
    refine lv_if_eq (tgt := 123) hx hb dX8_tell_83 (by decide) (fun c83 => ?_) (fun c83 => ?_)
    · exact absurd c83 (by first | decide | simp [mo_up])
    refine lv_iload hx hb dX8_tell_86 (lv_at hl 0 rfl) ?_
    refine lv_if_eq (tgt := 123) hx hb dX8_tell_88 (by decide) (fun c88 => ?_) (fun c88 => ?_)
    · refine lv_iconst (v := 1) hx hb dX8_tell_123 (by decide) ?_
      refine hs_put hC hW hL hi_X8 tyX8 tyX8_ok nmX8 rfl 0 (by decide) lk_X8_93 rfl rfl mo_obj ha.2.1 rfl rfl (Nat.le_of_ble_eq_true rfl) dX8_tell_124 (fun H locs hW hL => ?_)
      rw [mo_putS (mo_fs0 _)] at hW
      refine lv_aload_n hx hb dX8_tell_127 rfl (lv_at hl 2 rfl) ?_
      refine hs_get hC hW hi_X8 rfl 0 (by decide) lk_X8_93 rfl mo_obj rfl dX8_tell_128 ?_
      refine lv_if_le (tgt := 136) hx hb dX8_tell_131 (by decide) (fun c131 => ?_) (fun c131 => ?_)
      · exact absurd c131 (by first | decide | simp [mo_up])
      refine lv_iconst (v := 0) hx hb dX8_tell_134 (by decide) ?_
      exact hs_iret hC hW hL hr hlocks (by decide) (by decide) dX8_tell_135 ⟨rfl, rfl, _, _, _, _, rfl, rfl, ⟨_, rfl⟩, by (first | exact rfl | exact hm3), ⟨N, S, mo_J_fr hI ⟨rfl, rfl, rfl⟩ ⟨rfl, rfl, rfl, rfl, rfl, rfl⟩⟩⟩
    exact absurd c88 (by first | decide | simp [mo_up])
  refine lv_iload hx hb dX8_tell_52 (lv_at hl 7 rfl) ?_
  refine lv_i2l hx hb dX8_tell_54 rfl ?_
  refine lv_lconst (v := 0) hx hb dX8_tell_55 (by decide) ?_
  refine lv_ldc2 hx hb hown (hts _ lk_X8_170) dX8_tell_56 ?_
  refine hs_callS hC hs_Tok hW hL (ct_X8_in E _ _ _ _) cw_X8_in lk_X8_99 st_X8_in hl.1 (by decide) (Nat.le_of_ble_eq_true rfl) dX8_tell_59 (hs_kp1 (fun H locs hW hL => ?_))
  refine lv_if_eq (tgt := 77) hx hb dX8_tell_62 (by decide) (fun c62 => ?_) (fun c62 => ?_)
  · refine lv_iconst (v := 0) hx hb dX8_tell_77 (by decide) ?_
    refine lv_istore (lv' := [(10, .int _), (9, .int _), (0, .ref _), (1, .int _), (2, .int _), (3, .int _), (4, .int _), (5, .int _), (6, .int _), (7, .int _), (8, .int _)]) hx hb dX8_tell_78 hl (by decide) rfl (fun ls hl => ?_)
    refine lv_aload_n hx hb dX8_tell_80 rfl (lv_at hl 2 rfl) ?_
    refine lv_iload hx hb dX8_tell_81 (lv_at hl 1 rfl) ?_
    refine lv_if_eq (tgt := 123) hx hb dX8_tell_83 (by decide) (fun c83 => ?_) (fun c83 => ?_)
    · exact absurd c83 (by first | decide | simp [mo_up])
    refine lv_iload hx hb dX8_tell_86 (lv_at hl 0 rfl) ?_
    refine lv_if_eq (tgt := 123) hx hb dX8_tell_88 (by decide) (fun c88 => ?_) (fun c88 => ?_)
    · refine lv_iconst (v := 1) hx hb dX8_tell_123 (by decide) ?_
      refine hs_put hC hW hL hi_X8 tyX8 tyX8_ok nmX8 rfl 0 (by decide) lk_X8_93 rfl rfl mo_obj ha.2.1 rfl rfl (Nat.le_of_ble_eq_true rfl) dX8_tell_124 (fun H locs hW hL => ?_)
      rw [mo_putS (mo_fs0 _)] at hW
      refine lv_aload_n hx hb dX8_tell_127 rfl (lv_at hl 2 rfl) ?_
      refine hs_get hC hW hi_X8 rfl 0 (by decide) lk_X8_93 rfl mo_obj rfl dX8_tell_128 ?_
      refine lv_if_le (tgt := 136) hx hb dX8_tell_131 (by decide) (fun c131 => ?_) (fun c131 => ?_)
      · exact absurd c131 (by first | decide | simp [mo_up])
      refine lv_iconst (v := 0) hx hb dX8_tell_134 (by decide) ?_
      exact hs_iret hC hW hL hr hlocks (by decide) (by decide) dX8_tell_135 ⟨rfl, rfl, _, _, _, _, rfl, rfl, ⟨_, rfl⟩, by (first | exact rfl | exact hm3), ⟨N, S, mo_J_fr hI ⟨rfl, rfl, rfl⟩ ⟨rfl, rfl, rfl, rfl, rfl, rfl⟩⟩⟩
    exact absurd c88 (by first | decide | simp [mo_up])
  refine lv_iload hx hb dX8_tell_65 (lv_at hl 6 rfl) ?_
  refine lv_iload hx hb dX8_tell_67 (lv_at hl 7 rfl) ?_
  refine lv_iadd hx hb dX8_tell_69 ?_
  refine lv_if_le (tgt := 77) hx hb dX8_tell_70 (by decide) (fun c70 => ?_) (fun c70 => ?_)
  · refine lv_iconst (v := 0) hx hb dX8_tell_77 (by decide) ?_
    refine lv_istore (lv' := [(10, .int _), (9, .int _), (0, .ref _), (1, .int _), (2, .int _), (3, .int _), (4, .int _), (5, .int _), (6, .int _), (7, .int _), (8, .int _)]) hx hb dX8_tell_78 hl (by decide) rfl (fun ls hl => ?_)
    refine lv_aload_n hx hb dX8_tell_80 rfl (lv_at hl 2 rfl) ?_
    refine lv_iload hx hb dX8_tell_81 (lv_at hl 1 rfl) ?_
    refine lv_if_eq (tgt := 123) hx hb dX8_tell_83 (by decide) (fun c83 => ?_) (fun c83 => ?_)
    · exact absurd c83 (by first | decide | simp [mo_up])
    refine lv_iload hx hb dX8_tell_86 (lv_at hl 0 rfl) ?_
    refine lv_if_eq (tgt := 123) hx hb dX8_tell_88 (by decide) (fun c88 => ?_) (fun c88 => ?_)
    · refine lv_iconst (v := 1) hx hb dX8_tell_123 (by decide) ?_
      refine hs_put hC hW hL hi_X8 tyX8 tyX8_ok nmX8 rfl 0 (by decide) lk_X8_93 rfl rfl mo_obj ha.2.1 rfl rfl (Nat.le_of_ble_eq_true rfl) dX8_tell_124 (fun H locs hW hL => ?_)
      rw [mo_putS (mo_fs0 _)] at hW
      refine lv_aload_n hx hb dX8_tell_127 rfl (lv_at hl 2 rfl) ?_
      refine hs_get hC hW hi_X8 rfl 0 (by decide) lk_X8_93 rfl mo_obj rfl dX8_tell_128 ?_
      refine lv_if_le (tgt := 136) hx hb dX8_tell_131 (by decide) (fun c131 => ?_) (fun c131 => ?_)
      · exact absurd c131 (by first | decide | simp [mo_up])
      refine lv_iconst (v := 0) hx hb dX8_tell_134 (by decide) ?_
      exact hs_iret hC hW hL hr hlocks (by decide) (by decide) dX8_tell_135 ⟨rfl, rfl, _, _, _, _, rfl, rfl, ⟨_, rfl⟩, by (first | exact rfl | exact hm3), ⟨N, S, mo_J_fr hI ⟨rfl, rfl, rfl⟩ ⟨rfl, rfl, rfl, rfl, rfl, rfl⟩⟩⟩
    exact absurd c88 (by first | decide | simp [mo_up])
  refine lv_iconst (v := 1) hx hb dX8_tell_73 (by decide) ?_
  refine lv_goto (tgt := 78) hx hb dX8_tell_74 (by decide) ?_
  refine lv_istore (lv' := [(10, .int _), (9, .int _), (0, .ref _), (1, .int _), (2, .int _), (3, .int _), (4, .int _), (5, .int _), (6, .int _), (7, .int _), (8, .int _)]) hx hb dX8_tell_78 hl (by decide) rfl (fun ls hl => ?_)
  refine lv_aload_n hx hb dX8_tell_80 rfl (lv_at hl 2 rfl) ?_
  refine lv_iload hx hb dX8_tell_81 (lv_at hl 1 rfl) ?_
  refine lv_if_eq (tgt := 123) hx hb dX8_tell_83 (by decide) (fun c83 => ?_) (fun c83 => ?_)
  · exact absurd c83 (by first | decide | simp [mo_up])
  refine lv_iload hx hb dX8_tell_86 (lv_at hl 0 rfl) ?_
  refine lv_if_eq (tgt := 123) hx hb dX8_tell_88 (by decide) (fun c88 => ?_) (fun c88 => ?_)
  · exact absurd c88 (by first | decide | simp [mo_up])
  refine lv_iload hx hb dX8_tell_91 (lv_at hl 9 rfl) ?_
  refine lv_i2l hx hb dX8_tell_93 rfl ?_
  refine lv_lconst (v := 0) hx hb dX8_tell_94 (by decide) ?_
  refine lv_aload_n hx hb dX8_tell_95 rfl (lv_at hl 2 rfl) ?_
  refine hs_get hC hW hi_X8 rfl 1 (by decide) lk_X8_129 rfl mo_obj rfl dX8_tell_96 ?_
  refine lv_i2l hx hb dX8_tell_99 rfl ?_
  refine hs_callS hC hs_Tok hW hL (ct_X8_in E _ _ _ _) cw_X8_in lk_X8_99 st_X8_in hl.1 (by decide) (Nat.le_of_ble_eq_true rfl) dX8_tell_100 (hs_kp1 (fun H locs hW hL => ?_))
  refine lv_if_eq (tgt := 123) hx hb dX8_tell_103 (by decide) (fun c103 => ?_) (fun c103 => ?_)
  · refine lv_iconst (v := 1) hx hb dX8_tell_123 (by decide) ?_
    refine hs_put hC hW hL hi_X8 tyX8 tyX8_ok nmX8 rfl 0 (by decide) lk_X8_93 rfl rfl mo_obj ha.2.1 rfl rfl (Nat.le_of_ble_eq_true rfl) dX8_tell_124 (fun H locs hW hL => ?_)
    rw [mo_putS (mo_fs0 _)] at hW
    refine lv_aload_n hx hb dX8_tell_127 rfl (lv_at hl 2 rfl) ?_
    refine hs_get hC hW hi_X8 rfl 0 (by decide) lk_X8_93 rfl mo_obj rfl dX8_tell_128 ?_
    refine lv_if_le (tgt := 136) hx hb dX8_tell_131 (by decide) (fun c131 => ?_) (fun c131 => ?_)
    · exact absurd c131 (by first | decide | simp [mo_up])
    refine lv_iconst (v := 0) hx hb dX8_tell_134 (by decide) ?_
    exact hs_iret hC hW hL hr hlocks (by decide) (by decide) dX8_tell_135 ⟨rfl, rfl, _, _, _, _, rfl, rfl, ⟨_, rfl⟩, by (first | exact rfl | exact hm3), ⟨N, S, mo_J_fr hI ⟨rfl, rfl, rfl⟩ ⟨rfl, rfl, rfl, rfl, rfl, rfl⟩⟩⟩
  refine lv_iload hx hb dX8_tell_106 (lv_at hl 10 rfl) ?_
  refine lv_i2l hx hb dX8_tell_108 rfl ?_
  refine lv_lconst (v := 0) hx hb dX8_tell_109 (by decide) ?_
  refine lv_ldc2 hx hb hown (hts _ lk_X8_178) dX8_tell_110 ?_
  refine hs_callS hC hs_Tok hW hL (ct_X8_in E _ _ _ _) cw_X8_in lk_X8_99 st_X8_in hl.1 (by decide) (Nat.le_of_ble_eq_true rfl) dX8_tell_113 (hs_kp1 (fun H locs hW hL => ?_))
  refine lv_if_eq (tgt := 123) hx hb dX8_tell_116 (by decide) (fun c116 => ?_) (fun c116 => ?_)
  · refine lv_iconst (v := 1) hx hb dX8_tell_123 (by decide) ?_
    refine hs_put hC hW hL hi_X8 tyX8 tyX8_ok nmX8 rfl 0 (by decide) lk_X8_93 rfl rfl mo_obj ha.2.1 rfl rfl (Nat.le_of_ble_eq_true rfl) dX8_tell_124 (fun H locs hW hL => ?_)
    rw [mo_putS (mo_fs0 _)] at hW
    refine lv_aload_n hx hb dX8_tell_127 rfl (lv_at hl 2 rfl) ?_
    refine hs_get hC hW hi_X8 rfl 0 (by decide) lk_X8_93 rfl mo_obj rfl dX8_tell_128 ?_
    refine lv_if_le (tgt := 136) hx hb dX8_tell_131 (by decide) (fun c131 => ?_) (fun c131 => ?_)
    · exact absurd c131 (by first | decide | simp [mo_up])
    refine lv_iconst (v := 0) hx hb dX8_tell_134 (by decide) ?_
    exact hs_iret hC hW hL hr hlocks (by decide) (by decide) dX8_tell_135 ⟨rfl, rfl, _, _, _, _, rfl, rfl, ⟨_, rfl⟩, by (first | exact rfl | exact hm3), ⟨N, S, mo_J_fr hI ⟨rfl, rfl, rfl⟩ ⟨rfl, rfl, rfl, rfl, rfl, rfl⟩⟩⟩
  refine lv_iconst (v := 0) hx hb dX8_tell_119 (by decide) ?_
  refine lv_goto (tgt := 124) hx hb dX8_tell_120 (by decide) ?_
  refine hs_put hC hW hL hi_X8 tyX8 tyX8_ok nmX8 rfl 0 (by decide) lk_X8_93 rfl rfl mo_obj ha.2.1 rfl rfl (Nat.le_of_ble_eq_true rfl) dX8_tell_124 (fun H locs hW hL => ?_)
  rw [mo_putS (mo_fs0 _)] at hW
  refine lv_aload_n hx hb dX8_tell_127 rfl (lv_at hl 2 rfl) ?_
  refine hs_get hC hW hi_X8 rfl 0 (by decide) lk_X8_93 rfl mo_obj rfl dX8_tell_128 ?_
  refine lv_if_le (tgt := 136) hx hb dX8_tell_131 (by decide) (fun c131 => ?_) (fun c131 => ?_)
  · obtain ⟨a16, ha16, rfl⟩ := mo_party c4
    obtain ⟨b16, hb16, rfl⟩ := mo_party c11
    obtain ⟨g8, hg7, rfl⟩ := mo_nat64 (n := 7) (by decide) c29
    obtain ⟨dy, hdy, rfl⟩ := mo_upto hI.2.2.1 hI.2.2.2.1 c103
    obtain ⟨lg, hlg, rfl⟩ := mo_nat64 (n := 10) (by decide) c116
    refine lv_aload_n hx hb dX8_tell_136 rfl (lv_at hl 2 rfl) ?_
    refine hs_get hC hW hi_X8 rfl 31 (by decide) lk_X8_90 rfl mo_obj rfl dX8_tell_137 ?_
    refine lv_iconst (v := 0) hx hb dX8_tell_140 (by decide) ?_
    refine lv_iload_n hx hb dX8_tell_141 rfl (lv_at hl 5 rfl) ?_
    refine lv_if_eq (tgt := 149) hx hb dX8_tell_142 (by decide) (fun c142 => ?_) (fun c142 => ?_)
    · refine lv_iload_n hx hb dX8_tell_149 rfl (lv_at hl 4 rfl) ?_
      refine hs_iast hC hW hL 0 (mo_int ha.1 31 rfl) (ha.2.2 31 rfl) rfl (by unfold vp_in; decide) dX8_tell_150 (fun H locs hW hL => ?_)
      rw [mo_putI ha.1 31 rfl] at hW
      refine lv_aload_n hx hb dX8_tell_151 rfl (lv_at hl 2 rfl) ?_
      refine hs_get hC hW hi_X8 rfl 31 (by decide) lk_X8_90 rfl mo_obj rfl dX8_tell_152 ?_
      refine lv_iconst (v := 1) hx hb dX8_tell_155 (by decide) ?_
      refine lv_iload_n hx hb dX8_tell_156 rfl (lv_at hl 5 rfl) ?_
      refine lv_if_eq (tgt := 164) hx hb dX8_tell_157 (by decide) (fun c157 => ?_) (fun c157 => ?_)
      · refine lv_iload_n hx hb dX8_tell_164 rfl (lv_at hl 3 rfl) ?_
        refine hs_iast hC hW hL 0 (mo_int ha.1 31 rfl) (ha.2.2 31 rfl) rfl (by unfold vp_in; decide) dX8_tell_165 (fun H locs hW hL => ?_)
        rw [mo_putI ha.1 31 rfl] at hW
        refine lv_aload_n hx hb dX8_tell_166 rfl (lv_at hl 2 rfl) ?_
        refine hs_get hC hW hi_X8 rfl 31 (by decide) lk_X8_90 rfl mo_obj rfl dX8_tell_167 ?_
        refine lv_iconst (v := 2) hx hb dX8_tell_170 (by decide) ?_
        refine lv_iload hx hb dX8_tell_171 (lv_at hl 6 rfl) ?_
        refine hs_iast hC hW hL 0 (mo_int ha.1 31 rfl) (ha.2.2 31 rfl) rfl (by unfold vp_in; decide) dX8_tell_173 (fun H locs hW hL => ?_)
        rw [mo_putI ha.1 31 rfl] at hW
        refine lv_aload_n hx hb dX8_tell_174 rfl (lv_at hl 2 rfl) ?_
        refine hs_get hC hW hi_X8 rfl 31 (by decide) lk_X8_90 rfl mo_obj rfl dX8_tell_175 ?_
        refine lv_iconst (v := 3) hx hb dX8_tell_178 (by decide) ?_
        refine lv_iload hx hb dX8_tell_179 (lv_at hl 7 rfl) ?_
        refine hs_iast hC hW hL 0 (mo_int ha.1 31 rfl) (ha.2.2 31 rfl) rfl (by unfold vp_in; decide) dX8_tell_181 (fun H locs hW hL => ?_)
        rw [mo_putI ha.1 31 rfl] at hW
        refine lv_aload_n hx hb dX8_tell_182 rfl (lv_at hl 2 rfl) ?_
        refine hs_get hC hW hi_X8 rfl 31 (by decide) lk_X8_90 rfl mo_obj rfl dX8_tell_183 ?_
        refine lv_iconst (v := 4) hx hb dX8_tell_186 (by decide) ?_
        refine lv_iload hx hb dX8_tell_187 (lv_at hl 8 rfl) ?_
        refine hs_iast hC hW hL 0 (mo_int ha.1 31 rfl) (ha.2.2 31 rfl) rfl (by unfold vp_in; decide) dX8_tell_189 (fun H locs hW hL => ?_)
        rw [mo_putI ha.1 31 rfl] at hW
        refine lv_aload_n hx hb dX8_tell_190 rfl (lv_at hl 2 rfl) ?_
        refine hs_get hC hW hi_X8 rfl 31 (by decide) lk_X8_90 rfl mo_obj rfl dX8_tell_191 ?_
        refine lv_iconst (v := 5) hx hb dX8_tell_194 (by decide) ?_
        refine lv_iload hx hb dX8_tell_195 (lv_at hl 9 rfl) ?_
        refine hs_iast hC hW hL 0 (mo_int ha.1 31 rfl) (ha.2.2 31 rfl) rfl (by unfold vp_in; decide) dX8_tell_197 (fun H locs hW hL => ?_)
        rw [mo_putI ha.1 31 rfl] at hW
        refine lv_aload_n hx hb dX8_tell_198 rfl (lv_at hl 2 rfl) ?_
        refine hs_get hC hW hi_X8 rfl 31 (by decide) lk_X8_90 rfl mo_obj rfl dX8_tell_199 ?_
        refine lv_bipush (v := 6) hx hb dX8_tell_202 (by decide) ?_
        refine lv_iload hx hb dX8_tell_204 (lv_at hl 10 rfl) ?_
        refine hs_iast hC hW hL 0 (mo_int ha.1 31 rfl) (ha.2.2 31 rfl) rfl (by unfold vp_in; decide) dX8_tell_206 (fun H locs hW hL => ?_)
        rw [mo_putI ha.1 31 rfl] at hW
        refine lv_aload_n hx hb dX8_tell_207 rfl (lv_at hl 2 rfl) ?_
        refine lv_iload_n hx hb dX8_tell_208 rfl (lv_at hl 4 rfl) ?_
        refine hs_callV hC hs_Tok hW hL (ct_X8_match E _ _ _ _ _ _ _ ha _ N d S (mo_I.b (mo_J_fr hI ⟨rfl, rfl, rfl⟩ ⟨rfl, rfl, rfl, rfl, rfl, rfl⟩))) cw_X8_match lk_X8_180 im_X8_match se_X8_match (hs_recv hC hW mo_obj rfl) hl.1 (by decide) (Nat.le_of_ble_eq_true rfl) dX8_tell_209 (hs_ke (fun x9 H locs hJ hW hL => ?_))
        refine lv_istore (lv' := [(11, .int _), (10, .int _), (9, .int _), (0, .ref _), (1, .int _), (2, .int _), (3, .int _), (4, .int _), (5, .int _), (6, .int _), (7, .int _), (8, .int _)]) hx hb dX8_tell_212 hl (by decide) rfl (fun ls hl => ?_)
        refine lv_iload hx hb dX8_tell_214 (lv_at hl 0 rfl) ?_
        refine lv_if_lt (tgt := 254) hx hb dX8_tell_216 (by decide) (fun c216 => ?_) (fun c216 => ?_)
        · refine lv_aload_n hx hb dX8_tell_254 rfl (lv_at hl 3 rfl) ?_
          refine lv_aload_n hx hb dX8_tell_255 rfl (lv_at hl 3 rfl) ?_
          refine hs_get hC hW hi_X8 rfl 4 (by decide) lk_X8_107 rfl mo_obj rfl dX8_tell_256 ?_
          refine lv_sipush (v := 150) hx hb dX8_tell_259 (by decide) ?_
          refine lv_icmp_ne (tgt := 269) hx hb dX8_tell_262 (by decide) (fun c262 => ?_) (fun c262 => ?_)
          · refine lv_iconst (v := 0) hx hb dX8_tell_269 (by decide) ?_
            refine hs_put hC hW hL hi_X8 tyX8 tyX8_ok nmX8 rfl 0 (by decide) lk_X8_93 rfl rfl mo_obj ha.2.1 rfl rfl (Nat.le_of_ble_eq_true rfl) dX8_tell_270 (fun H locs hW hL => ?_)
            rw [mo_putS (mo_fs0 _)] at hW
            refine lv_aload_n hx hb dX8_tell_273 rfl (lv_at hl 3 rfl) ?_
            refine hs_get hC hW hi_X8 rfl 0 (by decide) lk_X8_93 rfl mo_obj rfl dX8_tell_274 ?_
            refine lv_if_le (tgt := 282) hx hb dX8_tell_277 (by decide) (fun c277 => ?_) (fun c277 => ?_)
            · have hN9 : N < 150 := by (have c9 : ¬ sc 4 = 150 := c262); rw [mo_150 hI.1 hI.2.1] at c9; have := hI.2.1; omega
              refine lv_aload_n hx hb dX8_tell_282 rfl (lv_at hl 3 rfl) ?_
              refine lv_iload_n hx hb dX8_tell_283 rfl (lv_at hl 4 rfl) ?_
              refine hs_callV hC hs_Tok hW hL (ct_X8_addTrade E _ _ _ _ _ _ _ ha _ _ _ g8 N d S (mo_J_fr hI ⟨rfl, rfl, rfl⟩ ⟨rfl, rfl, rfl, rfl, rfl, rfl⟩) hN9 (by first | exact ha16 | exact hb16) (by first | exact hb16 | exact ha16) (by omega) rfl rfl rfl) cw_X8_addTrade lk_X8_186 im_X8_addTrade se_X8_addTrade (hs_recv hC hW mo_obj rfl) hl.1 (by decide) (Nat.le_of_ble_eq_true rfl) dX8_tell_284 (mo_k0 (fun _ _ _ _ h => h.1) (fun sc3 mI3 mL3 H locs hq hW hL => ?_))
              obtain ⟨-, hm3, hI3⟩ := hq
              refine lv_aload_n hx hb dX8_tell_287 rfl (lv_at hl 3 rfl) ?_
              refine hs_get hC hW hi_X8 rfl 4 (by decide) lk_X8_107 rfl mo_obj rfl dX8_tell_288 ?_
              refine lv_iconst (v := 1) hx hb dX8_tell_291 (by decide) ?_
              refine lv_isub hx hb dX8_tell_292 ?_
              exact hs_iret hC hW hL hr hlocks (by decide) (by decide) dX8_tell_293 ⟨rfl, rfl, _, _, _, _, rfl, rfl, ⟨_, rfl⟩, by (first | exact rfl | exact hm3), ⟨N + 1, S, hI3⟩⟩
            exact absurd c277 (by first | decide | simp [mo_up])
          refine lv_iconst (v := 2) hx hb dX8_tell_265 (by decide) ?_
          refine lv_goto (tgt := 270) hx hb dX8_tell_266 (by decide) ?_
          refine hs_put hC hW hL hi_X8 tyX8 tyX8_ok nmX8 rfl 0 (by decide) lk_X8_93 rfl rfl mo_obj ha.2.1 rfl rfl (Nat.le_of_ble_eq_true rfl) dX8_tell_270 (fun H locs hW hL => ?_)
          rw [mo_putS (mo_fs0 _)] at hW
          refine lv_aload_n hx hb dX8_tell_273 rfl (lv_at hl 3 rfl) ?_
          refine hs_get hC hW hi_X8 rfl 0 (by decide) lk_X8_93 rfl mo_obj rfl dX8_tell_274 ?_
          refine lv_if_le (tgt := 282) hx hb dX8_tell_277 (by decide) (fun c277 => ?_) (fun c277 => ?_)
          · exact absurd c277 (by first | decide | simp [mo_up])
          refine lv_iconst (v := 0) hx hb dX8_tell_280 (by decide) ?_
          exact hs_iret hC hW hL hr hlocks (by decide) (by decide) dX8_tell_281 ⟨rfl, rfl, _, _, _, _, rfl, rfl, ⟨_, rfl⟩, by (first | exact rfl | exact hm3), ⟨N, S, mo_J_fr hI ⟨rfl, rfl, rfl⟩ ⟨rfl, rfl, rfl, rfl, rfl, rfl⟩⟩⟩
        obtain ⟨j, hj, rfl, hj0⟩ := hJ.resolve_left (fun z => c216 (by rw [z]; decide))
        have hj150 : j < 150 := Nat.lt_of_lt_of_le hj hI.2.1
        have hjn : vp_in (nI j) 150 := vp_in_nI hj150 (by decide)
        have hcl : (nI j).toNatClampNeg = j := nI_clamp (by omega)
        refine lv_aload_n hx hb dX8_tell_219 rfl (lv_at hl 3 rfl) ?_
        refine hs_get hC hW hi_X8 rfl 15 (by decide) lk_X8_48 rfl mo_obj rfl dX8_tell_220 ?_
        refine lv_iload hx hb dX8_tell_223 (lv_at hl 0 rfl) ?_
        refine lv_iconst (v := 1) hx hb dX8_tell_225 (by decide) ?_
        refine hs_iast hC hW hL 0 (mo_int ha.1 15 rfl) (ha.2.2 15 rfl) rfl hjn dX8_tell_226 (fun H locs hW hL => ?_)
        rw [mo_putI ha.1 15 rfl] at hW
        refine lv_aload_n hx hb dX8_tell_227 rfl (lv_at hl 3 rfl) ?_
        refine hs_get hC hW hi_X8 rfl 16 (by decide) lk_X8_51 rfl mo_obj rfl dX8_tell_228 ?_
        refine lv_iload hx hb dX8_tell_231 (lv_at hl 0 rfl) ?_
        refine lv_aload_n hx hb dX8_tell_233 rfl (lv_at hl 3 rfl) ?_
        refine lv_iload hx hb dX8_tell_234 (lv_at hl 10 rfl) ?_
        refine lv_iload hx hb dX8_tell_236 (lv_at hl 11 rfl) ?_
        refine hs_callV hC hs_Tok hW hL (ct_X8_businessDay E _ _ _ _ _ _ _ ha dy lg hdy (by omega)) cw_X8_businessDay lk_X8_183 im_X8_businessDay se_X8_businessDay (hs_recv hC hW mo_obj rfl) hl.1 (by decide) (Nat.le_of_ble_eq_true rfl) dX8_tell_238 (hs_ke (fun x8 H locs hJ2 hW hL => ?_))
        refine hs_iast hC hW hL 0 (mo_int ha.1 16 rfl) (ha.2.2 16 rfl) rfl hjn dX8_tell_241 (fun H locs hW hL => ?_)
        rw [mo_putI ha.1 16 rfl] at hW
        refine lv_aload_n hx hb dX8_tell_242 rfl (lv_at hl 3 rfl) ?_
        refine hs_get hC hW hi_X8 rfl 22 (by decide) lk_X8_69 rfl mo_obj rfl dX8_tell_243 ?_
        refine lv_iload hx hb dX8_tell_246 (lv_at hl 0 rfl) ?_
        refine lv_iload hx hb dX8_tell_248 (lv_at hl 0 rfl) ?_
        refine hs_iast hC hW hL 0 (mo_int ha.1 22 rfl) (ha.2.2 22 rfl) rfl hjn dX8_tell_250 (fun H locs hW hL => ?_)
        rw [mo_putI ha.1 22 rfl] at hW
        refine lv_iload hx hb dX8_tell_251 (lv_at hl 0 rfl) ?_
        exact hs_iret hC hW hL hr hlocks (by decide) (by decide) dX8_tell_253 ⟨rfl, rfl, _, _, _, _, rfl, rfl, ⟨_, rfl⟩, by (first | exact rfl | exact hm3), ⟨N, S, mo_J_pend hI hj hj0 ⟨rfl, rfl, rfl⟩ ⟨rfl, rfl, rfl, by rw [hcl]; rfl, rfl, by rw [hcl]; rfl⟩⟩⟩
      refine lv_iload_n hx hb dX8_tell_160 rfl (lv_at hl 4 rfl) ?_
      refine lv_goto (tgt := 165) hx hb dX8_tell_161 (by decide) ?_
      refine hs_iast hC hW hL 0 (mo_int ha.1 31 rfl) (ha.2.2 31 rfl) rfl (by unfold vp_in; decide) dX8_tell_165 (fun H locs hW hL => ?_)
      rw [mo_putI ha.1 31 rfl] at hW
      refine lv_aload_n hx hb dX8_tell_166 rfl (lv_at hl 2 rfl) ?_
      refine hs_get hC hW hi_X8 rfl 31 (by decide) lk_X8_90 rfl mo_obj rfl dX8_tell_167 ?_
      refine lv_iconst (v := 2) hx hb dX8_tell_170 (by decide) ?_
      refine lv_iload hx hb dX8_tell_171 (lv_at hl 6 rfl) ?_
      refine hs_iast hC hW hL 0 (mo_int ha.1 31 rfl) (ha.2.2 31 rfl) rfl (by unfold vp_in; decide) dX8_tell_173 (fun H locs hW hL => ?_)
      rw [mo_putI ha.1 31 rfl] at hW
      refine lv_aload_n hx hb dX8_tell_174 rfl (lv_at hl 2 rfl) ?_
      refine hs_get hC hW hi_X8 rfl 31 (by decide) lk_X8_90 rfl mo_obj rfl dX8_tell_175 ?_
      refine lv_iconst (v := 3) hx hb dX8_tell_178 (by decide) ?_
      refine lv_iload hx hb dX8_tell_179 (lv_at hl 7 rfl) ?_
      refine hs_iast hC hW hL 0 (mo_int ha.1 31 rfl) (ha.2.2 31 rfl) rfl (by unfold vp_in; decide) dX8_tell_181 (fun H locs hW hL => ?_)
      rw [mo_putI ha.1 31 rfl] at hW
      refine lv_aload_n hx hb dX8_tell_182 rfl (lv_at hl 2 rfl) ?_
      refine hs_get hC hW hi_X8 rfl 31 (by decide) lk_X8_90 rfl mo_obj rfl dX8_tell_183 ?_
      refine lv_iconst (v := 4) hx hb dX8_tell_186 (by decide) ?_
      refine lv_iload hx hb dX8_tell_187 (lv_at hl 8 rfl) ?_
      refine hs_iast hC hW hL 0 (mo_int ha.1 31 rfl) (ha.2.2 31 rfl) rfl (by unfold vp_in; decide) dX8_tell_189 (fun H locs hW hL => ?_)
      rw [mo_putI ha.1 31 rfl] at hW
      refine lv_aload_n hx hb dX8_tell_190 rfl (lv_at hl 2 rfl) ?_
      refine hs_get hC hW hi_X8 rfl 31 (by decide) lk_X8_90 rfl mo_obj rfl dX8_tell_191 ?_
      refine lv_iconst (v := 5) hx hb dX8_tell_194 (by decide) ?_
      refine lv_iload hx hb dX8_tell_195 (lv_at hl 9 rfl) ?_
      refine hs_iast hC hW hL 0 (mo_int ha.1 31 rfl) (ha.2.2 31 rfl) rfl (by unfold vp_in; decide) dX8_tell_197 (fun H locs hW hL => ?_)
      rw [mo_putI ha.1 31 rfl] at hW
      refine lv_aload_n hx hb dX8_tell_198 rfl (lv_at hl 2 rfl) ?_
      refine hs_get hC hW hi_X8 rfl 31 (by decide) lk_X8_90 rfl mo_obj rfl dX8_tell_199 ?_
      refine lv_bipush (v := 6) hx hb dX8_tell_202 (by decide) ?_
      refine lv_iload hx hb dX8_tell_204 (lv_at hl 10 rfl) ?_
      refine hs_iast hC hW hL 0 (mo_int ha.1 31 rfl) (ha.2.2 31 rfl) rfl (by unfold vp_in; decide) dX8_tell_206 (fun H locs hW hL => ?_)
      rw [mo_putI ha.1 31 rfl] at hW
      refine lv_aload_n hx hb dX8_tell_207 rfl (lv_at hl 2 rfl) ?_
      refine lv_iload_n hx hb dX8_tell_208 rfl (lv_at hl 4 rfl) ?_
      refine hs_callV hC hs_Tok hW hL (ct_X8_match E _ _ _ _ _ _ _ ha _ N d S (mo_I.b (mo_J_fr hI ⟨rfl, rfl, rfl⟩ ⟨rfl, rfl, rfl, rfl, rfl, rfl⟩))) cw_X8_match lk_X8_180 im_X8_match se_X8_match (hs_recv hC hW mo_obj rfl) hl.1 (by decide) (Nat.le_of_ble_eq_true rfl) dX8_tell_209 (hs_ke (fun x9 H locs hJ hW hL => ?_))
      refine lv_istore (lv' := [(11, .int _), (10, .int _), (9, .int _), (0, .ref _), (1, .int _), (2, .int _), (3, .int _), (4, .int _), (5, .int _), (6, .int _), (7, .int _), (8, .int _)]) hx hb dX8_tell_212 hl (by decide) rfl (fun ls hl => ?_)
      refine lv_iload hx hb dX8_tell_214 (lv_at hl 0 rfl) ?_
      refine lv_if_lt (tgt := 254) hx hb dX8_tell_216 (by decide) (fun c216 => ?_) (fun c216 => ?_)
      · refine lv_aload_n hx hb dX8_tell_254 rfl (lv_at hl 3 rfl) ?_
        refine lv_aload_n hx hb dX8_tell_255 rfl (lv_at hl 3 rfl) ?_
        refine hs_get hC hW hi_X8 rfl 4 (by decide) lk_X8_107 rfl mo_obj rfl dX8_tell_256 ?_
        refine lv_sipush (v := 150) hx hb dX8_tell_259 (by decide) ?_
        refine lv_icmp_ne (tgt := 269) hx hb dX8_tell_262 (by decide) (fun c262 => ?_) (fun c262 => ?_)
        · refine lv_iconst (v := 0) hx hb dX8_tell_269 (by decide) ?_
          refine hs_put hC hW hL hi_X8 tyX8 tyX8_ok nmX8 rfl 0 (by decide) lk_X8_93 rfl rfl mo_obj ha.2.1 rfl rfl (Nat.le_of_ble_eq_true rfl) dX8_tell_270 (fun H locs hW hL => ?_)
          rw [mo_putS (mo_fs0 _)] at hW
          refine lv_aload_n hx hb dX8_tell_273 rfl (lv_at hl 3 rfl) ?_
          refine hs_get hC hW hi_X8 rfl 0 (by decide) lk_X8_93 rfl mo_obj rfl dX8_tell_274 ?_
          refine lv_if_le (tgt := 282) hx hb dX8_tell_277 (by decide) (fun c277 => ?_) (fun c277 => ?_)
          · have hN9 : N < 150 := by (have c9 : ¬ sc 4 = 150 := c262); rw [mo_150 hI.1 hI.2.1] at c9; have := hI.2.1; omega
            refine lv_aload_n hx hb dX8_tell_282 rfl (lv_at hl 3 rfl) ?_
            refine lv_iload_n hx hb dX8_tell_283 rfl (lv_at hl 4 rfl) ?_
            refine hs_callV hC hs_Tok hW hL (ct_X8_addTrade E _ _ _ _ _ _ _ ha _ _ _ g8 N d S (mo_J_fr hI ⟨rfl, rfl, rfl⟩ ⟨rfl, rfl, rfl, rfl, rfl, rfl⟩) hN9 (by first | exact ha16 | exact hb16) (by first | exact hb16 | exact ha16) (by omega) rfl rfl rfl) cw_X8_addTrade lk_X8_186 im_X8_addTrade se_X8_addTrade (hs_recv hC hW mo_obj rfl) hl.1 (by decide) (Nat.le_of_ble_eq_true rfl) dX8_tell_284 (mo_k0 (fun _ _ _ _ h => h.1) (fun sc3 mI3 mL3 H locs hq hW hL => ?_))
            obtain ⟨-, hm3, hI3⟩ := hq
            refine lv_aload_n hx hb dX8_tell_287 rfl (lv_at hl 3 rfl) ?_
            refine hs_get hC hW hi_X8 rfl 4 (by decide) lk_X8_107 rfl mo_obj rfl dX8_tell_288 ?_
            refine lv_iconst (v := 1) hx hb dX8_tell_291 (by decide) ?_
            refine lv_isub hx hb dX8_tell_292 ?_
            exact hs_iret hC hW hL hr hlocks (by decide) (by decide) dX8_tell_293 ⟨rfl, rfl, _, _, _, _, rfl, rfl, ⟨_, rfl⟩, by (first | exact rfl | exact hm3), ⟨N + 1, S, hI3⟩⟩
          exact absurd c277 (by first | decide | simp [mo_up])
        refine lv_iconst (v := 2) hx hb dX8_tell_265 (by decide) ?_
        refine lv_goto (tgt := 270) hx hb dX8_tell_266 (by decide) ?_
        refine hs_put hC hW hL hi_X8 tyX8 tyX8_ok nmX8 rfl 0 (by decide) lk_X8_93 rfl rfl mo_obj ha.2.1 rfl rfl (Nat.le_of_ble_eq_true rfl) dX8_tell_270 (fun H locs hW hL => ?_)
        rw [mo_putS (mo_fs0 _)] at hW
        refine lv_aload_n hx hb dX8_tell_273 rfl (lv_at hl 3 rfl) ?_
        refine hs_get hC hW hi_X8 rfl 0 (by decide) lk_X8_93 rfl mo_obj rfl dX8_tell_274 ?_
        refine lv_if_le (tgt := 282) hx hb dX8_tell_277 (by decide) (fun c277 => ?_) (fun c277 => ?_)
        · exact absurd c277 (by first | decide | simp [mo_up])
        refine lv_iconst (v := 0) hx hb dX8_tell_280 (by decide) ?_
        exact hs_iret hC hW hL hr hlocks (by decide) (by decide) dX8_tell_281 ⟨rfl, rfl, _, _, _, _, rfl, rfl, ⟨_, rfl⟩, by (first | exact rfl | exact hm3), ⟨N, S, mo_J_fr hI ⟨rfl, rfl, rfl⟩ ⟨rfl, rfl, rfl, rfl, rfl, rfl⟩⟩⟩
      obtain ⟨j, hj, rfl, hj0⟩ := hJ.resolve_left (fun z => c216 (by rw [z]; decide))
      have hj150 : j < 150 := Nat.lt_of_lt_of_le hj hI.2.1
      have hjn : vp_in (nI j) 150 := vp_in_nI hj150 (by decide)
      have hcl : (nI j).toNatClampNeg = j := nI_clamp (by omega)
      refine lv_aload_n hx hb dX8_tell_219 rfl (lv_at hl 3 rfl) ?_
      refine hs_get hC hW hi_X8 rfl 15 (by decide) lk_X8_48 rfl mo_obj rfl dX8_tell_220 ?_
      refine lv_iload hx hb dX8_tell_223 (lv_at hl 0 rfl) ?_
      refine lv_iconst (v := 1) hx hb dX8_tell_225 (by decide) ?_
      refine hs_iast hC hW hL 0 (mo_int ha.1 15 rfl) (ha.2.2 15 rfl) rfl hjn dX8_tell_226 (fun H locs hW hL => ?_)
      rw [mo_putI ha.1 15 rfl] at hW
      refine lv_aload_n hx hb dX8_tell_227 rfl (lv_at hl 3 rfl) ?_
      refine hs_get hC hW hi_X8 rfl 16 (by decide) lk_X8_51 rfl mo_obj rfl dX8_tell_228 ?_
      refine lv_iload hx hb dX8_tell_231 (lv_at hl 0 rfl) ?_
      refine lv_aload_n hx hb dX8_tell_233 rfl (lv_at hl 3 rfl) ?_
      refine lv_iload hx hb dX8_tell_234 (lv_at hl 10 rfl) ?_
      refine lv_iload hx hb dX8_tell_236 (lv_at hl 11 rfl) ?_
      refine hs_callV hC hs_Tok hW hL (ct_X8_businessDay E _ _ _ _ _ _ _ ha dy lg hdy (by omega)) cw_X8_businessDay lk_X8_183 im_X8_businessDay se_X8_businessDay (hs_recv hC hW mo_obj rfl) hl.1 (by decide) (Nat.le_of_ble_eq_true rfl) dX8_tell_238 (hs_ke (fun x8 H locs hJ2 hW hL => ?_))
      refine hs_iast hC hW hL 0 (mo_int ha.1 16 rfl) (ha.2.2 16 rfl) rfl hjn dX8_tell_241 (fun H locs hW hL => ?_)
      rw [mo_putI ha.1 16 rfl] at hW
      refine lv_aload_n hx hb dX8_tell_242 rfl (lv_at hl 3 rfl) ?_
      refine hs_get hC hW hi_X8 rfl 22 (by decide) lk_X8_69 rfl mo_obj rfl dX8_tell_243 ?_
      refine lv_iload hx hb dX8_tell_246 (lv_at hl 0 rfl) ?_
      refine lv_iload hx hb dX8_tell_248 (lv_at hl 0 rfl) ?_
      refine hs_iast hC hW hL 0 (mo_int ha.1 22 rfl) (ha.2.2 22 rfl) rfl hjn dX8_tell_250 (fun H locs hW hL => ?_)
      rw [mo_putI ha.1 22 rfl] at hW
      refine lv_iload hx hb dX8_tell_251 (lv_at hl 0 rfl) ?_
      exact hs_iret hC hW hL hr hlocks (by decide) (by decide) dX8_tell_253 ⟨rfl, rfl, _, _, _, _, rfl, rfl, ⟨_, rfl⟩, by (first | exact rfl | exact hm3), ⟨N, S, mo_J_pend hI hj hj0 ⟨rfl, rfl, rfl⟩ ⟨rfl, rfl, rfl, by rw [hcl]; rfl, rfl, by rw [hcl]; rfl⟩⟩⟩
    refine lv_iload_n hx hb dX8_tell_145 rfl (lv_at hl 3 rfl) ?_
    refine lv_goto (tgt := 150) hx hb dX8_tell_146 (by decide) ?_
    refine hs_iast hC hW hL 0 (mo_int ha.1 31 rfl) (ha.2.2 31 rfl) rfl (by unfold vp_in; decide) dX8_tell_150 (fun H locs hW hL => ?_)
    rw [mo_putI ha.1 31 rfl] at hW
    refine lv_aload_n hx hb dX8_tell_151 rfl (lv_at hl 2 rfl) ?_
    refine hs_get hC hW hi_X8 rfl 31 (by decide) lk_X8_90 rfl mo_obj rfl dX8_tell_152 ?_
    refine lv_iconst (v := 1) hx hb dX8_tell_155 (by decide) ?_
    refine lv_iload_n hx hb dX8_tell_156 rfl (lv_at hl 5 rfl) ?_
    refine lv_if_eq (tgt := 164) hx hb dX8_tell_157 (by decide) (fun c157 => ?_) (fun c157 => ?_)
    · refine lv_iload_n hx hb dX8_tell_164 rfl (lv_at hl 3 rfl) ?_
      refine hs_iast hC hW hL 0 (mo_int ha.1 31 rfl) (ha.2.2 31 rfl) rfl (by unfold vp_in; decide) dX8_tell_165 (fun H locs hW hL => ?_)
      rw [mo_putI ha.1 31 rfl] at hW
      refine lv_aload_n hx hb dX8_tell_166 rfl (lv_at hl 2 rfl) ?_
      refine hs_get hC hW hi_X8 rfl 31 (by decide) lk_X8_90 rfl mo_obj rfl dX8_tell_167 ?_
      refine lv_iconst (v := 2) hx hb dX8_tell_170 (by decide) ?_
      refine lv_iload hx hb dX8_tell_171 (lv_at hl 6 rfl) ?_
      refine hs_iast hC hW hL 0 (mo_int ha.1 31 rfl) (ha.2.2 31 rfl) rfl (by unfold vp_in; decide) dX8_tell_173 (fun H locs hW hL => ?_)
      rw [mo_putI ha.1 31 rfl] at hW
      refine lv_aload_n hx hb dX8_tell_174 rfl (lv_at hl 2 rfl) ?_
      refine hs_get hC hW hi_X8 rfl 31 (by decide) lk_X8_90 rfl mo_obj rfl dX8_tell_175 ?_
      refine lv_iconst (v := 3) hx hb dX8_tell_178 (by decide) ?_
      refine lv_iload hx hb dX8_tell_179 (lv_at hl 7 rfl) ?_
      refine hs_iast hC hW hL 0 (mo_int ha.1 31 rfl) (ha.2.2 31 rfl) rfl (by unfold vp_in; decide) dX8_tell_181 (fun H locs hW hL => ?_)
      rw [mo_putI ha.1 31 rfl] at hW
      refine lv_aload_n hx hb dX8_tell_182 rfl (lv_at hl 2 rfl) ?_
      refine hs_get hC hW hi_X8 rfl 31 (by decide) lk_X8_90 rfl mo_obj rfl dX8_tell_183 ?_
      refine lv_iconst (v := 4) hx hb dX8_tell_186 (by decide) ?_
      refine lv_iload hx hb dX8_tell_187 (lv_at hl 8 rfl) ?_
      refine hs_iast hC hW hL 0 (mo_int ha.1 31 rfl) (ha.2.2 31 rfl) rfl (by unfold vp_in; decide) dX8_tell_189 (fun H locs hW hL => ?_)
      rw [mo_putI ha.1 31 rfl] at hW
      refine lv_aload_n hx hb dX8_tell_190 rfl (lv_at hl 2 rfl) ?_
      refine hs_get hC hW hi_X8 rfl 31 (by decide) lk_X8_90 rfl mo_obj rfl dX8_tell_191 ?_
      refine lv_iconst (v := 5) hx hb dX8_tell_194 (by decide) ?_
      refine lv_iload hx hb dX8_tell_195 (lv_at hl 9 rfl) ?_
      refine hs_iast hC hW hL 0 (mo_int ha.1 31 rfl) (ha.2.2 31 rfl) rfl (by unfold vp_in; decide) dX8_tell_197 (fun H locs hW hL => ?_)
      rw [mo_putI ha.1 31 rfl] at hW
      refine lv_aload_n hx hb dX8_tell_198 rfl (lv_at hl 2 rfl) ?_
      refine hs_get hC hW hi_X8 rfl 31 (by decide) lk_X8_90 rfl mo_obj rfl dX8_tell_199 ?_
      refine lv_bipush (v := 6) hx hb dX8_tell_202 (by decide) ?_
      refine lv_iload hx hb dX8_tell_204 (lv_at hl 10 rfl) ?_
      refine hs_iast hC hW hL 0 (mo_int ha.1 31 rfl) (ha.2.2 31 rfl) rfl (by unfold vp_in; decide) dX8_tell_206 (fun H locs hW hL => ?_)
      rw [mo_putI ha.1 31 rfl] at hW
      refine lv_aload_n hx hb dX8_tell_207 rfl (lv_at hl 2 rfl) ?_
      refine lv_iload_n hx hb dX8_tell_208 rfl (lv_at hl 4 rfl) ?_
      refine hs_callV hC hs_Tok hW hL (ct_X8_match E _ _ _ _ _ _ _ ha _ N d S (mo_I.b (mo_J_fr hI ⟨rfl, rfl, rfl⟩ ⟨rfl, rfl, rfl, rfl, rfl, rfl⟩))) cw_X8_match lk_X8_180 im_X8_match se_X8_match (hs_recv hC hW mo_obj rfl) hl.1 (by decide) (Nat.le_of_ble_eq_true rfl) dX8_tell_209 (hs_ke (fun x9 H locs hJ hW hL => ?_))
      refine lv_istore (lv' := [(11, .int _), (10, .int _), (9, .int _), (0, .ref _), (1, .int _), (2, .int _), (3, .int _), (4, .int _), (5, .int _), (6, .int _), (7, .int _), (8, .int _)]) hx hb dX8_tell_212 hl (by decide) rfl (fun ls hl => ?_)
      refine lv_iload hx hb dX8_tell_214 (lv_at hl 0 rfl) ?_
      refine lv_if_lt (tgt := 254) hx hb dX8_tell_216 (by decide) (fun c216 => ?_) (fun c216 => ?_)
      · refine lv_aload_n hx hb dX8_tell_254 rfl (lv_at hl 3 rfl) ?_
        refine lv_aload_n hx hb dX8_tell_255 rfl (lv_at hl 3 rfl) ?_
        refine hs_get hC hW hi_X8 rfl 4 (by decide) lk_X8_107 rfl mo_obj rfl dX8_tell_256 ?_
        refine lv_sipush (v := 150) hx hb dX8_tell_259 (by decide) ?_
        refine lv_icmp_ne (tgt := 269) hx hb dX8_tell_262 (by decide) (fun c262 => ?_) (fun c262 => ?_)
        · refine lv_iconst (v := 0) hx hb dX8_tell_269 (by decide) ?_
          refine hs_put hC hW hL hi_X8 tyX8 tyX8_ok nmX8 rfl 0 (by decide) lk_X8_93 rfl rfl mo_obj ha.2.1 rfl rfl (Nat.le_of_ble_eq_true rfl) dX8_tell_270 (fun H locs hW hL => ?_)
          rw [mo_putS (mo_fs0 _)] at hW
          refine lv_aload_n hx hb dX8_tell_273 rfl (lv_at hl 3 rfl) ?_
          refine hs_get hC hW hi_X8 rfl 0 (by decide) lk_X8_93 rfl mo_obj rfl dX8_tell_274 ?_
          refine lv_if_le (tgt := 282) hx hb dX8_tell_277 (by decide) (fun c277 => ?_) (fun c277 => ?_)
          · have hN9 : N < 150 := by (have c9 : ¬ sc 4 = 150 := c262); rw [mo_150 hI.1 hI.2.1] at c9; have := hI.2.1; omega
            refine lv_aload_n hx hb dX8_tell_282 rfl (lv_at hl 3 rfl) ?_
            refine lv_iload_n hx hb dX8_tell_283 rfl (lv_at hl 4 rfl) ?_
            refine hs_callV hC hs_Tok hW hL (ct_X8_addTrade E _ _ _ _ _ _ _ ha _ _ _ g8 N d S (mo_J_fr hI ⟨rfl, rfl, rfl⟩ ⟨rfl, rfl, rfl, rfl, rfl, rfl⟩) hN9 (by first | exact ha16 | exact hb16) (by first | exact hb16 | exact ha16) (by omega) rfl rfl rfl) cw_X8_addTrade lk_X8_186 im_X8_addTrade se_X8_addTrade (hs_recv hC hW mo_obj rfl) hl.1 (by decide) (Nat.le_of_ble_eq_true rfl) dX8_tell_284 (mo_k0 (fun _ _ _ _ h => h.1) (fun sc3 mI3 mL3 H locs hq hW hL => ?_))
            obtain ⟨-, hm3, hI3⟩ := hq
            refine lv_aload_n hx hb dX8_tell_287 rfl (lv_at hl 3 rfl) ?_
            refine hs_get hC hW hi_X8 rfl 4 (by decide) lk_X8_107 rfl mo_obj rfl dX8_tell_288 ?_
            refine lv_iconst (v := 1) hx hb dX8_tell_291 (by decide) ?_
            refine lv_isub hx hb dX8_tell_292 ?_
            exact hs_iret hC hW hL hr hlocks (by decide) (by decide) dX8_tell_293 ⟨rfl, rfl, _, _, _, _, rfl, rfl, ⟨_, rfl⟩, by (first | exact rfl | exact hm3), ⟨N + 1, S, hI3⟩⟩
          exact absurd c277 (by first | decide | simp [mo_up])
        refine lv_iconst (v := 2) hx hb dX8_tell_265 (by decide) ?_
        refine lv_goto (tgt := 270) hx hb dX8_tell_266 (by decide) ?_
        refine hs_put hC hW hL hi_X8 tyX8 tyX8_ok nmX8 rfl 0 (by decide) lk_X8_93 rfl rfl mo_obj ha.2.1 rfl rfl (Nat.le_of_ble_eq_true rfl) dX8_tell_270 (fun H locs hW hL => ?_)
        rw [mo_putS (mo_fs0 _)] at hW
        refine lv_aload_n hx hb dX8_tell_273 rfl (lv_at hl 3 rfl) ?_
        refine hs_get hC hW hi_X8 rfl 0 (by decide) lk_X8_93 rfl mo_obj rfl dX8_tell_274 ?_
        refine lv_if_le (tgt := 282) hx hb dX8_tell_277 (by decide) (fun c277 => ?_) (fun c277 => ?_)
        · exact absurd c277 (by first | decide | simp [mo_up])
        refine lv_iconst (v := 0) hx hb dX8_tell_280 (by decide) ?_
        exact hs_iret hC hW hL hr hlocks (by decide) (by decide) dX8_tell_281 ⟨rfl, rfl, _, _, _, _, rfl, rfl, ⟨_, rfl⟩, by (first | exact rfl | exact hm3), ⟨N, S, mo_J_fr hI ⟨rfl, rfl, rfl⟩ ⟨rfl, rfl, rfl, rfl, rfl, rfl⟩⟩⟩
      obtain ⟨j, hj, rfl, hj0⟩ := hJ.resolve_left (fun z => c216 (by rw [z]; decide))
      have hj150 : j < 150 := Nat.lt_of_lt_of_le hj hI.2.1
      have hjn : vp_in (nI j) 150 := vp_in_nI hj150 (by decide)
      have hcl : (nI j).toNatClampNeg = j := nI_clamp (by omega)
      refine lv_aload_n hx hb dX8_tell_219 rfl (lv_at hl 3 rfl) ?_
      refine hs_get hC hW hi_X8 rfl 15 (by decide) lk_X8_48 rfl mo_obj rfl dX8_tell_220 ?_
      refine lv_iload hx hb dX8_tell_223 (lv_at hl 0 rfl) ?_
      refine lv_iconst (v := 1) hx hb dX8_tell_225 (by decide) ?_
      refine hs_iast hC hW hL 0 (mo_int ha.1 15 rfl) (ha.2.2 15 rfl) rfl hjn dX8_tell_226 (fun H locs hW hL => ?_)
      rw [mo_putI ha.1 15 rfl] at hW
      refine lv_aload_n hx hb dX8_tell_227 rfl (lv_at hl 3 rfl) ?_
      refine hs_get hC hW hi_X8 rfl 16 (by decide) lk_X8_51 rfl mo_obj rfl dX8_tell_228 ?_
      refine lv_iload hx hb dX8_tell_231 (lv_at hl 0 rfl) ?_
      refine lv_aload_n hx hb dX8_tell_233 rfl (lv_at hl 3 rfl) ?_
      refine lv_iload hx hb dX8_tell_234 (lv_at hl 10 rfl) ?_
      refine lv_iload hx hb dX8_tell_236 (lv_at hl 11 rfl) ?_
      refine hs_callV hC hs_Tok hW hL (ct_X8_businessDay E _ _ _ _ _ _ _ ha dy lg hdy (by omega)) cw_X8_businessDay lk_X8_183 im_X8_businessDay se_X8_businessDay (hs_recv hC hW mo_obj rfl) hl.1 (by decide) (Nat.le_of_ble_eq_true rfl) dX8_tell_238 (hs_ke (fun x8 H locs hJ2 hW hL => ?_))
      refine hs_iast hC hW hL 0 (mo_int ha.1 16 rfl) (ha.2.2 16 rfl) rfl hjn dX8_tell_241 (fun H locs hW hL => ?_)
      rw [mo_putI ha.1 16 rfl] at hW
      refine lv_aload_n hx hb dX8_tell_242 rfl (lv_at hl 3 rfl) ?_
      refine hs_get hC hW hi_X8 rfl 22 (by decide) lk_X8_69 rfl mo_obj rfl dX8_tell_243 ?_
      refine lv_iload hx hb dX8_tell_246 (lv_at hl 0 rfl) ?_
      refine lv_iload hx hb dX8_tell_248 (lv_at hl 0 rfl) ?_
      refine hs_iast hC hW hL 0 (mo_int ha.1 22 rfl) (ha.2.2 22 rfl) rfl hjn dX8_tell_250 (fun H locs hW hL => ?_)
      rw [mo_putI ha.1 22 rfl] at hW
      refine lv_iload hx hb dX8_tell_251 (lv_at hl 0 rfl) ?_
      exact hs_iret hC hW hL hr hlocks (by decide) (by decide) dX8_tell_253 ⟨rfl, rfl, _, _, _, _, rfl, rfl, ⟨_, rfl⟩, by (first | exact rfl | exact hm3), ⟨N, S, mo_J_pend hI hj hj0 ⟨rfl, rfl, rfl⟩ ⟨rfl, rfl, rfl, by rw [hcl]; rfl, rfl, by rw [hcl]; rfl⟩⟩⟩
    refine lv_iload_n hx hb dX8_tell_160 rfl (lv_at hl 4 rfl) ?_
    refine lv_goto (tgt := 165) hx hb dX8_tell_161 (by decide) ?_
    refine hs_iast hC hW hL 0 (mo_int ha.1 31 rfl) (ha.2.2 31 rfl) rfl (by unfold vp_in; decide) dX8_tell_165 (fun H locs hW hL => ?_)
    rw [mo_putI ha.1 31 rfl] at hW
    refine lv_aload_n hx hb dX8_tell_166 rfl (lv_at hl 2 rfl) ?_
    refine hs_get hC hW hi_X8 rfl 31 (by decide) lk_X8_90 rfl mo_obj rfl dX8_tell_167 ?_
    refine lv_iconst (v := 2) hx hb dX8_tell_170 (by decide) ?_
    refine lv_iload hx hb dX8_tell_171 (lv_at hl 6 rfl) ?_
    refine hs_iast hC hW hL 0 (mo_int ha.1 31 rfl) (ha.2.2 31 rfl) rfl (by unfold vp_in; decide) dX8_tell_173 (fun H locs hW hL => ?_)
    rw [mo_putI ha.1 31 rfl] at hW
    refine lv_aload_n hx hb dX8_tell_174 rfl (lv_at hl 2 rfl) ?_
    refine hs_get hC hW hi_X8 rfl 31 (by decide) lk_X8_90 rfl mo_obj rfl dX8_tell_175 ?_
    refine lv_iconst (v := 3) hx hb dX8_tell_178 (by decide) ?_
    refine lv_iload hx hb dX8_tell_179 (lv_at hl 7 rfl) ?_
    refine hs_iast hC hW hL 0 (mo_int ha.1 31 rfl) (ha.2.2 31 rfl) rfl (by unfold vp_in; decide) dX8_tell_181 (fun H locs hW hL => ?_)
    rw [mo_putI ha.1 31 rfl] at hW
    refine lv_aload_n hx hb dX8_tell_182 rfl (lv_at hl 2 rfl) ?_
    refine hs_get hC hW hi_X8 rfl 31 (by decide) lk_X8_90 rfl mo_obj rfl dX8_tell_183 ?_
    refine lv_iconst (v := 4) hx hb dX8_tell_186 (by decide) ?_
    refine lv_iload hx hb dX8_tell_187 (lv_at hl 8 rfl) ?_
    refine hs_iast hC hW hL 0 (mo_int ha.1 31 rfl) (ha.2.2 31 rfl) rfl (by unfold vp_in; decide) dX8_tell_189 (fun H locs hW hL => ?_)
    rw [mo_putI ha.1 31 rfl] at hW
    refine lv_aload_n hx hb dX8_tell_190 rfl (lv_at hl 2 rfl) ?_
    refine hs_get hC hW hi_X8 rfl 31 (by decide) lk_X8_90 rfl mo_obj rfl dX8_tell_191 ?_
    refine lv_iconst (v := 5) hx hb dX8_tell_194 (by decide) ?_
    refine lv_iload hx hb dX8_tell_195 (lv_at hl 9 rfl) ?_
    refine hs_iast hC hW hL 0 (mo_int ha.1 31 rfl) (ha.2.2 31 rfl) rfl (by unfold vp_in; decide) dX8_tell_197 (fun H locs hW hL => ?_)
    rw [mo_putI ha.1 31 rfl] at hW
    refine lv_aload_n hx hb dX8_tell_198 rfl (lv_at hl 2 rfl) ?_
    refine hs_get hC hW hi_X8 rfl 31 (by decide) lk_X8_90 rfl mo_obj rfl dX8_tell_199 ?_
    refine lv_bipush (v := 6) hx hb dX8_tell_202 (by decide) ?_
    refine lv_iload hx hb dX8_tell_204 (lv_at hl 10 rfl) ?_
    refine hs_iast hC hW hL 0 (mo_int ha.1 31 rfl) (ha.2.2 31 rfl) rfl (by unfold vp_in; decide) dX8_tell_206 (fun H locs hW hL => ?_)
    rw [mo_putI ha.1 31 rfl] at hW
    refine lv_aload_n hx hb dX8_tell_207 rfl (lv_at hl 2 rfl) ?_
    refine lv_iload_n hx hb dX8_tell_208 rfl (lv_at hl 4 rfl) ?_
    refine hs_callV hC hs_Tok hW hL (ct_X8_match E _ _ _ _ _ _ _ ha _ N d S (mo_I.b (mo_J_fr hI ⟨rfl, rfl, rfl⟩ ⟨rfl, rfl, rfl, rfl, rfl, rfl⟩))) cw_X8_match lk_X8_180 im_X8_match se_X8_match (hs_recv hC hW mo_obj rfl) hl.1 (by decide) (Nat.le_of_ble_eq_true rfl) dX8_tell_209 (hs_ke (fun x9 H locs hJ hW hL => ?_))
    refine lv_istore (lv' := [(11, .int _), (10, .int _), (9, .int _), (0, .ref _), (1, .int _), (2, .int _), (3, .int _), (4, .int _), (5, .int _), (6, .int _), (7, .int _), (8, .int _)]) hx hb dX8_tell_212 hl (by decide) rfl (fun ls hl => ?_)
    refine lv_iload hx hb dX8_tell_214 (lv_at hl 0 rfl) ?_
    refine lv_if_lt (tgt := 254) hx hb dX8_tell_216 (by decide) (fun c216 => ?_) (fun c216 => ?_)
    · refine lv_aload_n hx hb dX8_tell_254 rfl (lv_at hl 3 rfl) ?_
      refine lv_aload_n hx hb dX8_tell_255 rfl (lv_at hl 3 rfl) ?_
      refine hs_get hC hW hi_X8 rfl 4 (by decide) lk_X8_107 rfl mo_obj rfl dX8_tell_256 ?_
      refine lv_sipush (v := 150) hx hb dX8_tell_259 (by decide) ?_
      refine lv_icmp_ne (tgt := 269) hx hb dX8_tell_262 (by decide) (fun c262 => ?_) (fun c262 => ?_)
      · refine lv_iconst (v := 0) hx hb dX8_tell_269 (by decide) ?_
        refine hs_put hC hW hL hi_X8 tyX8 tyX8_ok nmX8 rfl 0 (by decide) lk_X8_93 rfl rfl mo_obj ha.2.1 rfl rfl (Nat.le_of_ble_eq_true rfl) dX8_tell_270 (fun H locs hW hL => ?_)
        rw [mo_putS (mo_fs0 _)] at hW
        refine lv_aload_n hx hb dX8_tell_273 rfl (lv_at hl 3 rfl) ?_
        refine hs_get hC hW hi_X8 rfl 0 (by decide) lk_X8_93 rfl mo_obj rfl dX8_tell_274 ?_
        refine lv_if_le (tgt := 282) hx hb dX8_tell_277 (by decide) (fun c277 => ?_) (fun c277 => ?_)
        · have hN9 : N < 150 := by (have c9 : ¬ sc 4 = 150 := c262); rw [mo_150 hI.1 hI.2.1] at c9; have := hI.2.1; omega
          refine lv_aload_n hx hb dX8_tell_282 rfl (lv_at hl 3 rfl) ?_
          refine lv_iload_n hx hb dX8_tell_283 rfl (lv_at hl 4 rfl) ?_
          refine hs_callV hC hs_Tok hW hL (ct_X8_addTrade E _ _ _ _ _ _ _ ha _ _ _ g8 N d S (mo_J_fr hI ⟨rfl, rfl, rfl⟩ ⟨rfl, rfl, rfl, rfl, rfl, rfl⟩) hN9 (by first | exact ha16 | exact hb16) (by first | exact hb16 | exact ha16) (by omega) rfl rfl rfl) cw_X8_addTrade lk_X8_186 im_X8_addTrade se_X8_addTrade (hs_recv hC hW mo_obj rfl) hl.1 (by decide) (Nat.le_of_ble_eq_true rfl) dX8_tell_284 (mo_k0 (fun _ _ _ _ h => h.1) (fun sc3 mI3 mL3 H locs hq hW hL => ?_))
          obtain ⟨-, hm3, hI3⟩ := hq
          refine lv_aload_n hx hb dX8_tell_287 rfl (lv_at hl 3 rfl) ?_
          refine hs_get hC hW hi_X8 rfl 4 (by decide) lk_X8_107 rfl mo_obj rfl dX8_tell_288 ?_
          refine lv_iconst (v := 1) hx hb dX8_tell_291 (by decide) ?_
          refine lv_isub hx hb dX8_tell_292 ?_
          exact hs_iret hC hW hL hr hlocks (by decide) (by decide) dX8_tell_293 ⟨rfl, rfl, _, _, _, _, rfl, rfl, ⟨_, rfl⟩, by (first | exact rfl | exact hm3), ⟨N + 1, S, hI3⟩⟩
        exact absurd c277 (by first | decide | simp [mo_up])
      refine lv_iconst (v := 2) hx hb dX8_tell_265 (by decide) ?_
      refine lv_goto (tgt := 270) hx hb dX8_tell_266 (by decide) ?_
      refine hs_put hC hW hL hi_X8 tyX8 tyX8_ok nmX8 rfl 0 (by decide) lk_X8_93 rfl rfl mo_obj ha.2.1 rfl rfl (Nat.le_of_ble_eq_true rfl) dX8_tell_270 (fun H locs hW hL => ?_)
      rw [mo_putS (mo_fs0 _)] at hW
      refine lv_aload_n hx hb dX8_tell_273 rfl (lv_at hl 3 rfl) ?_
      refine hs_get hC hW hi_X8 rfl 0 (by decide) lk_X8_93 rfl mo_obj rfl dX8_tell_274 ?_
      refine lv_if_le (tgt := 282) hx hb dX8_tell_277 (by decide) (fun c277 => ?_) (fun c277 => ?_)
      · exact absurd c277 (by first | decide | simp [mo_up])
      refine lv_iconst (v := 0) hx hb dX8_tell_280 (by decide) ?_
      exact hs_iret hC hW hL hr hlocks (by decide) (by decide) dX8_tell_281 ⟨rfl, rfl, _, _, _, _, rfl, rfl, ⟨_, rfl⟩, by (first | exact rfl | exact hm3), ⟨N, S, mo_J_fr hI ⟨rfl, rfl, rfl⟩ ⟨rfl, rfl, rfl, rfl, rfl, rfl⟩⟩⟩
    obtain ⟨j, hj, rfl, hj0⟩ := hJ.resolve_left (fun z => c216 (by rw [z]; decide))
    have hj150 : j < 150 := Nat.lt_of_lt_of_le hj hI.2.1
    have hjn : vp_in (nI j) 150 := vp_in_nI hj150 (by decide)
    have hcl : (nI j).toNatClampNeg = j := nI_clamp (by omega)
    refine lv_aload_n hx hb dX8_tell_219 rfl (lv_at hl 3 rfl) ?_
    refine hs_get hC hW hi_X8 rfl 15 (by decide) lk_X8_48 rfl mo_obj rfl dX8_tell_220 ?_
    refine lv_iload hx hb dX8_tell_223 (lv_at hl 0 rfl) ?_
    refine lv_iconst (v := 1) hx hb dX8_tell_225 (by decide) ?_
    refine hs_iast hC hW hL 0 (mo_int ha.1 15 rfl) (ha.2.2 15 rfl) rfl hjn dX8_tell_226 (fun H locs hW hL => ?_)
    rw [mo_putI ha.1 15 rfl] at hW
    refine lv_aload_n hx hb dX8_tell_227 rfl (lv_at hl 3 rfl) ?_
    refine hs_get hC hW hi_X8 rfl 16 (by decide) lk_X8_51 rfl mo_obj rfl dX8_tell_228 ?_
    refine lv_iload hx hb dX8_tell_231 (lv_at hl 0 rfl) ?_
    refine lv_aload_n hx hb dX8_tell_233 rfl (lv_at hl 3 rfl) ?_
    refine lv_iload hx hb dX8_tell_234 (lv_at hl 10 rfl) ?_
    refine lv_iload hx hb dX8_tell_236 (lv_at hl 11 rfl) ?_
    refine hs_callV hC hs_Tok hW hL (ct_X8_businessDay E _ _ _ _ _ _ _ ha dy lg hdy (by omega)) cw_X8_businessDay lk_X8_183 im_X8_businessDay se_X8_businessDay (hs_recv hC hW mo_obj rfl) hl.1 (by decide) (Nat.le_of_ble_eq_true rfl) dX8_tell_238 (hs_ke (fun x8 H locs hJ2 hW hL => ?_))
    refine hs_iast hC hW hL 0 (mo_int ha.1 16 rfl) (ha.2.2 16 rfl) rfl hjn dX8_tell_241 (fun H locs hW hL => ?_)
    rw [mo_putI ha.1 16 rfl] at hW
    refine lv_aload_n hx hb dX8_tell_242 rfl (lv_at hl 3 rfl) ?_
    refine hs_get hC hW hi_X8 rfl 22 (by decide) lk_X8_69 rfl mo_obj rfl dX8_tell_243 ?_
    refine lv_iload hx hb dX8_tell_246 (lv_at hl 0 rfl) ?_
    refine lv_iload hx hb dX8_tell_248 (lv_at hl 0 rfl) ?_
    refine hs_iast hC hW hL 0 (mo_int ha.1 22 rfl) (ha.2.2 22 rfl) rfl hjn dX8_tell_250 (fun H locs hW hL => ?_)
    rw [mo_putI ha.1 22 rfl] at hW
    refine lv_iload hx hb dX8_tell_251 (lv_at hl 0 rfl) ?_
    exact hs_iret hC hW hL hr hlocks (by decide) (by decide) dX8_tell_253 ⟨rfl, rfl, _, _, _, _, rfl, rfl, ⟨_, rfl⟩, by (first | exact rfl | exact hm3), ⟨N, S, mo_J_pend hI hj hj0 ⟨rfl, rfl, rfl⟩ ⟨rfl, rfl, rfl, by rw [hcl]; rfl, rfl, by rw [hcl]; rfl⟩⟩⟩
  exact absurd c131 (by first | decide | simp [mo_up])
set_option maxHeartbeats 4000000 in
set_option maxRecDepth 100000 in
/-- Model.link -/
theorem ct_X8_link (E : hs_E) (mo : Nat) (ar : Nat → Nat) (ix : Nat → Option Nat) (sc : Nat → Int32) (mI : Nat → Nat → Int32) (mL : Nat → Nat → Int64) (F : hs_G) (ha : mo_ok E mo ar ix) (one oth : Int32) (N d S : Nat) (hI : mo_I sc mI N d S) : hM E yX8_link ({ frames := 2, cells := 0, slots := 0, locals := 70 }) [.ref mo, .int one, .int oth] (mo_W E mo ar ix sc mI mL F) (mo_P E mo ar ix F (fun v sc2 mI2 _ => (∃ x : Int32, v = some (.int x)) ∧ mI2 2 = mI 2 ∧ mo_J d sc2 mI2)) := by
  refine hs_ofW (cc := cX8_link) (maxL := 7) (ret := (some .int)) (by decide) co_X8_link ?_
  intro p e s m args below meth c hC hlocks hr hin0 hnoh hW
  obtain ⟨hx, hb, hml, hown, hts, -⟩ := id hC
  have hE := hW
  have hL : ∀ q ∈ ([] : List Loc), (eH E).size ≤ q.base := fun q hq => nomatch hq
  have hl := lv_entry ([.ref mo, .int one, .int oth] : List Value) (n := 7) (Nat.le_of_ble_eq_true rfl)
  rw [lg_entry_eq]
  generalize (lg_sl [.ref mo, .int one, .int oth] ++ List.replicate (7 - (lg_sl [.ref mo, .int one, .int oth]).length) Slot.unset).toArray = ls at hl ⊢
  have hl : lv_has ls 7 [(0, .ref mo), (1, .int one), (2, .int oth)] := hl
  refine lv_aload_n hx hb dX8_link_0 rfl (lv_at hl 0 rfl) ?_
  refine lv_aload_n hx hb dX8_link_1 rfl (lv_at hl 0 rfl) ?_
  refine lv_iload_n hx hb dX8_link_2 rfl (lv_at hl 1 rfl) ?_
  refine hs_callV hC hs_Tok hW hL (ct_X8_isTrade E _ _ _ _ _ _ _ ha _) cw_X8_isTrade lk_X8_190 im_X8_isTrade se_X8_isTrade (hs_recv hC hW mo_obj rfl) hl.1 (by decide) (Nat.le_of_ble_eq_true rfl) dX8_link_3 (hs_kp1 (fun H locs hW hL => ?_))
  refine lv_if_eq (tgt := 17) hx hb dX8_link_6 (by decide) (fun c6 => ?_) (fun c6 => ?_)
  · refine lv_iconst (v := 1) hx hb dX8_link_17 (by decide) ?_
    refine lv_goto (tgt := 46) hx hb dX8_link_18 (by decide) ?_
    refine hs_put hC hW hL hi_X8 tyX8 tyX8_ok nmX8 rfl 0 (by decide) lk_X8_93 rfl rfl mo_obj ha.2.1 rfl rfl (Nat.le_of_ble_eq_true rfl) dX8_link_46 (fun H locs hW hL => ?_)
    rw [mo_putS (mo_fs0 _)] at hW
    refine lv_aload_n hx hb dX8_link_49 rfl (lv_at hl 0 rfl) ?_
    refine hs_get hC hW hi_X8 rfl 0 (by decide) lk_X8_93 rfl mo_obj rfl dX8_link_50 ?_
    refine lv_if_le (tgt := 58) hx hb dX8_link_53 (by decide) (fun c53 => ?_) (fun c53 => ?_)
    · exact absurd c53 (by first | decide | simp [mo_up])
    refine lv_iconst (v := 0) hx hb dX8_link_56 (by decide) ?_
    exact hs_iret hC hW hL hr hlocks (by decide) (by decide) dX8_link_57 ⟨rfl, rfl, _, _, _, _, rfl, rfl, ⟨_, rfl⟩, rfl, ⟨N, S, mo_J_fr hI ⟨rfl, rfl, rfl⟩ ⟨rfl, rfl, rfl, rfl, rfl, rfl⟩⟩⟩
  refine lv_aload_n hx hb dX8_link_9 rfl (lv_at hl 0 rfl) ?_
  refine lv_iload_n hx hb dX8_link_10 rfl (lv_at hl 2 rfl) ?_
  refine hs_callV hC hs_Tok hW hL (ct_X8_isTrade E _ _ _ _ _ _ _ ha _) cw_X8_isTrade lk_X8_190 im_X8_isTrade se_X8_isTrade (hs_recv hC hW mo_obj rfl) hl.1 (by decide) (Nat.le_of_ble_eq_true rfl) dX8_link_11 (hs_kp1 (fun H locs hW hL => ?_))
  refine lv_if_ne (tgt := 21) hx hb dX8_link_14 (by decide) (fun c14 => ?_) (fun c14 => ?_)
  · obtain ⟨j, hj, rfl⟩ := mo_tr hI c6
    have hj150 : j < 150 := Nat.lt_of_lt_of_le hj hI.2.1
    have hjn : vp_in (nI j) 150 := vp_in_nI hj150 (by decide)
    have hjc : (nI j).toNatClampNeg = j := nI_clamp (by omega)
    obtain ⟨u, hu, rfl⟩ := mo_tr hI c14
    have hu150 : u < 150 := Nat.lt_of_lt_of_le hu hI.2.1
    have hun : vp_in (nI u) 150 := vp_in_nI hu150 (by decide)
    have huc : (nI u).toNatClampNeg = u := nI_clamp (by omega)
    refine lv_aload_n hx hb dX8_link_21 rfl (lv_at hl 0 rfl) ?_
    refine hs_get hC hW hi_X8 rfl 15 (by decide) lk_X8_48 rfl mo_obj rfl dX8_link_22 ?_
    refine lv_iload_n hx hb dX8_link_25 rfl (lv_at hl 1 rfl) ?_
    refine hs_iald hC hW 0 (mo_int ha.1 15 rfl) rfl hjn dX8_link_26 ?_
    refine lv_iconst (v := 1) hx hb dX8_link_27 (by decide) ?_
    refine lv_icmp_ne (tgt := 41) hx hb dX8_link_28 (by decide) (fun c28 => ?_) (fun c28 => ?_)
    · refine lv_iconst (v := 2) hx hb dX8_link_41 (by decide) ?_
      refine lv_goto (tgt := 46) hx hb dX8_link_42 (by decide) ?_
      refine hs_put hC hW hL hi_X8 tyX8 tyX8_ok nmX8 rfl 0 (by decide) lk_X8_93 rfl rfl mo_obj ha.2.1 rfl rfl (Nat.le_of_ble_eq_true rfl) dX8_link_46 (fun H locs hW hL => ?_)
      rw [mo_putS (mo_fs0 _)] at hW
      refine lv_aload_n hx hb dX8_link_49 rfl (lv_at hl 0 rfl) ?_
      refine hs_get hC hW hi_X8 rfl 0 (by decide) lk_X8_93 rfl mo_obj rfl dX8_link_50 ?_
      refine lv_if_le (tgt := 58) hx hb dX8_link_53 (by decide) (fun c53 => ?_) (fun c53 => ?_)
      · exact absurd c53 (by first | decide | simp [mo_up])
      refine lv_iconst (v := 0) hx hb dX8_link_56 (by decide) ?_
      exact hs_iret hC hW hL hr hlocks (by decide) (by decide) dX8_link_57 ⟨rfl, rfl, _, _, _, _, rfl, rfl, ⟨_, rfl⟩, rfl, ⟨N, S, mo_J_fr hI ⟨rfl, rfl, rfl⟩ ⟨rfl, rfl, rfl, rfl, rfl, rfl⟩⟩⟩
    refine lv_aload_n hx hb dX8_link_31 rfl (lv_at hl 0 rfl) ?_
    refine hs_get hC hW hi_X8 rfl 15 (by decide) lk_X8_48 rfl mo_obj rfl dX8_link_32 ?_
    refine lv_iload_n hx hb dX8_link_35 rfl (lv_at hl 2 rfl) ?_
    refine hs_iald hC hW 0 (mo_int ha.1 15 rfl) rfl hun dX8_link_36 ?_
    refine lv_iconst (v := 1) hx hb dX8_link_37 (by decide) ?_
    refine lv_icmp_eq (tgt := 45) hx hb dX8_link_38 (by decide) (fun c38 => ?_) (fun c38 => ?_)
    · refine lv_iconst (v := 0) hx hb dX8_link_45 (by decide) ?_
      refine hs_put hC hW hL hi_X8 tyX8 tyX8_ok nmX8 rfl 0 (by decide) lk_X8_93 rfl rfl mo_obj ha.2.1 rfl rfl (Nat.le_of_ble_eq_true rfl) dX8_link_46 (fun H locs hW hL => ?_)
      rw [mo_putS (mo_fs0 _)] at hW
      refine lv_aload_n hx hb dX8_link_49 rfl (lv_at hl 0 rfl) ?_
      refine hs_get hC hW hi_X8 rfl 0 (by decide) lk_X8_93 rfl mo_obj rfl dX8_link_50 ?_
      refine lv_if_le (tgt := 58) hx hb dX8_link_53 (by decide) (fun c53 => ?_) (fun c53 => ?_)
      · obtain ⟨ga, hga, ega⟩ := mo_pend hI hj (by rw [hjc] at c28; exact c28)
        obtain ⟨gb, hgb, egb⟩ := mo_pend hI hu (by rw [huc] at c38; exact c38)
        refine lv_aload_n hx hb dX8_link_58 rfl (lv_at hl 0 rfl) ?_
        refine hs_get hC hW hi_X8 rfl 22 (by decide) lk_X8_69 rfl mo_obj rfl dX8_link_59 ?_
        refine lv_iload_n hx hb dX8_link_62 rfl (lv_at hl 1 rfl) ?_
        refine hs_iald hC hW 0 (mo_int ha.1 22 rfl) rfl hjn dX8_link_63 ?_
        rw [hjc, ega]
        refine lv_istore_n (lv' := [(3, .int _), (0, .ref _), (1, .int _), (2, .int _)]) hx hb dX8_link_64 rfl hl (by decide) rfl (fun ls hl => ?_)
        refine lv_aload_n hx hb dX8_link_65 rfl (lv_at hl 1 rfl) ?_
        refine hs_get hC hW hi_X8 rfl 22 (by decide) lk_X8_69 rfl mo_obj rfl dX8_link_66 ?_
        refine lv_iload_n hx hb dX8_link_69 rfl (lv_at hl 3 rfl) ?_
        refine hs_iald hC hW 0 (mo_int ha.1 22 rfl) rfl hun dX8_link_70 ?_
        rw [huc, egb]
        refine lv_istore (lv' := [(4, .int _), (3, .int _), (0, .ref _), (1, .int _), (2, .int _)]) hx hb dX8_link_71 hl (by decide) rfl (fun ls hl => ?_)
        refine lv_iload_n hx hb dX8_link_73 rfl (lv_at hl 1 rfl) ?_
        refine lv_iload hx hb dX8_link_74 (lv_at hl 0 rfl) ?_
        refine lv_icmp_ne (tgt := 87) hx hb dX8_link_76 (by decide) (fun c76 => ?_) (fun c76 => ?_)
        · refine lv_aload_n hx hb dX8_link_87 rfl (lv_at hl 2 rfl) ?_
          refine lv_iload_n hx hb dX8_link_88 rfl (lv_at hl 1 rfl) ?_
          refine hs_callV hC hs_Tok hW hL (ct_X8_sizeOf E _ _ _ _ _ _ _ ha _ N d S (mo_I.b (mo_J_fr hI ⟨rfl, rfl, rfl⟩ ⟨rfl, rfl, rfl, rfl, rfl, rfl⟩))) cw_X8_sizeOf lk_X8_151 im_X8_sizeOf se_X8_sizeOf (hs_recv hC hW mo_obj rfl) hl.1 (by decide) (Nat.le_of_ble_eq_true rfl) dX8_link_89 (hs_ke (fun x H locs hJ hW hL => ?_))
          refine lv_aload_n hx hb dX8_link_92 rfl (lv_at hl 2 rfl) ?_
          refine lv_iload hx hb dX8_link_93 (lv_at hl 0 rfl) ?_
          refine hs_callV hC hs_Tok hW hL (ct_X8_sizeOf E _ _ _ _ _ _ _ ha _ N d S (mo_I.b (mo_J_fr hI ⟨rfl, rfl, rfl⟩ ⟨rfl, rfl, rfl, rfl, rfl, rfl⟩))) cw_X8_sizeOf lk_X8_151 im_X8_sizeOf se_X8_sizeOf (hs_recv hC hW mo_obj rfl) hl.1 (by decide) (Nat.le_of_ble_eq_true rfl) dX8_link_95 (hs_ke (fun x H locs hJ hW hL => ?_))
          refine lv_iadd hx hb dX8_link_98 ?_
          refine lv_istore (lv' := [(5, .int _), (4, .int _), (3, .int _), (0, .ref _), (1, .int _), (2, .int _)]) hx hb dX8_link_99 hl (by decide) rfl (fun ls hl => ?_)
          refine lv_aload_n hx hb dX8_link_101 rfl (lv_at hl 3 rfl) ?_
          refine lv_iload hx hb dX8_link_102 (lv_at hl 0 rfl) ?_
          refine lv_bipush (v := 6) hx hb dX8_link_104 (by decide) ?_
          refine lv_icmp_le (tgt := 113) hx hb dX8_link_106 (by decide) (fun c106 => ?_) (fun c106 => ?_)
          · refine lv_iconst (v := 0) hx hb dX8_link_113 (by decide) ?_
            refine hs_put hC hW hL hi_X8 tyX8 tyX8_ok nmX8 rfl 0 (by decide) lk_X8_93 rfl rfl mo_obj ha.2.1 rfl rfl (Nat.le_of_ble_eq_true rfl) dX8_link_114 (fun H locs hW hL => ?_)
            rw [mo_putS (mo_fs0 _)] at hW
            refine lv_aload_n hx hb dX8_link_117 rfl (lv_at hl 3 rfl) ?_
            refine hs_get hC hW hi_X8 rfl 0 (by decide) lk_X8_93 rfl mo_obj rfl dX8_link_118 ?_
            refine lv_if_le (tgt := 126) hx hb dX8_link_121 (by decide) (fun c121 => ?_) (fun c121 => ?_)
            · refine lv_iconst (v := 0) hx hb dX8_link_126 (by decide) ?_
              refine lv_istore (lv' := [(6, .int _), (5, .int _), (4, .int _), (3, .int _), (0, .ref _), (1, .int _), (2, .int _)]) hx hb dX8_link_127 hl (by decide) rfl (fun ls hl => ?_)
              refine hs_loop (σ := Nat × Int32 × (Nat → Int32) × (Nat → Nat → Int32)) (fun x => match x with | (i, al, sc1, mI1) => N - i) (fun x H locs ls => match x with | (i, al, sc1, mI1) => ((i ≤ N ∧ mI1 2 = mI 2) ∧ mo_I sc1 mI1 N d S) ∧ hs_W (eD E) vwCl (eH E) (mo_W E mo ar ix sc1 mI1 mL F) H ∧ (∀ q ∈ locs, (eH E).size ≤ q.base) ∧ lv_has ls 7 [(0, .ref mo), (3, .int (nI ga)), (4, .int (nI gb)), (5, .int al), (6, .int (nI i))]) ?_ (0, _, mo_up (mo_up sc 0 0) 0 0, mI) _ _ _ ⟨⟨⟨Nat.zero_le _, rfl⟩, mo_J_fr hI ⟨rfl, rfl, rfl⟩ ⟨rfl, rfl, rfl, rfl, rfl, rfl⟩⟩, hW, hL, (lv_sub hl [4, 3, 2, 1, 0] rfl)⟩
              rintro ⟨i, al, sc1, mI1⟩ H locs ls ⟨hinv, hW, hL, hl⟩ ih
              replace hW : hs_W (eD E) vwCl (eH E) (mo_W E mo ar ix sc1 mI1 mL F) H := hW
              replace hl : lv_has ls 7 [(0, .ref mo), (3, .int (nI ga)), (4, .int (nI gb)), (5, .int al), (6, .int (nI i))] := hl
              refine lv_iload hx hb dX8_link_129 (lv_at hl 4 rfl) ?_
              refine lv_aload_n hx hb dX8_link_131 rfl (lv_at hl 0 rfl) ?_
              refine hs_get hC hW hi_X8 rfl 4 (by decide) lk_X8_107 rfl mo_obj rfl dX8_link_132 ?_
              refine lv_icmp_ge (tgt := 174) hx hb dX8_link_135 (by decide) (fun c135 => ?_) (fun c135 => ?_)
              · refine lv_iload hx hb dX8_link_174 (lv_at hl 3 rfl) ?_
                exact hs_iret hC hW hL hr hlocks (by decide) (by decide) dX8_link_176 ⟨rfl, rfl, _, _, _, _, rfl, rfl, ⟨_, rfl⟩, hinv.1.2, ⟨N, S, hinv.2⟩⟩
              have hlt : i < N := hs_ltN hinv.2.1 (by have := hI.2.1; omega) (by have := hI.2.1; omega) c135
              have hi150 : i < 150 := Nat.lt_of_lt_of_le hlt hI.2.1
              have hin : vp_in (nI i) 150 := vp_in_nI hi150 (by decide)
              have hcl : (nI i).toNatClampNeg = i := nI_clamp (by omega)
              refine lv_aload_n hx hb dX8_link_138 rfl (lv_at hl 0 rfl) ?_
              refine hs_get hC hW hi_X8 rfl 22 (by decide) lk_X8_69 rfl mo_obj rfl dX8_link_139 ?_
              refine lv_iload hx hb dX8_link_142 (lv_at hl 4 rfl) ?_
              refine lv_aload_n hx hb dX8_link_144 rfl (lv_at hl 0 rfl) ?_
              refine hs_get hC hW hi_X8 rfl 22 (by decide) lk_X8_69 rfl mo_obj rfl dX8_link_145 ?_
              refine lv_iload hx hb dX8_link_148 (lv_at hl 4 rfl) ?_
              refine hs_iald hC hW 0 (mo_int ha.1 22 rfl) rfl hin dX8_link_150 ?_
              refine lv_iload hx hb dX8_link_151 (lv_at hl 2 rfl) ?_
              refine lv_icmp_ne (tgt := 160) hx hb dX8_link_153 (by decide) (fun c153 => ?_) (fun c153 => ?_)
              · refine lv_aload_n hx hb dX8_link_160 rfl (lv_at hl 0 rfl) ?_
                refine hs_get hC hW hi_X8 rfl 22 (by decide) lk_X8_69 rfl mo_obj rfl dX8_link_161 ?_
                refine lv_iload hx hb dX8_link_164 (lv_at hl 4 rfl) ?_
                refine hs_iald hC hW 0 (mo_int ha.1 22 rfl) rfl hin dX8_link_166 ?_
                refine hs_iast hC hW hL 0 (mo_int ha.1 22 rfl) (ha.2.2 22 rfl) rfl hin dX8_link_167 (fun H locs hW hL => ?_)
                rw [mo_putI ha.1 22 rfl] at hW
                refine lv_iinc (lv' := [(6, .int _), (0, .ref _), (3, .int _), (4, .int _), (5, .int _)]) hx hb dX8_link_168 hl (k := 4) rfl rfl (by decide) rfl (fun ls hl => ?_)
                refine lv_goto (tgt := 129) hx hb dX8_link_171 (by decide) ?_
                rw [hs_inc] at hl
                rw [hcl] at hW
                exact ih (i + 1, al, sc1, _) _ _ _ (by show N - (i + 1) < N - i; omega) ⟨⟨⟨hlt, by exact hinv.1.2⟩, mo_I_grp hinv.2 (by first | (refine Or.inr ⟨?_, ga, hga, rfl⟩; rw [hcl] at c153; exact mo_grp_p hinv.2 hlt hgb c153) | exact Or.inl rfl)⟩, hW, hL, (lv_sub hl [1, 2, 3, 4, 0] rfl)⟩
              refine lv_iload_n hx hb dX8_link_156 rfl (lv_at hl 1 rfl) ?_
              refine lv_goto (tgt := 167) hx hb dX8_link_157 (by decide) ?_
              refine hs_iast hC hW hL 0 (mo_int ha.1 22 rfl) (ha.2.2 22 rfl) rfl hin dX8_link_167 (fun H locs hW hL => ?_)
              rw [mo_putI ha.1 22 rfl] at hW
              refine lv_iinc (lv' := [(6, .int _), (0, .ref _), (3, .int _), (4, .int _), (5, .int _)]) hx hb dX8_link_168 hl (k := 4) rfl rfl (by decide) rfl (fun ls hl => ?_)
              refine lv_goto (tgt := 129) hx hb dX8_link_171 (by decide) ?_
              rw [hs_inc] at hl
              rw [hcl] at hW
              exact ih (i + 1, al, sc1, _) _ _ _ (by show N - (i + 1) < N - i; omega) ⟨⟨⟨hlt, by exact hinv.1.2⟩, mo_I_grp hinv.2 (by first | (refine Or.inr ⟨?_, ga, hga, rfl⟩; rw [hcl] at c153; exact mo_grp_p hinv.2 hlt hgb c153) | exact Or.inl rfl)⟩, hW, hL, (lv_sub hl [1, 2, 3, 4, 0] rfl)⟩
            exact absurd c121 (by first | decide | simp [mo_up])
          refine lv_iconst (v := 2) hx hb dX8_link_109 (by decide) ?_
          refine lv_goto (tgt := 114) hx hb dX8_link_110 (by decide) ?_
          refine hs_put hC hW hL hi_X8 tyX8 tyX8_ok nmX8 rfl 0 (by decide) lk_X8_93 rfl rfl mo_obj ha.2.1 rfl rfl (Nat.le_of_ble_eq_true rfl) dX8_link_114 (fun H locs hW hL => ?_)
          rw [mo_putS (mo_fs0 _)] at hW
          refine lv_aload_n hx hb dX8_link_117 rfl (lv_at hl 3 rfl) ?_
          refine hs_get hC hW hi_X8 rfl 0 (by decide) lk_X8_93 rfl mo_obj rfl dX8_link_118 ?_
          refine lv_if_le (tgt := 126) hx hb dX8_link_121 (by decide) (fun c121 => ?_) (fun c121 => ?_)
          · exact absurd c121 (by first | decide | simp [mo_up])
          refine lv_iconst (v := 0) hx hb dX8_link_124 (by decide) ?_
          exact hs_iret hC hW hL hr hlocks (by decide) (by decide) dX8_link_125 ⟨rfl, rfl, _, _, _, _, rfl, rfl, ⟨_, rfl⟩, rfl, ⟨N, S, mo_J_fr hI ⟨rfl, rfl, rfl⟩ ⟨rfl, rfl, rfl, rfl, rfl, rfl⟩⟩⟩
        refine lv_aload_n hx hb dX8_link_79 rfl (lv_at hl 2 rfl) ?_
        refine lv_iload_n hx hb dX8_link_80 rfl (lv_at hl 1 rfl) ?_
        refine hs_callV hC hs_Tok hW hL (ct_X8_sizeOf E _ _ _ _ _ _ _ ha _ N d S (mo_I.b (mo_J_fr hI ⟨rfl, rfl, rfl⟩ ⟨rfl, rfl, rfl, rfl, rfl, rfl⟩))) cw_X8_sizeOf lk_X8_151 im_X8_sizeOf se_X8_sizeOf (hs_recv hC hW mo_obj rfl) hl.1 (by decide) (Nat.le_of_ble_eq_true rfl) dX8_link_81 (hs_ke (fun x H locs hJ hW hL => ?_))
        refine lv_goto (tgt := 99) hx hb dX8_link_84 (by decide) ?_
        refine lv_istore (lv' := [(5, .int _), (4, .int _), (3, .int _), (0, .ref _), (1, .int _), (2, .int _)]) hx hb dX8_link_99 hl (by decide) rfl (fun ls hl => ?_)
        refine lv_aload_n hx hb dX8_link_101 rfl (lv_at hl 3 rfl) ?_
        refine lv_iload hx hb dX8_link_102 (lv_at hl 0 rfl) ?_
        refine lv_bipush (v := 6) hx hb dX8_link_104 (by decide) ?_
        refine lv_icmp_le (tgt := 113) hx hb dX8_link_106 (by decide) (fun c106 => ?_) (fun c106 => ?_)
        · refine lv_iconst (v := 0) hx hb dX8_link_113 (by decide) ?_
          refine hs_put hC hW hL hi_X8 tyX8 tyX8_ok nmX8 rfl 0 (by decide) lk_X8_93 rfl rfl mo_obj ha.2.1 rfl rfl (Nat.le_of_ble_eq_true rfl) dX8_link_114 (fun H locs hW hL => ?_)
          rw [mo_putS (mo_fs0 _)] at hW
          refine lv_aload_n hx hb dX8_link_117 rfl (lv_at hl 3 rfl) ?_
          refine hs_get hC hW hi_X8 rfl 0 (by decide) lk_X8_93 rfl mo_obj rfl dX8_link_118 ?_
          refine lv_if_le (tgt := 126) hx hb dX8_link_121 (by decide) (fun c121 => ?_) (fun c121 => ?_)
          · refine lv_iconst (v := 0) hx hb dX8_link_126 (by decide) ?_
            refine lv_istore (lv' := [(6, .int _), (5, .int _), (4, .int _), (3, .int _), (0, .ref _), (1, .int _), (2, .int _)]) hx hb dX8_link_127 hl (by decide) rfl (fun ls hl => ?_)
            refine hs_loop (σ := Nat × Int32 × (Nat → Int32) × (Nat → Nat → Int32)) (fun x => match x with | (i, al, sc1, mI1) => N - i) (fun x H locs ls => match x with | (i, al, sc1, mI1) => ((i ≤ N ∧ mI1 2 = mI 2) ∧ mo_I sc1 mI1 N d S) ∧ hs_W (eD E) vwCl (eH E) (mo_W E mo ar ix sc1 mI1 mL F) H ∧ (∀ q ∈ locs, (eH E).size ≤ q.base) ∧ lv_has ls 7 [(0, .ref mo), (3, .int (nI ga)), (4, .int (nI gb)), (5, .int al), (6, .int (nI i))]) ?_ (0, _, mo_up (mo_up sc 0 0) 0 0, mI) _ _ _ ⟨⟨⟨Nat.zero_le _, rfl⟩, mo_J_fr hI ⟨rfl, rfl, rfl⟩ ⟨rfl, rfl, rfl, rfl, rfl, rfl⟩⟩, hW, hL, (lv_sub hl [4, 3, 2, 1, 0] rfl)⟩
            rintro ⟨i, al, sc1, mI1⟩ H locs ls ⟨hinv, hW, hL, hl⟩ ih
            replace hW : hs_W (eD E) vwCl (eH E) (mo_W E mo ar ix sc1 mI1 mL F) H := hW
            replace hl : lv_has ls 7 [(0, .ref mo), (3, .int (nI ga)), (4, .int (nI gb)), (5, .int al), (6, .int (nI i))] := hl
            refine lv_iload hx hb dX8_link_129 (lv_at hl 4 rfl) ?_
            refine lv_aload_n hx hb dX8_link_131 rfl (lv_at hl 0 rfl) ?_
            refine hs_get hC hW hi_X8 rfl 4 (by decide) lk_X8_107 rfl mo_obj rfl dX8_link_132 ?_
            refine lv_icmp_ge (tgt := 174) hx hb dX8_link_135 (by decide) (fun c135 => ?_) (fun c135 => ?_)
            · refine lv_iload hx hb dX8_link_174 (lv_at hl 3 rfl) ?_
              exact hs_iret hC hW hL hr hlocks (by decide) (by decide) dX8_link_176 ⟨rfl, rfl, _, _, _, _, rfl, rfl, ⟨_, rfl⟩, hinv.1.2, ⟨N, S, hinv.2⟩⟩
            have hlt : i < N := hs_ltN hinv.2.1 (by have := hI.2.1; omega) (by have := hI.2.1; omega) c135
            have hi150 : i < 150 := Nat.lt_of_lt_of_le hlt hI.2.1
            have hin : vp_in (nI i) 150 := vp_in_nI hi150 (by decide)
            have hcl : (nI i).toNatClampNeg = i := nI_clamp (by omega)
            refine lv_aload_n hx hb dX8_link_138 rfl (lv_at hl 0 rfl) ?_
            refine hs_get hC hW hi_X8 rfl 22 (by decide) lk_X8_69 rfl mo_obj rfl dX8_link_139 ?_
            refine lv_iload hx hb dX8_link_142 (lv_at hl 4 rfl) ?_
            refine lv_aload_n hx hb dX8_link_144 rfl (lv_at hl 0 rfl) ?_
            refine hs_get hC hW hi_X8 rfl 22 (by decide) lk_X8_69 rfl mo_obj rfl dX8_link_145 ?_
            refine lv_iload hx hb dX8_link_148 (lv_at hl 4 rfl) ?_
            refine hs_iald hC hW 0 (mo_int ha.1 22 rfl) rfl hin dX8_link_150 ?_
            refine lv_iload hx hb dX8_link_151 (lv_at hl 2 rfl) ?_
            refine lv_icmp_ne (tgt := 160) hx hb dX8_link_153 (by decide) (fun c153 => ?_) (fun c153 => ?_)
            · refine lv_aload_n hx hb dX8_link_160 rfl (lv_at hl 0 rfl) ?_
              refine hs_get hC hW hi_X8 rfl 22 (by decide) lk_X8_69 rfl mo_obj rfl dX8_link_161 ?_
              refine lv_iload hx hb dX8_link_164 (lv_at hl 4 rfl) ?_
              refine hs_iald hC hW 0 (mo_int ha.1 22 rfl) rfl hin dX8_link_166 ?_
              refine hs_iast hC hW hL 0 (mo_int ha.1 22 rfl) (ha.2.2 22 rfl) rfl hin dX8_link_167 (fun H locs hW hL => ?_)
              rw [mo_putI ha.1 22 rfl] at hW
              refine lv_iinc (lv' := [(6, .int _), (0, .ref _), (3, .int _), (4, .int _), (5, .int _)]) hx hb dX8_link_168 hl (k := 4) rfl rfl (by decide) rfl (fun ls hl => ?_)
              refine lv_goto (tgt := 129) hx hb dX8_link_171 (by decide) ?_
              rw [hs_inc] at hl
              rw [hcl] at hW
              exact ih (i + 1, al, sc1, _) _ _ _ (by show N - (i + 1) < N - i; omega) ⟨⟨⟨hlt, by exact hinv.1.2⟩, mo_I_grp hinv.2 (by first | (refine Or.inr ⟨?_, ga, hga, rfl⟩; rw [hcl] at c153; exact mo_grp_p hinv.2 hlt hgb c153) | exact Or.inl rfl)⟩, hW, hL, (lv_sub hl [1, 2, 3, 4, 0] rfl)⟩
            refine lv_iload_n hx hb dX8_link_156 rfl (lv_at hl 1 rfl) ?_
            refine lv_goto (tgt := 167) hx hb dX8_link_157 (by decide) ?_
            refine hs_iast hC hW hL 0 (mo_int ha.1 22 rfl) (ha.2.2 22 rfl) rfl hin dX8_link_167 (fun H locs hW hL => ?_)
            rw [mo_putI ha.1 22 rfl] at hW
            refine lv_iinc (lv' := [(6, .int _), (0, .ref _), (3, .int _), (4, .int _), (5, .int _)]) hx hb dX8_link_168 hl (k := 4) rfl rfl (by decide) rfl (fun ls hl => ?_)
            refine lv_goto (tgt := 129) hx hb dX8_link_171 (by decide) ?_
            rw [hs_inc] at hl
            rw [hcl] at hW
            exact ih (i + 1, al, sc1, _) _ _ _ (by show N - (i + 1) < N - i; omega) ⟨⟨⟨hlt, by exact hinv.1.2⟩, mo_I_grp hinv.2 (by first | (refine Or.inr ⟨?_, ga, hga, rfl⟩; rw [hcl] at c153; exact mo_grp_p hinv.2 hlt hgb c153) | exact Or.inl rfl)⟩, hW, hL, (lv_sub hl [1, 2, 3, 4, 0] rfl)⟩
          exact absurd c121 (by first | decide | simp [mo_up])
        refine lv_iconst (v := 2) hx hb dX8_link_109 (by decide) ?_
        refine lv_goto (tgt := 114) hx hb dX8_link_110 (by decide) ?_
        refine hs_put hC hW hL hi_X8 tyX8 tyX8_ok nmX8 rfl 0 (by decide) lk_X8_93 rfl rfl mo_obj ha.2.1 rfl rfl (Nat.le_of_ble_eq_true rfl) dX8_link_114 (fun H locs hW hL => ?_)
        rw [mo_putS (mo_fs0 _)] at hW
        refine lv_aload_n hx hb dX8_link_117 rfl (lv_at hl 3 rfl) ?_
        refine hs_get hC hW hi_X8 rfl 0 (by decide) lk_X8_93 rfl mo_obj rfl dX8_link_118 ?_
        refine lv_if_le (tgt := 126) hx hb dX8_link_121 (by decide) (fun c121 => ?_) (fun c121 => ?_)
        · exact absurd c121 (by first | decide | simp [mo_up])
        refine lv_iconst (v := 0) hx hb dX8_link_124 (by decide) ?_
        exact hs_iret hC hW hL hr hlocks (by decide) (by decide) dX8_link_125 ⟨rfl, rfl, _, _, _, _, rfl, rfl, ⟨_, rfl⟩, rfl, ⟨N, S, mo_J_fr hI ⟨rfl, rfl, rfl⟩ ⟨rfl, rfl, rfl, rfl, rfl, rfl⟩⟩⟩
      exact absurd c53 (by first | decide | simp [mo_up])
    refine lv_iconst (v := 2) hx hb dX8_link_41 (by decide) ?_
    refine lv_goto (tgt := 46) hx hb dX8_link_42 (by decide) ?_
    refine hs_put hC hW hL hi_X8 tyX8 tyX8_ok nmX8 rfl 0 (by decide) lk_X8_93 rfl rfl mo_obj ha.2.1 rfl rfl (Nat.le_of_ble_eq_true rfl) dX8_link_46 (fun H locs hW hL => ?_)
    rw [mo_putS (mo_fs0 _)] at hW
    refine lv_aload_n hx hb dX8_link_49 rfl (lv_at hl 0 rfl) ?_
    refine hs_get hC hW hi_X8 rfl 0 (by decide) lk_X8_93 rfl mo_obj rfl dX8_link_50 ?_
    refine lv_if_le (tgt := 58) hx hb dX8_link_53 (by decide) (fun c53 => ?_) (fun c53 => ?_)
    · exact absurd c53 (by first | decide | simp [mo_up])
    refine lv_iconst (v := 0) hx hb dX8_link_56 (by decide) ?_
    exact hs_iret hC hW hL hr hlocks (by decide) (by decide) dX8_link_57 ⟨rfl, rfl, _, _, _, _, rfl, rfl, ⟨_, rfl⟩, rfl, ⟨N, S, mo_J_fr hI ⟨rfl, rfl, rfl⟩ ⟨rfl, rfl, rfl, rfl, rfl, rfl⟩⟩⟩
  refine lv_iconst (v := 1) hx hb dX8_link_17 (by decide) ?_
  refine lv_goto (tgt := 46) hx hb dX8_link_18 (by decide) ?_
  refine hs_put hC hW hL hi_X8 tyX8 tyX8_ok nmX8 rfl 0 (by decide) lk_X8_93 rfl rfl mo_obj ha.2.1 rfl rfl (Nat.le_of_ble_eq_true rfl) dX8_link_46 (fun H locs hW hL => ?_)
  rw [mo_putS (mo_fs0 _)] at hW
  refine lv_aload_n hx hb dX8_link_49 rfl (lv_at hl 0 rfl) ?_
  refine hs_get hC hW hi_X8 rfl 0 (by decide) lk_X8_93 rfl mo_obj rfl dX8_link_50 ?_
  refine lv_if_le (tgt := 58) hx hb dX8_link_53 (by decide) (fun c53 => ?_) (fun c53 => ?_)
  · exact absurd c53 (by first | decide | simp [mo_up])
  refine lv_iconst (v := 0) hx hb dX8_link_56 (by decide) ?_
  exact hs_iret hC hW hL hr hlocks (by decide) (by decide) dX8_link_57 ⟨rfl, rfl, _, _, _, _, rfl, rfl, ⟨_, rfl⟩, rfl, ⟨N, S, mo_J_fr hI ⟨rfl, rfl, rfl⟩ ⟨rfl, rfl, rfl, rfl, rfl, rfl⟩⟩⟩
