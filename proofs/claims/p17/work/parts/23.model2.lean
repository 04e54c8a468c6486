/-! the reference: more methods without loops -/
def mo_Ri (d : Nat) (mI : Nat → Nat → Int32) : Option Value → (Nat → Int32) → (Nat → Nat → Int32) → (Nat → Nat → Int64) → Prop := fun v sc2 mI2 _ => (∃ x : Int32, v = some (.int x)) ∧ mo_J d sc2 mI2 ∧ mI2 2 = mI 2
theorem mo_day_in {sc : Nat → Int32} {mI : Nat → Nat → Int32} {N d S : Nat} {day : Int32} (h : mo_I sc mI N d S) (g : (sc 1 + 1).toInt64 ≤ day.toInt64 ∧ day.toInt64 ≤ 20000) : vp_in day 20001 := by
  obtain ⟨-, -, h1, h2, -⟩ := h
  rw [h1, nI_1] at g
  simp only [Int64.le_iff_toInt_le, hs_64] at g
  rw [nI_toInt (by omega)] at g
  have e : Int64.toInt 20000 = 20000 := by decide
  rw [e] at g
  rw [vp_in_iff]
  omega
set_option maxHeartbeats 4000000 in
set_option maxRecDepth 100000 in
/-- Model.astray -/
theorem ct_X8_astray (E : hs_E) (mo : Nat) (ar : Nat → Nat) (ix : Nat → Option Nat) (sc : Nat → Int32) (mI : Nat → Nat → Int32) (mL : Nat → Nat → Int64) (F : hs_G) (ha : mo_ok E mo ar ix) (N d S : Nat) (hI : mo_I sc mI N d S) : hM E yX8_astray ({ frames := 0, cells := 0, slots := 0, locals := 0 }) [.ref mo] (mo_W E mo ar ix sc mI mL F) (mo_P E mo ar ix F (fun v sc2 mI2 mL2 => v = some (.int 0) ∧ mo_J d sc2 mI2 ∧ mI2 2 = mI 2)) := by
  refine hs_ofW (cc := cX8_astray) (maxL := 1) (ret := (some .int)) (by decide) co_X8_astray ?_
  intro p e s m args below meth c hC hlocks hr hin0 hnoh hW
  obtain ⟨hx, hb, hml, hown, hts, -⟩ := id hC
  have hE := hW
  have hL : ∀ q ∈ ([] : List Loc), (eH E).size ≤ q.base := fun q hq => nomatch hq
  have hl := lv_entry ([.ref mo] : List Value) (n := 1) (Nat.le_of_ble_eq_true rfl)
  rw [lg_entry_eq]
  generalize (lg_sl [.ref mo] ++ List.replicate (1 - (lg_sl [.ref mo]).length) Slot.unset).toArray = ls at hl ⊢
  have hl : lv_has ls 1 [(0, .ref mo)] := hl
  refine lv_aload_n hx hb dX8_astray_0 rfl (lv_at hl 0 rfl) ?_
  refine lv_iconst (v := 0) hx hb dX8_astray_1 (by decide) ?_
  refine hs_put hC hW hL hi_X8 tyX8 tyX8_ok nmX8 rfl 0 (by decide) lk_X8_93 rfl rfl mo_obj ha.2.1 rfl rfl (Nat.le_of_ble_eq_true rfl) dX8_astray_2 (fun H locs hW hL => ?_)
  rw [mo_putS (mo_fs0 _)] at hW
  refine lv_iconst (v := 0) hx hb dX8_astray_5 (by decide) ?_
  exact hs_iret hC hW hL hr hlocks (by decide) (by decide) dX8_astray_6 ⟨rfl, rfl, _, _, _, _, rfl, rfl, rfl, ⟨_, _, (mo_J_fr hI (by simp [mo_up]) (by simp [mo_up]))⟩, by simp [mo_up]⟩
set_option maxHeartbeats 4000000 in
set_option maxRecDepth 100000 in
/-- Model.hold -/
theorem ct_X8_hold (E : hs_E) (mo : Nat) (ar : Nat → Nat) (ix : Nat → Option Nat) (sc : Nat → Int32) (mI : Nat → Nat → Int32) (mL : Nat → Nat → Int64) (F : hs_G) (ha : mo_ok E mo ar ix) (t pa on : Int32) (N d S : Nat) (hI : mo_I sc mI N d S) : hM E yX8_hold ({ frames := 2, cells := 0, slots := 0, locals := 70 }) [.ref mo, .int t, .int pa, .int on] (mo_W E mo ar ix sc mI mL F) (mo_P E mo ar ix F (mo_Ri d mI)) := by
  refine hs_ofW (cc := cX8_hold) (maxL := 6) (ret := (some .boolean)) (by decide) co_X8_hold ?_
  intro p e s m args below meth c hC hlocks hr hin0 hnoh hW
  obtain ⟨hx, hb, hml, hown, hts, -⟩ := id hC
  have hE := hW
  have hL : ∀ q ∈ ([] : List Loc), (eH E).size ≤ q.base := fun q hq => nomatch hq
  have hl := lv_entry ([.ref mo, .int t, .int pa, .int on] : List Value) (n := 6) (Nat.le_of_ble_eq_true rfl)
  rw [lg_entry_eq]
  generalize (lg_sl [.ref mo, .int t, .int pa, .int on] ++ List.replicate (6 - (lg_sl [.ref mo, .int t, .int pa, .int on]).length) Slot.unset).toArray = ls at hl ⊢
  have hl : lv_has ls 6 [(0, .ref mo), (1, .int t), (2, .int pa), (3, .int on)] := hl
  refine lv_aload_n hx hb dX8_hold_0 rfl (lv_at hl 0 rfl) ?_
  refine lv_aload_n hx hb dX8_hold_1 rfl (lv_at hl 0 rfl) ?_
  refine lv_iload_n hx hb dX8_hold_2 rfl (lv_at hl 1 rfl) ?_
  refine hs_callV hC hs_Tok hW hL (ct_X8_isTrade E _ _ _ _ _ _ _ ha _) cw_X8_isTrade lk_X8_190 im_X8_isTrade se_X8_isTrade (hs_recv hC hW mo_obj rfl) hl.1 (by decide) (Nat.le_of_ble_eq_true rfl) dX8_hold_3 (hs_kp1 (fun H locs hW hL => ?_))
  refine lv_if_ne (tgt := 13) hx hb dX8_hold_6 (by decide) (fun c6 => ?_) (fun c6 => ?_)
  · obtain ⟨j, hj, rfl⟩ := mo_tr hI c6
    have hj150 : j < 150 := Nat.lt_of_lt_of_le hj hI.2.1
    have hjn : vp_in (nI j) 150 := vp_in_nI hj150 (by decide)
    have hcl : (nI j).toNatClampNeg = j := nI_clamp (by omega)
    refine lv_aload_n hx hb dX8_hold_13 rfl (lv_at hl 0 rfl) ?_
    refine lv_iload_n hx hb dX8_hold_14 rfl (lv_at hl 1 rfl) ?_
    refine lv_iload_n hx hb dX8_hold_15 rfl (lv_at hl 2 rfl) ?_
    refine hs_callV hC hs_Tok hW hL (ct_X8_sideOf E _ _ _ _ _ _ _ ha _ _ hjn) cw_X8_sideOf lk_X8_193 im_X8_sideOf se_X8_sideOf (hs_recv hC hW mo_obj rfl) hl.1 (by decide) (Nat.le_of_ble_eq_true rfl) dX8_hold_16 (hs_kp1 (fun H locs hW hL => ?_))
    refine lv_if_ne (tgt := 26) hx hb dX8_hold_19 (by decide) (fun c19 => ?_) (fun c19 => ?_)
    · refine lv_aload_n hx hb dX8_hold_26 rfl (lv_at hl 0 rfl) ?_
      refine hs_get hC hW hi_X8 rfl 15 (by decide) lk_X8_48 rfl mo_obj rfl dX8_hold_27 ?_
      refine lv_iload_n hx hb dX8_hold_30 rfl (lv_at hl 1 rfl) ?_
      refine hs_iald hC hW 0 (mo_int ha.1 15 rfl) rfl hjn dX8_hold_31 ?_
      refine hs_callS hC hs_Tok hW hL (ct_X8_isOver E _ _) cw_X8_isOver lk_X8_196 st_X8_isOver hl.1 (by decide) (Nat.le_of_ble_eq_true rfl) dX8_hold_32 (hs_kp1 (fun H locs hW hL => ?_))
      refine lv_if_eq (tgt := 42) hx hb dX8_hold_35 (by decide) (fun c35 => ?_) (fun c35 => ?_)
      · refine lv_iconst (v := 0) hx hb dX8_hold_42 (by decide) ?_
        refine hs_put hC hW hL hi_X8 tyX8 tyX8_ok nmX8 rfl 0 (by decide) lk_X8_93 rfl rfl mo_obj ha.2.1 rfl rfl (Nat.le_of_ble_eq_true rfl) dX8_hold_43 (fun H locs hW hL => ?_)
        rw [mo_putS (mo_fs0 _)] at hW
        refine lv_aload_n hx hb dX8_hold_46 rfl (lv_at hl 0 rfl) ?_
        refine hs_get hC hW hi_X8 rfl 0 (by decide) lk_X8_93 rfl mo_obj rfl dX8_hold_47 ?_
        refine lv_if_le (tgt := 55) hx hb dX8_hold_50 (by decide) (fun c50 => ?_) (fun c50 => ?_)
        · refine lv_aload_n hx hb dX8_hold_55 rfl (lv_at hl 0 rfl) ?_
          refine hs_get hC hW hi_X8 rfl 17 (by decide) lk_X8_54 rfl mo_obj rfl dX8_hold_56 ?_
          refine lv_iload_n hx hb dX8_hold_59 rfl (lv_at hl 1 rfl) ?_
          refine hs_iald hC hW 0 (mo_int ha.1 17 rfl) rfl hjn dX8_hold_60 ?_
          refine lv_istore (lv' := [(4, .int _), (0, .ref _), (1, .int _), (2, .int _), (3, .int _)]) hx hb dX8_hold_61 hl (by decide) rfl (fun ls hl => ?_)
          refine lv_aload_n hx hb dX8_hold_63 rfl (lv_at hl 1 rfl) ?_
          refine lv_iload_n hx hb dX8_hold_64 rfl (lv_at hl 2 rfl) ?_
          refine lv_iload_n hx hb dX8_hold_65 rfl (lv_at hl 3 rfl) ?_
          refine hs_callV hC hs_Tok hW hL (ct_X8_sideOf E _ _ _ _ _ _ _ ha _ _ hjn) cw_X8_sideOf lk_X8_193 im_X8_sideOf se_X8_sideOf (hs_recv hC hW mo_obj rfl) hl.1 (by decide) (Nat.le_of_ble_eq_true rfl) dX8_hold_66 (hs_kp1 (fun H locs hW hL => ?_))
          refine lv_istore (lv' := [(5, .int _), (4, .int _), (0, .ref _), (1, .int _), (2, .int _), (3, .int _)]) hx hb dX8_hold_69 hl (by decide) rfl (fun ls hl => ?_)
          refine lv_aload_n hx hb dX8_hold_71 rfl (lv_at hl 2 rfl) ?_
          refine hs_get hC hW hi_X8 rfl 17 (by decide) lk_X8_54 rfl mo_obj rfl dX8_hold_72 ?_
          refine lv_iload_n hx hb dX8_hold_75 rfl (lv_at hl 3 rfl) ?_
          refine lv_iload_n hx hb dX8_hold_76 rfl (lv_at hl 5 rfl) ?_
          refine lv_if_eq (tgt := 88) hx hb dX8_hold_77 (by decide) (fun c77 => ?_) (fun c77 => ?_)
          · refine lv_iload hx hb dX8_hold_88 (lv_at hl 1 rfl) ?_
            refine lv_iconst (v := 3) hx hb dX8_hold_90 (by decide) ?_
            refine lv_iload hx hb dX8_hold_91 (lv_at hl 0 rfl) ?_
            refine lv_isub hx hb dX8_hold_93 ?_
            refine lv_iand hx hb dX8_hold_94 ?_
            refine hs_iast hC hW hL 0 (mo_int ha.1 17 rfl) (ha.2.2 17 rfl) rfl hjn dX8_hold_95 (fun H locs hW hL => ?_)
            rw [mo_putI ha.1 17 rfl] at hW
            refine lv_aload_n hx hb dX8_hold_96 rfl (lv_at hl 2 rfl) ?_
            refine hs_get hC hW hi_X8 rfl 17 (by decide) lk_X8_54 rfl mo_obj rfl dX8_hold_97 ?_
            refine lv_iload_n hx hb dX8_hold_100 rfl (lv_at hl 3 rfl) ?_
            refine hs_iald hC hW 0 (mo_int ha.1 17 rfl) rfl hjn dX8_hold_101 ?_
            refine lv_iload hx hb dX8_hold_102 (lv_at hl 1 rfl) ?_
            refine lv_icmp_eq (tgt := 111) hx hb dX8_hold_104 (by decide) (fun c104 => ?_) (fun c104 => ?_)
            · refine lv_iconst (v := 0) hx hb dX8_hold_111 (by decide) ?_
              exact hs_zret hC hW hL hr hlocks (by decide) (by decide) dX8_hold_112 (by first | rfl | decide) ⟨rfl, rfl, _, _, _, _, rfl, rfl, ⟨_, rfl⟩, ⟨_, _, (mo_J_fr hI (by simp [mo_up]) (by simp [mo_up]))⟩, by simp [mo_up]⟩
            refine lv_iconst (v := 1) hx hb dX8_hold_107 (by decide) ?_
            refine lv_goto (tgt := 112) hx hb dX8_hold_108 (by decide) ?_
            exact hs_zret hC hW hL hr hlocks (by decide) (by decide) dX8_hold_112 (by first | rfl | decide) ⟨rfl, rfl, _, _, _, _, rfl, rfl, ⟨_, rfl⟩, ⟨_, _, (mo_J_fr hI (by simp [mo_up]) (by simp [mo_up]))⟩, by simp [mo_up]⟩
          refine lv_iload hx hb dX8_hold_80 (lv_at hl 1 rfl) ?_
          refine lv_iload hx hb dX8_hold_82 (lv_at hl 0 rfl) ?_
          refine lv_ior hx hb dX8_hold_84 ?_
          refine lv_goto (tgt := 95) hx hb dX8_hold_85 (by decide) ?_
          refine hs_iast hC hW hL 0 (mo_int ha.1 17 rfl) (ha.2.2 17 rfl) rfl hjn dX8_hold_95 (fun H locs hW hL => ?_)
          rw [mo_putI ha.1 17 rfl] at hW
          refine lv_aload_n hx hb dX8_hold_96 rfl (lv_at hl 2 rfl) ?_
          refine hs_get hC hW hi_X8 rfl 17 (by decide) lk_X8_54 rfl mo_obj rfl dX8_hold_97 ?_
          refine lv_iload_n hx hb dX8_hold_100 rfl (lv_at hl 3 rfl) ?_
          refine hs_iald hC hW 0 (mo_int ha.1 17 rfl) rfl hjn dX8_hold_101 ?_
          refine lv_iload hx hb dX8_hold_102 (lv_at hl 1 rfl) ?_
          refine lv_icmp_eq (tgt := 111) hx hb dX8_hold_104 (by decide) (fun c104 => ?_) (fun c104 => ?_)
          · refine lv_iconst (v := 0) hx hb dX8_hold_111 (by decide) ?_
            exact hs_zret hC hW hL hr hlocks (by decide) (by decide) dX8_hold_112 (by first | rfl | decide) ⟨rfl, rfl, _, _, _, _, rfl, rfl, ⟨_, rfl⟩, ⟨_, _, (mo_J_fr hI (by simp [mo_up]) (by simp [mo_up]))⟩, by simp [mo_up]⟩
          refine lv_iconst (v := 1) hx hb dX8_hold_107 (by decide) ?_
          refine lv_goto (tgt := 112) hx hb dX8_hold_108 (by decide) ?_
          exact hs_zret hC hW hL hr hlocks (by decide) (by decide) dX8_hold_112 (by first | rfl | decide) ⟨rfl, rfl, _, _, _, _, rfl, rfl, ⟨_, rfl⟩, ⟨_, _, (mo_J_fr hI (by simp [mo_up]) (by simp [mo_up]))⟩, by simp [mo_up]⟩
        exact absurd c50 (by first | decide | simp [mo_up])
      refine lv_iconst (v := 2) hx hb dX8_hold_38 (by decide) ?_
      refine lv_goto (tgt := 43) hx hb dX8_hold_39 (by decide) ?_
      refine hs_put hC hW hL hi_X8 tyX8 tyX8_ok nmX8 rfl 0 (by decide) lk_X8_93 rfl rfl mo_obj ha.2.1 rfl rfl (Nat.le_of_ble_eq_true rfl) dX8_hold_43 (fun H locs hW hL => ?_)
      rw [mo_putS (mo_fs0 _)] at hW
      refine lv_aload_n hx hb dX8_hold_46 rfl (lv_at hl 0 rfl) ?_
      refine hs_get hC hW hi_X8 rfl 0 (by decide) lk_X8_93 rfl mo_obj rfl dX8_hold_47 ?_
      refine lv_if_le (tgt := 55) hx hb dX8_hold_50 (by decide) (fun c50 => ?_) (fun c50 => ?_)
      · exact absurd c50 (by first | decide | simp [mo_up])
      refine lv_iconst (v := 0) hx hb dX8_hold_53 (by decide) ?_
      exact hs_zret hC hW hL hr hlocks (by decide) (by decide) dX8_hold_54 (by first | rfl | decide) ⟨rfl, rfl, _, _, _, _, rfl, rfl, ⟨_, rfl⟩, ⟨_, _, (mo_J_fr hI (by simp [mo_up]) (by simp [mo_up]))⟩, by simp [mo_up]⟩
    refine lv_iconst (v := 1) hx hb dX8_hold_22 (by decide) ?_
    refine lv_goto (tgt := 43) hx hb dX8_hold_23 (by decide) ?_
    refine hs_put hC hW hL hi_X8 tyX8 tyX8_ok nmX8 rfl 0 (by decide) lk_X8_93 rfl rfl mo_obj ha.2.1 rfl rfl (Nat.le_of_ble_eq_true rfl) dX8_hold_43 (fun H locs hW hL => ?_)
    rw [mo_putS (mo_fs0 _)] at hW
    refine lv_aload_n hx hb dX8_hold_46 rfl (lv_at hl 0 rfl) ?_
    refine hs_get hC hW hi_X8 rfl 0 (by decide) lk_X8_93 rfl mo_obj rfl dX8_hold_47 ?_
    refine lv_if_le (tgt := 55) hx hb dX8_hold_50 (by decide) (fun c50 => ?_) (fun c50 => ?_)
    · exact absurd c50 (by first | decide | simp [mo_up])
    refine lv_iconst (v := 0) hx hb dX8_hold_53 (by decide) ?_
    exact hs_zret hC hW hL hr hlocks (by decide) (by decide) dX8_hold_54 (by first | rfl | decide) ⟨rfl, rfl, _, _, _, _, rfl, rfl, ⟨_, rfl⟩, ⟨_, _, (mo_J_fr hI (by simp [mo_up]) (by simp [mo_up]))⟩, by simp [mo_up]⟩
  refine lv_iconst (v := 1) hx hb dX8_hold_9 (by decide) ?_
  refine lv_goto (tgt := 43) hx hb dX8_hold_10 (by decide) ?_
  refine hs_put hC hW hL hi_X8 tyX8 tyX8_ok nmX8 rfl 0 (by decide) lk_X8_93 rfl rfl mo_obj ha.2.1 rfl rfl (Nat.le_of_ble_eq_true rfl) dX8_hold_43 (fun H locs hW hL => ?_)
  rw [mo_putS (mo_fs0 _)] at hW
  refine lv_aload_n hx hb dX8_hold_46 rfl (lv_at hl 0 rfl) ?_
  refine hs_get hC hW hi_X8 rfl 0 (by decide) lk_X8_93 rfl mo_obj rfl dX8_hold_47 ?_
  refine lv_if_le (tgt := 55) hx hb dX8_hold_50 (by decide) (fun c50 => ?_) (fun c50 => ?_)
  · exact absurd c50 (by first | decide | simp [mo_up])
  refine lv_iconst (v := 0) hx hb dX8_hold_53 (by decide) ?_
  exact hs_zret hC hW hL hr hlocks (by decide) (by decide) dX8_hold_54 (by first | rfl | decide) ⟨rfl, rfl, _, _, _, _, rfl, rfl, ⟨_, rfl⟩, ⟨_, _, (mo_J_fr hI (by simp [mo_up]) (by simp [mo_up]))⟩, by simp [mo_up]⟩
set_option maxHeartbeats 4000000 in
set_option maxRecDepth 100000 in
/-- Model.rank -/
theorem ct_X8_rank (E : hs_E) (mo : Nat) (ar : Nat → Nat) (ix : Nat → Option Nat) (sc : Nat → Int32) (mI : Nat → Nat → Int32) (mL : Nat → Nat → Int64) (F : hs_G) (ha : mo_ok E mo ar ix) (t pr ip : Int32) (N d S : Nat) (hI : mo_I sc mI N d S) : hM E yX8_rank ({ frames := 2, cells := 0, slots := 0, locals := 70 }) [.ref mo, .int t, .int pr, .int ip] (mo_W E mo ar ix sc mI mL F) (mo_P E mo ar ix F (mo_Ri d mI)) := by
  refine hs_ofW (cc := cX8_rank) (maxL := 5) (ret := (some .int)) (by decide) co_X8_rank ?_
  intro p e s m args below meth c hC hlocks hr hin0 hnoh hW
  obtain ⟨hx, hb, hml, hown, hts, -⟩ := id hC
  have hE := hW
  have hL : ∀ q ∈ ([] : List Loc), (eH E).size ≤ q.base := fun q hq => nomatch hq
  have hl := lv_entry ([.ref mo, .int t, .int pr, .int ip] : List Value) (n := 5) (Nat.le_of_ble_eq_true rfl)
  rw [lg_entry_eq]
  generalize (lg_sl [.ref mo, .int t, .int pr, .int ip] ++ List.replicate (5 - (lg_sl [.ref mo, .int t, .int pr, .int ip]).length) Slot.unset).toArray = ls at hl ⊢
  have hl : lv_has ls 5 [(0, .ref mo), (1, .int t), (2, .int pr), (3, .int ip)] := hl
  refine lv_aload_n hx hb dX8_rank_0 rfl (lv_at hl 0 rfl) ?_
  refine lv_aload_n hx hb dX8_rank_1 rfl (lv_at hl 0 rfl) ?_
  refine lv_iload_n hx hb dX8_rank_2 rfl (lv_at hl 1 rfl) ?_
  refine hs_callV hC hs_Tok hW hL (ct_X8_isTrade E _ _ _ _ _ _ _ ha _) cw_X8_isTrade lk_X8_190 im_X8_isTrade se_X8_isTrade (hs_recv hC hW mo_obj rfl) hl.1 (by decide) (Nat.le_of_ble_eq_true rfl) dX8_rank_3 (hs_kp1 (fun H locs hW hL => ?_))
  refine lv_if_eq (tgt := 21) hx hb dX8_rank_6 (by decide) (fun c6 => ?_) (fun c6 => ?_)
  · refine lv_iconst (v := 1) hx hb dX8_rank_21 (by decide) ?_
    refine lv_goto (tgt := 42) hx hb dX8_rank_22 (by decide) ?_
    refine hs_put hC hW hL hi_X8 tyX8 tyX8_ok nmX8 rfl 0 (by decide) lk_X8_93 rfl rfl mo_obj ha.2.1 rfl rfl (Nat.le_of_ble_eq_true rfl) dX8_rank_42 (fun H locs hW hL => ?_)
    rw [mo_putS (mo_fs0 _)] at hW
    refine lv_aload_n hx hb dX8_rank_45 rfl (lv_at hl 0 rfl) ?_
    refine hs_get hC hW hi_X8 rfl 0 (by decide) lk_X8_93 rfl mo_obj rfl dX8_rank_46 ?_
    refine lv_if_le (tgt := 54) hx hb dX8_rank_49 (by decide) (fun c49 => ?_) (fun c49 => ?_)
    · exact absurd c49 (by first | decide | simp [mo_up])
    refine lv_iconst (v := 0) hx hb dX8_rank_52 (by decide) ?_
    exact hs_iret hC hW hL hr hlocks (by decide) (by decide) dX8_rank_53 ⟨rfl, rfl, _, _, _, _, rfl, rfl, ⟨_, rfl⟩, ⟨_, _, (mo_J_fr hI (by simp [mo_up]) (by simp [mo_up]))⟩, by simp [mo_up]⟩
  refine lv_iload_n hx hb dX8_rank_9 rfl (lv_at hl 2 rfl) ?_
  refine lv_i2l hx hb dX8_rank_10 rfl ?_
  refine lv_lconst (v := 0) hx hb dX8_rank_11 (by decide) ?_
  refine lv_ldc2 hx hb hown (hts _ lk_X8_199) dX8_rank_12 ?_
  refine hs_callS hC hs_Tok hW hL (ct_X8_in E _ _ _ _) cw_X8_in lk_X8_99 st_X8_in hl.1 (by decide) (Nat.le_of_ble_eq_true rfl) dX8_rank_15 (hs_kp1 (fun H locs hW hL => ?_))
  refine lv_if_ne (tgt := 25) hx hb dX8_rank_18 (by decide) (fun c18 => ?_) (fun c18 => ?_)
  · obtain ⟨j, hj, rfl⟩ := mo_tr hI c6
    have hj150 : j < 150 := Nat.lt_of_lt_of_le hj hI.2.1
    have hjn : vp_in (nI j) 150 := vp_in_nI hj150 (by decide)
    have hcl : (nI j).toNatClampNeg = j := nI_clamp (by omega)
    refine lv_aload_n hx hb dX8_rank_25 rfl (lv_at hl 0 rfl) ?_
    refine hs_get hC hW hi_X8 rfl 15 (by decide) lk_X8_48 rfl mo_obj rfl dX8_rank_26 ?_
    refine lv_iload_n hx hb dX8_rank_29 rfl (lv_at hl 1 rfl) ?_
    refine hs_iald hC hW 0 (mo_int ha.1 15 rfl) rfl hjn dX8_rank_30 ?_
    refine hs_callS hC hs_Tok hW hL (ct_X8_isOver E _ _) cw_X8_isOver lk_X8_196 st_X8_isOver hl.1 (by decide) (Nat.le_of_ble_eq_true rfl) dX8_rank_31 (hs_kp1 (fun H locs hW hL => ?_))
    refine lv_if_eq (tgt := 41) hx hb dX8_rank_34 (by decide) (fun c34 => ?_) (fun c34 => ?_)
    · refine lv_iconst (v := 0) hx hb dX8_rank_41 (by decide) ?_
      refine hs_put hC hW hL hi_X8 tyX8 tyX8_ok nmX8 rfl 0 (by decide) lk_X8_93 rfl rfl mo_obj ha.2.1 rfl rfl (Nat.le_of_ble_eq_true rfl) dX8_rank_42 (fun H locs hW hL => ?_)
      rw [mo_putS (mo_fs0 _)] at hW
      refine lv_aload_n hx hb dX8_rank_45 rfl (lv_at hl 0 rfl) ?_
      refine hs_get hC hW hi_X8 rfl 0 (by decide) lk_X8_93 rfl mo_obj rfl dX8_rank_46 ?_
      refine lv_if_le (tgt := 54) hx hb dX8_rank_49 (by decide) (fun c49 => ?_) (fun c49 => ?_)
      · refine lv_aload_n hx hb dX8_rank_54 rfl (lv_at hl 0 rfl) ?_
        refine hs_get hC hW hi_X8 rfl 19 (by decide) lk_X8_60 rfl mo_obj rfl dX8_rank_55 ?_
        refine lv_iload_n hx hb dX8_rank_58 rfl (lv_at hl 1 rfl) ?_
        refine hs_iald hC hW 0 (mo_int ha.1 19 rfl) rfl hjn dX8_rank_59 ?_
        refine lv_istore (lv' := [(4, .int _), (0, .ref _), (1, .int _), (2, .int _), (3, .int _)]) hx hb dX8_rank_60 hl (by decide) rfl (fun ls hl => ?_)
        refine lv_aload_n hx hb dX8_rank_62 rfl (lv_at hl 1 rfl) ?_
        refine hs_get hC hW hi_X8 rfl 19 (by decide) lk_X8_60 rfl mo_obj rfl dX8_rank_63 ?_
        refine lv_iload_n hx hb dX8_rank_66 rfl (lv_at hl 2 rfl) ?_
        refine lv_iload_n hx hb dX8_rank_67 rfl (lv_at hl 3 rfl) ?_
        refine hs_iast hC hW hL 0 (mo_int ha.1 19 rfl) (ha.2.2 19 rfl) rfl hjn dX8_rank_68 (fun H locs hW hL => ?_)
        rw [mo_putI ha.1 19 rfl] at hW
        refine lv_aload_n hx hb dX8_rank_69 rfl (lv_at hl 1 rfl) ?_
        refine hs_get hC hW hi_X8 rfl 20 (by decide) lk_X8_63 rfl mo_obj rfl dX8_rank_70 ?_
        refine lv_iload_n hx hb dX8_rank_73 rfl (lv_at hl 2 rfl) ?_
        refine lv_iload_n hx hb dX8_rank_74 rfl (lv_at hl 4 rfl) ?_
        refine hs_zast hC hW hL 2 (mo_bool ha.1 20 rfl) (ha.2.2 20 rfl) rfl hjn dX8_rank_75 (fun H locs hW hL => ?_)
        rw [mo_putB ha.1 20 rfl] at hW
        refine lv_iload hx hb dX8_rank_76 (lv_at hl 0 rfl) ?_
        exact hs_iret hC hW hL hr hlocks (by decide) (by decide) dX8_rank_78 ⟨rfl, rfl, _, _, _, _, rfl, rfl, ⟨_, rfl⟩, ⟨_, _, (mo_J_fr hI (by simp [mo_up]) (by simp [mo_up]))⟩, by simp [mo_up]⟩
      exact absurd c49 (by first | decide | simp [mo_up])
    refine lv_iconst (v := 2) hx hb dX8_rank_37 (by decide) ?_
    refine lv_goto (tgt := 42) hx hb dX8_rank_38 (by decide) ?_
    refine hs_put hC hW hL hi_X8 tyX8 tyX8_ok nmX8 rfl 0 (by decide) lk_X8_93 rfl rfl mo_obj ha.2.1 rfl rfl (Nat.le_of_ble_eq_true rfl) dX8_rank_42 (fun H locs hW hL => ?_)
    rw [mo_putS (mo_fs0 _)] at hW
    refine lv_aload_n hx hb dX8_rank_45 rfl (lv_at hl 0 rfl) ?_
    refine hs_get hC hW hi_X8 rfl 0 (by decide) lk_X8_93 rfl mo_obj rfl dX8_rank_46 ?_
    refine lv_if_le (tgt := 54) hx hb dX8_rank_49 (by decide) (fun c49 => ?_) (fun c49 => ?_)
    · exact absurd c49 (by first | decide | simp [mo_up])
    refine lv_iconst (v := 0) hx hb dX8_rank_52 (by decide) ?_
    exact hs_iret hC hW hL hr hlocks (by decide) (by decide) dX8_rank_53 ⟨rfl, rfl, _, _, _, _, rfl, rfl, ⟨_, rfl⟩, ⟨_, _, (mo_J_fr hI (by simp [mo_up]) (by simp [mo_up]))⟩, by simp [mo_up]⟩
  refine lv_iconst (v := 1) hx hb dX8_rank_21 (by decide) ?_
  refine lv_goto (tgt := 42) hx hb dX8_rank_22 (by decide) ?_
  refine hs_put hC hW hL hi_X8 tyX8 tyX8_ok nmX8 rfl 0 (by decide) lk_X8_93 rfl rfl mo_obj ha.2.1 rfl rfl (Nat.le_of_ble_eq_true rfl) dX8_rank_42 (fun H locs hW hL => ?_)
  rw [mo_putS (mo_fs0 _)] at hW
  refine lv_aload_n hx hb dX8_rank_45 rfl (lv_at hl 0 rfl) ?_
  refine hs_get hC hW hi_X8 rfl 0 (by decide) lk_X8_93 rfl mo_obj rfl dX8_rank_46 ?_
  refine lv_if_le (tgt := 54) hx hb dX8_rank_49 (by decide) (fun c49 => ?_) (fun c49 => ?_)
  · exact absurd c49 (by first | decide | simp [mo_up])
  refine lv_iconst (v := 0) hx hb dX8_rank_52 (by decide) ?_
  exact hs_iret hC hW hL hr hlocks (by decide) (by decide) dX8_rank_53 ⟨rfl, rfl, _, _, _, _, rfl, rfl, ⟨_, rfl⟩, ⟨_, _, (mo_J_fr hI (by simp [mo_up]) (by simp [mo_up]))⟩, by simp [mo_up]⟩
set_option maxHeartbeats 4000000 in
set_option maxRecDepth 100000 in
/-- Model.cancel -/
theorem ct_X8_cancel (E : hs_E) (mo : Nat) (ar : Nat → Nat) (ix : Nat → Option Nat) (sc : Nat → Int32) (mI : Nat → Nat → Int32) (mL : Nat → Nat → Int64) (F : hs_G) (ha : mo_ok E mo ar ix) (t pa : Int32) (N d S : Nat) (hI : mo_I sc mI N d S) : hM E yX8_cancel ({ frames := 2, cells := 0, slots := 0, locals := 70 }) [.ref mo, .int t, .int pa] (mo_W E mo ar ix sc mI mL F) (mo_P E mo ar ix F (mo_Ri d mI)) := by
  refine hs_ofW (cc := cX8_cancel) (maxL := 3) (ret := (some .int)) (by decide) co_X8_cancel ?_
  intro p e s m args below meth c hC hlocks hr hin0 hnoh hW
  obtain ⟨hx, hb, hml, hown, hts, -⟩ := id hC
  have hE := hW
  have hL : ∀ q ∈ ([] : List Loc), (eH E).size ≤ q.base := fun q hq => nomatch hq
  have hl := lv_entry ([.ref mo, .int t, .int pa] : List Value) (n := 3) (Nat.le_of_ble_eq_true rfl)
  rw [lg_entry_eq]
  generalize (lg_sl [.ref mo, .int t, .int pa] ++ List.replicate (3 - (lg_sl [.ref mo, .int t, .int pa]).length) Slot.unset).toArray = ls at hl ⊢
  have hl : lv_has ls 3 [(0, .ref mo), (1, .int t), (2, .int pa)] := hl
  refine lv_aload_n hx hb dX8_cancel_0 rfl (lv_at hl 0 rfl) ?_
  refine lv_aload_n hx hb dX8_cancel_1 rfl (lv_at hl 0 rfl) ?_
  refine lv_iload_n hx hb dX8_cancel_2 rfl (lv_at hl 1 rfl) ?_
  refine hs_callV hC hs_Tok hW hL (ct_X8_isTrade E _ _ _ _ _ _ _ ha _) cw_X8_isTrade lk_X8_190 im_X8_isTrade se_X8_isTrade (hs_recv hC hW mo_obj rfl) hl.1 (by decide) (Nat.le_of_ble_eq_true rfl) dX8_cancel_3 (hs_kp1 (fun H locs hW hL => ?_))
  refine lv_if_ne (tgt := 13) hx hb dX8_cancel_6 (by decide) (fun c6 => ?_) (fun c6 => ?_)
  · obtain ⟨j, hj, rfl⟩ := mo_tr hI c6
    have hj150 : j < 150 := Nat.lt_of_lt_of_le hj hI.2.1
    have hjn : vp_in (nI j) 150 := vp_in_nI hj150 (by decide)
    have hcl : (nI j).toNatClampNeg = j := nI_clamp (by omega)
    refine lv_aload_n hx hb dX8_cancel_13 rfl (lv_at hl 0 rfl) ?_
    refine lv_iload_n hx hb dX8_cancel_14 rfl (lv_at hl 1 rfl) ?_
    refine lv_iload_n hx hb dX8_cancel_15 rfl (lv_at hl 2 rfl) ?_
    refine hs_callV hC hs_Tok hW hL (ct_X8_sideOf E _ _ _ _ _ _ _ ha _ _ hjn) cw_X8_sideOf lk_X8_193 im_X8_sideOf se_X8_sideOf (hs_recv hC hW mo_obj rfl) hl.1 (by decide) (Nat.le_of_ble_eq_true rfl) dX8_cancel_16 (hs_kp1 (fun H locs hW hL => ?_))
    refine lv_if_ne (tgt := 26) hx hb dX8_cancel_19 (by decide) (fun c19 => ?_) (fun c19 => ?_)
    · refine lv_aload_n hx hb dX8_cancel_26 rfl (lv_at hl 0 rfl) ?_
      refine hs_get hC hW hi_X8 rfl 15 (by decide) lk_X8_48 rfl mo_obj rfl dX8_cancel_27 ?_
      refine lv_iload_n hx hb dX8_cancel_30 rfl (lv_at hl 1 rfl) ?_
      refine hs_iald hC hW 0 (mo_int ha.1 15 rfl) rfl hjn dX8_cancel_31 ?_
      refine hs_callS hC hs_Tok hW hL (ct_X8_isOver E _ _) cw_X8_isOver lk_X8_196 st_X8_isOver hl.1 (by decide) (Nat.le_of_ble_eq_true rfl) dX8_cancel_32 (hs_kp1 (fun H locs hW hL => ?_))
      refine lv_if_eq (tgt := 42) hx hb dX8_cancel_35 (by decide) (fun c35 => ?_) (fun c35 => ?_)
      · have c35n := hs_b_eq c35
        refine lv_iconst (v := 0) hx hb dX8_cancel_42 (by decide) ?_
        refine hs_put hC hW hL hi_X8 tyX8 tyX8_ok nmX8 rfl 0 (by decide) lk_X8_93 rfl rfl mo_obj ha.2.1 rfl rfl (Nat.le_of_ble_eq_true rfl) dX8_cancel_43 (fun H locs hW hL => ?_)
        rw [mo_putS (mo_fs0 _)] at hW
        refine lv_aload_n hx hb dX8_cancel_46 rfl (lv_at hl 0 rfl) ?_
        refine hs_get hC hW hi_X8 rfl 0 (by decide) lk_X8_93 rfl mo_obj rfl dX8_cancel_47 ?_
        refine lv_if_le (tgt := 55) hx hb dX8_cancel_50 (by decide) (fun c50 => ?_) (fun c50 => ?_)
        · refine lv_aload_n hx hb dX8_cancel_55 rfl (lv_at hl 0 rfl) ?_
          refine hs_get hC hW hi_X8 rfl 18 (by decide) lk_X8_57 rfl mo_obj rfl dX8_cancel_56 ?_
          refine lv_iload_n hx hb dX8_cancel_59 rfl (lv_at hl 1 rfl) ?_
          refine lv_dup2_11 hx hb dX8_cancel_60 rfl rfl ?_
          refine hs_iald hC hW 0 (mo_int ha.1 18 rfl) rfl hjn dX8_cancel_61 ?_
          refine lv_aload_n hx hb dX8_cancel_62 rfl (lv_at hl 0 rfl) ?_
          refine lv_iload_n hx hb dX8_cancel_63 rfl (lv_at hl 1 rfl) ?_
          refine lv_iload_n hx hb dX8_cancel_64 rfl (lv_at hl 2 rfl) ?_
          refine hs_callV hC hs_Tok hW hL (ct_X8_sideOf E _ _ _ _ _ _ _ ha _ _ hjn) cw_X8_sideOf lk_X8_193 im_X8_sideOf se_X8_sideOf (hs_recv hC hW mo_obj rfl) hl.1 (by decide) (Nat.le_of_ble_eq_true rfl) dX8_cancel_65 (hs_kp1 (fun H locs hW hL => ?_))
          refine lv_ior hx hb dX8_cancel_68 ?_
          refine hs_iast hC hW hL 0 (mo_int ha.1 18 rfl) (ha.2.2 18 rfl) rfl hjn dX8_cancel_69 (fun H locs hW hL => ?_)
          rw [mo_putI ha.1 18 rfl] at hW
          refine lv_aload_n hx hb dX8_cancel_70 rfl (lv_at hl 0 rfl) ?_
          refine hs_get hC hW hi_X8 rfl 15 (by decide) lk_X8_48 rfl mo_obj rfl dX8_cancel_71 ?_
          refine lv_iload_n hx hb dX8_cancel_74 rfl (lv_at hl 1 rfl) ?_
          refine hs_iald hC hW 0 (mo_int ha.1 15 rfl) rfl hjn dX8_cancel_75 ?_
          refine lv_if_eq (tgt := 89) hx hb dX8_cancel_76 (by decide) (fun c76 => ?_) (fun c76 => ?_)
          · refine lv_aload_n hx hb dX8_cancel_89 rfl (lv_at hl 0 rfl) ?_
            refine hs_get hC hW hi_X8 rfl 15 (by decide) lk_X8_48 rfl mo_obj rfl dX8_cancel_90 ?_
            refine lv_iload_n hx hb dX8_cancel_93 rfl (lv_at hl 1 rfl) ?_
            refine lv_iconst (v := 3) hx hb dX8_cancel_94 (by decide) ?_
            refine hs_iast hC hW hL 0 (mo_int ha.1 15 rfl) (ha.2.2 15 rfl) rfl hjn dX8_cancel_95 (fun H locs hW hL => ?_)
            rw [mo_putI ha.1 15 rfl] at hW
            refine lv_aload_n hx hb dX8_cancel_96 rfl (lv_at hl 0 rfl) ?_
            refine hs_get hC hW hi_X8 rfl 22 (by decide) lk_X8_69 rfl mo_obj rfl dX8_cancel_97 ?_
            refine lv_iload_n hx hb dX8_cancel_100 rfl (lv_at hl 1 rfl) ?_
            refine lv_iconst (v := (-1)) hx hb dX8_cancel_101 (by decide) ?_
            refine hs_iast hC hW hL 0 (mo_int ha.1 22 rfl) (ha.2.2 22 rfl) rfl hjn dX8_cancel_102 (fun H locs hW hL => ?_)
            rw [mo_putI ha.1 22 rfl] at hW
            refine lv_aload_n hx hb dX8_cancel_103 rfl (lv_at hl 0 rfl) ?_
            refine hs_get hC hW hi_X8 rfl 15 (by decide) lk_X8_48 rfl mo_obj rfl dX8_cancel_104 ?_
            refine lv_iload_n hx hb dX8_cancel_107 rfl (lv_at hl 1 rfl) ?_
            refine hs_iald hC hW 0 (mo_int ha.1 15 rfl) rfl hjn dX8_cancel_108 ?_
            exact hs_iret hC hW hL hr hlocks (by decide) (by decide) dX8_cancel_109 ⟨rfl, rfl, _, _, _, _, rfl, rfl, ⟨_, rfl⟩, ⟨_, _, by first | (refine mo_J_fr hI ?_ ?_ <;> (simp [mo_up]; done)) | (refine mo_J_end hI hj (fun q => c35n (by rw [hcl]; exact q)) rfl ?_ ?_ <;> (simp [mo_up, hcl]; done))⟩, by simp [mo_up]⟩
          refine lv_aload_n hx hb dX8_cancel_79 rfl (lv_at hl 0 rfl) ?_
          refine hs_get hC hW hi_X8 rfl 18 (by decide) lk_X8_57 rfl mo_obj rfl dX8_cancel_80 ?_
          refine lv_iload_n hx hb dX8_cancel_83 rfl (lv_at hl 1 rfl) ?_
          refine hs_iald hC hW 0 (mo_int ha.1 18 rfl) rfl hjn dX8_cancel_84 ?_
          refine lv_iconst (v := 3) hx hb dX8_cancel_85 (by decide) ?_
          refine lv_icmp_ne (tgt := 103) hx hb dX8_cancel_86 (by decide) (fun c86 => ?_) (fun c86 => ?_)
          · refine lv_aload_n hx hb dX8_cancel_103 rfl (lv_at hl 0 rfl) ?_
            refine hs_get hC hW hi_X8 rfl 15 (by decide) lk_X8_48 rfl mo_obj rfl dX8_cancel_104 ?_
            refine lv_iload_n hx hb dX8_cancel_107 rfl (lv_at hl 1 rfl) ?_
            refine hs_iald hC hW 0 (mo_int ha.1 15 rfl) rfl hjn dX8_cancel_108 ?_
            exact hs_iret hC hW hL hr hlocks (by decide) (by decide) dX8_cancel_109 ⟨rfl, rfl, _, _, _, _, rfl, rfl, ⟨_, rfl⟩, ⟨_, _, by first | (refine mo_J_fr hI ?_ ?_ <;> (simp [mo_up]; done)) | (refine mo_J_end hI hj (fun q => c35n (by rw [hcl]; exact q)) rfl ?_ ?_ <;> (simp [mo_up, hcl]; done))⟩, by simp [mo_up]⟩
          refine lv_aload_n hx hb dX8_cancel_89 rfl (lv_at hl 0 rfl) ?_
          refine hs_get hC hW hi_X8 rfl 15 (by decide) lk_X8_48 rfl mo_obj rfl dX8_cancel_90 ?_
          refine lv_iload_n hx hb dX8_cancel_93 rfl (lv_at hl 1 rfl) ?_
          refine lv_iconst (v := 3) hx hb dX8_cancel_94 (by decide) ?_
          refine hs_iast hC hW hL 0 (mo_int ha.1 15 rfl) (ha.2.2 15 rfl) rfl hjn dX8_cancel_95 (fun H locs hW hL => ?_)
          rw [mo_putI ha.1 15 rfl] at hW
          refine lv_aload_n hx hb dX8_cancel_96 rfl (lv_at hl 0 rfl) ?_
          refine hs_get hC hW hi_X8 rfl 22 (by decide) lk_X8_69 rfl mo_obj rfl dX8_cancel_97 ?_
          refine lv_iload_n hx hb dX8_cancel_100 rfl (lv_at hl 1 rfl) ?_
          refine lv_iconst (v := (-1)) hx hb dX8_cancel_101 (by decide) ?_
          refine hs_iast hC hW hL 0 (mo_int ha.1 22 rfl) (ha.2.2 22 rfl) rfl hjn dX8_cancel_102 (fun H locs hW hL => ?_)
          rw [mo_putI ha.1 22 rfl] at hW
          refine lv_aload_n hx hb dX8_cancel_103 rfl (lv_at hl 0 rfl) ?_
          refine hs_get hC hW hi_X8 rfl 15 (by decide) lk_X8_48 rfl mo_obj rfl dX8_cancel_104 ?_
          refine lv_iload_n hx hb dX8_cancel_107 rfl (lv_at hl 1 rfl) ?_
          refine hs_iald hC hW 0 (mo_int ha.1 15 rfl) rfl hjn dX8_cancel_108 ?_
          exact hs_iret hC hW hL hr hlocks (by decide) (by decide) dX8_cancel_109 ⟨rfl, rfl, _, _, _, _, rfl, rfl, ⟨_, rfl⟩, ⟨_, _, by first | (refine mo_J_fr hI ?_ ?_ <;> (simp [mo_up]; done)) | (refine mo_J_end hI hj (fun q => c35n (by rw [hcl]; exact q)) rfl ?_ ?_ <;> (simp [mo_up, hcl]; done))⟩, by simp [mo_up]⟩
        exact absurd c50 (by first | decide | simp [mo_up])
      refine lv_iconst (v := 2) hx hb dX8_cancel_38 (by decide) ?_
      refine lv_goto (tgt := 43) hx hb dX8_cancel_39 (by decide) ?_
      refine hs_put hC hW hL hi_X8 tyX8 tyX8_ok nmX8 rfl 0 (by decide) lk_X8_93 rfl rfl mo_obj ha.2.1 rfl rfl (Nat.le_of_ble_eq_true rfl) dX8_cancel_43 (fun H locs hW hL => ?_)
      rw [mo_putS (mo_fs0 _)] at hW
      refine lv_aload_n hx hb dX8_cancel_46 rfl (lv_at hl 0 rfl) ?_
      refine hs_get hC hW hi_X8 rfl 0 (by decide) lk_X8_93 rfl mo_obj rfl dX8_cancel_47 ?_
      refine lv_if_le (tgt := 55) hx hb dX8_cancel_50 (by decide) (fun c50 => ?_) (fun c50 => ?_)
      · exact absurd c50 (by first | decide | simp [mo_up])
      refine lv_iconst (v := 0) hx hb dX8_cancel_53 (by decide) ?_
      exact hs_iret hC hW hL hr hlocks (by decide) (by decide) dX8_cancel_54 ⟨rfl, rfl, _, _, _, _, rfl, rfl, ⟨_, rfl⟩, ⟨_, _, by first | (refine mo_J_fr hI ?_ ?_ <;> (simp [mo_up]; done)) | (refine mo_J_end hI hj (fun q => c35n (by rw [hcl]; exact q)) rfl ?_ ?_ <;> (simp [mo_up, hcl]; done))⟩, by simp [mo_up]⟩
    refine lv_iconst (v := 1) hx hb dX8_cancel_22 (by decide) ?_
    refine lv_goto (tgt := 43) hx hb dX8_cancel_23 (by decide) ?_
    refine hs_put hC hW hL hi_X8 tyX8 tyX8_ok nmX8 rfl 0 (by decide) lk_X8_93 rfl rfl mo_obj ha.2.1 rfl rfl (Nat.le_of_ble_eq_true rfl) dX8_cancel_43 (fun H locs hW hL => ?_)
    rw [mo_putS (mo_fs0 _)] at hW
    refine lv_aload_n hx hb dX8_cancel_46 rfl (lv_at hl 0 rfl) ?_
    refine hs_get hC hW hi_X8 rfl 0 (by decide) lk_X8_93 rfl mo_obj rfl dX8_cancel_47 ?_
    refine lv_if_le (tgt := 55) hx hb dX8_cancel_50 (by decide) (fun c50 => ?_) (fun c50 => ?_)
    · exact absurd c50 (by first | decide | simp [mo_up])
    refine lv_iconst (v := 0) hx hb dX8_cancel_53 (by decide) ?_
    exact hs_iret hC hW hL hr hlocks (by decide) (by decide) dX8_cancel_54 ⟨rfl, rfl, _, _, _, _, rfl, rfl, ⟨_, rfl⟩, ⟨_, _, by first | (refine mo_J_fr hI ?_ ?_ <;> (simp [mo_up]; done)) | (refine mo_J_end hI hj (fun q => c35n (by rw [hcl]; exact q)) rfl ?_ ?_ <;> (simp [mo_up, hcl]; done))⟩, by simp [mo_up]⟩
  refine lv_iconst (v := 1) hx hb dX8_cancel_9 (by decide) ?_
  refine lv_goto (tgt := 43) hx hb dX8_cancel_10 (by decide) ?_
  refine hs_put hC hW hL hi_X8 tyX8 tyX8_ok nmX8 rfl 0 (by decide) lk_X8_93 rfl rfl mo_obj ha.2.1 rfl rfl (Nat.le_of_ble_eq_true rfl) dX8_cancel_43 (fun H locs hW hL => ?_)
  rw [mo_putS (mo_fs0 _)] at hW
  refine lv_aload_n hx hb dX8_cancel_46 rfl (lv_at hl 0 rfl) ?_
  refine hs_get hC hW hi_X8 rfl 0 (by decide) lk_X8_93 rfl mo_obj rfl dX8_cancel_47 ?_
  refine lv_if_le (tgt := 55) hx hb dX8_cancel_50 (by decide) (fun c50 => ?_) (fun c50 => ?_)
  · exact absurd c50 (by first | decide | simp [mo_up])
  refine lv_iconst (v := 0) hx hb dX8_cancel_53 (by decide) ?_
  exact hs_iret hC hW hL hr hlocks (by decide) (by decide) dX8_cancel_54 ⟨rfl, rfl, _, _, _, _, rfl, rfl, ⟨_, rfl⟩, ⟨_, _, by first | (refine mo_J_fr hI ?_ ?_ <;> (simp [mo_up]; done)) | (refine mo_J_end hI hj (fun q => c35n (by rw [hcl]; exact q)) rfl ?_ ?_ <;> (simp [mo_up, hcl]; done))⟩, by simp [mo_up]⟩
set_option maxHeartbeats 4000000 in
set_option maxRecDepth 100000 in
/-- Model.holiday -/
theorem ct_X8_holiday (E : hs_E) (mo : Nat) (ar : Nat → Nat) (ix : Nat → Option Nat) (sc : Nat → Int32) (mI : Nat → Nat → Int32) (mL : Nat → Nat → Int64) (F : hs_G) (ha : mo_ok E mo ar ix) (day : Int32) (N d S : Nat) (hI : mo_I sc mI N d S) : hM E yX8_holiday ({ frames := 1, cells := 0, slots := 0, locals := 40 }) [.ref mo, .int day] (mo_W E mo ar ix sc mI mL F) (mo_P E mo ar ix F (fun v sc2 mI2 mL2 => mo_J d sc2 mI2 ∧ sc2 0 = (if ((sc 1 + 1).toInt64 ≤ day.toInt64 ∧ day.toInt64 ≤ 20000) then 0 else 1) ∧ (((sc 1 + 1).toInt64 ≤ day.toInt64 ∧ day.toInt64 ≤ 20000) → v = some (.int (if mI 2 day.toNatClampNeg = 0 then 1 else 0)) ∧ mI2 2 = upd (mI 2) day.toNatClampNeg 1) ∧ (¬ ((sc 1 + 1).toInt64 ≤ day.toInt64 ∧ day.toInt64 ≤ 20000) → v = some (.int 0) ∧ mI2 2 = mI 2))) := by
  refine hs_ofW (cc := cX8_holiday) (maxL := 3) (ret := (some .boolean)) (by decide) co_X8_holiday ?_
  intro p e s m args below meth c hC hlocks hr hin0 hnoh hW
  obtain ⟨hx, hb, hml, hown, hts, -⟩ := id hC
  have hE := hW
  have hL : ∀ q ∈ ([] : List Loc), (eH E).size ≤ q.base := fun q hq => nomatch hq
  have hl := lv_entry ([.ref mo, .int day] : List Value) (n := 3) (Nat.le_of_ble_eq_true rfl)
  rw [lg_entry_eq]
  generalize (lg_sl [.ref mo, .int day] ++ List.replicate (3 - (lg_sl [.ref mo, .int day]).length) Slot.unset).toArray = ls at hl ⊢
  have hl : lv_has ls 3 [(0, .ref mo), (1, .int day)] := hl
  refine lv_aload_n hx hb dX8_holiday_0 rfl (lv_at hl 0 rfl) ?_
  refine lv_iload_n hx hb dX8_holiday_1 rfl (lv_at hl 1 rfl) ?_
  refine lv_i2l hx hb dX8_holiday_2 rfl ?_
  refine lv_aload_n hx hb dX8_holiday_3 rfl (lv_at hl 0 rfl) ?_
  refine hs_get hC hW hi_X8 rfl 1 (by decide) lk_X8_129 rfl mo_obj rfl dX8_holiday_4 ?_
  refine lv_iconst (v := 1) hx hb dX8_holiday_7 (by decide) ?_
  refine lv_iadd hx hb dX8_holiday_8 ?_
  refine lv_i2l hx hb dX8_holiday_9 rfl ?_
  refine lv_ldc2 hx hb hown (hts _ lk_X8_174) dX8_holiday_10 ?_
  refine hs_callS hC hs_Tok hW hL (ct_X8_in E _ _ _ _) cw_X8_in lk_X8_99 st_X8_in hl.1 (by decide) (Nat.le_of_ble_eq_true rfl) dX8_holiday_13 (hs_kp1 (fun H locs hW hL => ?_))
  refine lv_if_eq (tgt := 23) hx hb dX8_holiday_16 (by decide) (fun c16 => ?_) (fun c16 => ?_)
  · refine lv_iconst (v := 1) hx hb dX8_holiday_23 (by decide) ?_
    refine hs_put hC hW hL hi_X8 tyX8 tyX8_ok nmX8 rfl 0 (by decide) lk_X8_93 rfl rfl mo_obj ha.2.1 rfl rfl (Nat.le_of_ble_eq_true rfl) dX8_holiday_24 (fun H locs hW hL => ?_)
    rw [mo_putS (mo_fs0 _)] at hW
    refine lv_aload_n hx hb dX8_holiday_27 rfl (lv_at hl 0 rfl) ?_
    refine hs_get hC hW hi_X8 rfl 0 (by decide) lk_X8_93 rfl mo_obj rfl dX8_holiday_28 ?_
    refine lv_if_le (tgt := 36) hx hb dX8_holiday_31 (by decide) (fun c31 => ?_) (fun c31 => ?_)
    · exact absurd c31 (by first | decide | simp [mo_up])
    refine lv_iconst (v := 0) hx hb dX8_holiday_34 (by decide) ?_
    exact hs_zret hC hW hL hr hlocks (by decide) (by decide) dX8_holiday_35 (by first | rfl | decide) ⟨rfl, rfl, _, _, _, _, rfl, rfl, ⟨_, _, mo_J_fr hI (by simp [mo_up]) (by simp [mo_up])⟩, (have g := hs_b_eq c16; ⟨by rw [if_neg g]; rfl, fun q => absurd q g, fun _ => ⟨rfl, rfl⟩⟩)⟩
  refine lv_iconst (v := 0) hx hb dX8_holiday_19 (by decide) ?_
  refine lv_goto (tgt := 24) hx hb dX8_holiday_20 (by decide) ?_
  refine hs_put hC hW hL hi_X8 tyX8 tyX8_ok nmX8 rfl 0 (by decide) lk_X8_93 rfl rfl mo_obj ha.2.1 rfl rfl (Nat.le_of_ble_eq_true rfl) dX8_holiday_24 (fun H locs hW hL => ?_)
  rw [mo_putS (mo_fs0 _)] at hW
  refine lv_aload_n hx hb dX8_holiday_27 rfl (lv_at hl 0 rfl) ?_
  refine hs_get hC hW hi_X8 rfl 0 (by decide) lk_X8_93 rfl mo_obj rfl dX8_holiday_28 ?_
  refine lv_if_le (tgt := 36) hx hb dX8_holiday_31 (by decide) (fun c31 => ?_) (fun c31 => ?_)
  · have g16 := hs_b_ne c16
    have hdn : vp_in day 20001 := mo_day_in hI g16
    refine lv_aload_n hx hb dX8_holiday_36 rfl (lv_at hl 0 rfl) ?_
    refine hs_get hC hW hi_X8 rfl 2 (by decide) lk_X8_7 rfl mo_obj rfl dX8_holiday_37 ?_
    refine lv_iload_n hx hb dX8_holiday_40 rfl (lv_at hl 1 rfl) ?_
    refine hs_zald hC hW 2 (mo_bool ha.1 2 rfl) rfl hdn dX8_holiday_41 ?_
    refine lv_istore_n (lv' := [(2, .int _), (0, .ref _), (1, .int _)]) hx hb dX8_holiday_42 rfl hl (by decide) rfl (fun ls hl => ?_)
    refine lv_aload_n hx hb dX8_holiday_43 rfl (lv_at hl 1 rfl) ?_
    refine hs_get hC hW hi_X8 rfl 2 (by decide) lk_X8_7 rfl mo_obj rfl dX8_holiday_44 ?_
    refine lv_iload_n hx hb dX8_holiday_47 rfl (lv_at hl 2 rfl) ?_
    refine lv_iconst (v := 1) hx hb dX8_holiday_48 (by decide) ?_
    refine hs_zast hC hW hL 2 (mo_bool ha.1 2 rfl) (ha.2.2 2 rfl) rfl hdn dX8_holiday_49 (fun H locs hW hL => ?_)
    rw [mo_putB ha.1 2 rfl] at hW
    refine lv_iload_n hx hb dX8_holiday_50 rfl (lv_at hl 0 rfl) ?_
    refine lv_if_ne (tgt := 58) hx hb dX8_holiday_51 (by decide) (fun c51 => ?_) (fun c51 => ?_)
    · refine lv_iconst (v := 0) hx hb dX8_holiday_58 (by decide) ?_
      exact hs_zret hC hW hL hr hlocks (by decide) (by decide) dX8_holiday_59 (by first | rfl | decide) ⟨rfl, rfl, _, _, _, _, rfl, rfl, ⟨_, _, mo_J_fr hI (by simp [mo_up]) (by simp [mo_up])⟩, ⟨by rw [if_pos g16]; rfl, fun _ => ⟨by first | rw [if_pos c51] | rw [if_neg c51], rfl⟩, fun q => absurd g16 q⟩⟩
    refine lv_iconst (v := 1) hx hb dX8_holiday_54 (by decide) ?_
    refine lv_goto (tgt := 59) hx hb dX8_holiday_55 (by decide) ?_
    exact hs_zret hC hW hL hr hlocks (by decide) (by decide) dX8_holiday_59 (by first | rfl | decide) ⟨rfl, rfl, _, _, _, _, rfl, rfl, ⟨_, _, mo_J_fr hI (by simp [mo_up]) (by simp [mo_up])⟩, ⟨by rw [if_pos g16]; rfl, fun _ => ⟨by first | rw [if_pos c51] | rw [if_neg c51], rfl⟩, fun q => absurd g16 q⟩⟩
  exact absurd c31 (by first | decide | simp [mo_up])
