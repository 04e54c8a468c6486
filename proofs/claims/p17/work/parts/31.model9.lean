/-! the reference: oneDay, goTo, nextDay, business -/
set_option maxHeartbeats 4000000 in
set_option maxRecDepth 100000 in
/-- Model.oneDay -/
theorem ct_X8_oneDay (E : hs_E) (mo : Nat) (ar : Nat → Nat) (ix : Nat → Option Nat) (sc : Nat → Int32) (mI : Nat → Nat → Int32) (mL : Nat → Nat → Int64) (F : hs_G) (ha : mo_ok E mo ar ix) (N d S : Nat) (hI : mo_I sc mI N d S) (hd : d < 20000) : hM E yX8_oneDay ({ frames := 4, cells := 0, slots := 0, locals := 130 }) [.ref mo] (mo_W E mo ar ix sc mI mL F) (mo_P E mo ar ix F (fun v sc2 mI2 _ => (∃ x : Int32, v = some (.int x)) ∧ sc2 0 = sc 0 ∧ mI2 2 = mI 2 ∧ ∃ S2 : Nat, mo_I sc2 mI2 N (d + 1) S2)) := by
  refine hs_ofW (cc := cX8_oneDay) (maxL := 3) (ret := (some .int)) (by decide) co_X8_oneDay ?_
  intro p e s m args below meth c hC hlocks hr hin0 hnoh hW
  obtain ⟨hx, hb, hml, hown, hts, -⟩ := id hC
  have hE := hW
  have hL : ∀ q ∈ ([] : List Loc), (eH E).size ≤ q.base := fun q hq => nomatch hq
  have hl := lv_entry ([.ref mo] : List Value) (n := 3) (Nat.le_of_ble_eq_true rfl)
  rw [lg_entry_eq]
  generalize (lg_sl [.ref mo] ++ List.replicate (3 - (lg_sl [.ref mo]).length) Slot.unset).toArray = ls at hl ⊢
  have hl : lv_has ls 3 [(0, .ref mo)] := hl
  refine lv_aload_n hx hb dX8_oneDay_0 rfl (lv_at hl 0 rfl) ?_
  refine lv_dup hx hb dX8_oneDay_1 rfl ?_
  refine hs_get hC hW hi_X8 rfl 1 (by decide) lk_X8_129 rfl mo_obj rfl dX8_oneDay_2 ?_
  refine lv_iconst (v := 1) hx hb dX8_oneDay_5 (by decide) ?_
  refine lv_iadd hx hb dX8_oneDay_6 ?_
  refine hs_put hC hW hL hi_X8 tyX8 tyX8_ok nmX8 rfl 1 (by decide) lk_X8_129 rfl rfl mo_obj ha.2.1 rfl rfl (Nat.le_of_ble_eq_true rfl) dX8_oneDay_7 (fun H locs hW hL => ?_)
  rw [mo_putS (mo_fs1 _)] at hW
  have hI1 : mo_I (mo_up sc 1 (sc 1 + 1)) mI N (d + 1) S := mo_I_day hI hd
  refine lv_aload_n hx hb dX8_oneDay_10 rfl (lv_at hl 0 rfl) ?_
  refine hs_get hC hW hi_X8 rfl 1 (by decide) lk_X8_129 rfl mo_obj rfl dX8_oneDay_11 ?_
  refine hs_callS hC hs_Tok hW hL (ct_X8_weekday E _ _) cw_X8_weekday lk_X8_110 st_X8_weekday hl.1 (by decide) (Nat.le_of_ble_eq_true rfl) dX8_oneDay_14 (hs_kp1 (fun H locs hW hL => ?_))
  refine lv_iconst (v := 5) hx hb dX8_oneDay_17 (by decide) ?_
  refine lv_icmp_gt (tgt := 33) hx hb dX8_oneDay_18 (by decide) (fun c18 => ?_) (fun c18 => ?_)
  · refine lv_iconst (v := 0) hx hb dX8_oneDay_33 (by decide) ?_
    exact hs_iret hC hW hL hr hlocks (by decide) (by decide) dX8_oneDay_34 ⟨rfl, rfl, _, _, _, _, rfl, rfl, ⟨_, rfl⟩, rfl, rfl, S, hI1⟩
  refine lv_aload_n hx hb dX8_oneDay_21 rfl (lv_at hl 0 rfl) ?_
  refine hs_get hC hW hi_X8 rfl 2 (by decide) lk_X8_7 rfl mo_obj rfl dX8_oneDay_22 ?_
  refine lv_aload_n hx hb dX8_oneDay_25 rfl (lv_at hl 0 rfl) ?_
  refine hs_get hC hW hi_X8 rfl 1 (by decide) lk_X8_129 rfl mo_obj rfl dX8_oneDay_26 ?_
  refine hs_zald hC hW 2 (mo_bool ha.1 2 rfl) rfl (by rw [hI1.2.2.1]; exact vp_in_nI (N := 20001) (by omega) (by decide)) dX8_oneDay_29 ?_
  refine lv_if_eq (tgt := 35) hx hb dX8_oneDay_30 (by decide) (fun c30 => ?_) (fun c30 => ?_)
  · refine lv_aload_n hx hb dX8_oneDay_35 rfl (lv_at hl 0 rfl) ?_
    refine hs_callV hC hs_Tok hW hL (ct_X8_settleGroups E _ _ _ _ _ _ _ ha N (d + 1) S hI1) cw_X8_settleGroups lk_X8_157 im_X8_settleGroups se_X8_settleGroups (hs_recv hC hW mo_obj rfl) hl.1 (by decide) (Nat.le_of_ble_eq_true rfl) dX8_oneDay_36 (mo_k1 (fun _ _ _ _ h => h.1) (fun x sc1 mI1 mL1 H locs hq hW hL => ?_))
    obtain ⟨-, S1, hI2, hK2⟩ := hq
    refine lv_istore_n (lv' := [(1, .int _), (0, .ref _)]) hx hb dX8_oneDay_39 rfl hl (by decide) rfl (fun ls hl => ?_)
    refine lv_aload_n hx hb dX8_oneDay_40 rfl (lv_at hl 1 rfl) ?_
    refine hs_callV hC hs_Tok hW hL (ct_X8_settleParts E _ _ _ _ _ _ _ ha N (d + 1) S1 hI2.b hI2.2.2.2.2.2.2.1 hI2.rows) cw_X8_settleParts lk_X8_161 im_X8_settleParts se_X8_settleParts (hs_recv hC hW mo_obj rfl) hl.1 (by decide) (Nat.le_of_ble_eq_true rfl) dX8_oneDay_41 (mo_k0 (fun _ _ _ _ h => h.1) (fun sc2 mI2 mL2 H locs hq hW hL => ?_))
    obtain ⟨-, rw, S2, hnd, hld, hSS, hB2, hs1, hm1⟩ := hq
    obtain ⟨hG2, fa, hF2, hS2⟩ := mo_day_pre hI2 hnd hld hSS hs1 hm1
    refine lv_iconst (v := 0) hx hb dX8_oneDay_44 (by decide) ?_
    refine lv_istore_n (lv' := [(2, .int _), (1, .int _), (0, .ref _)]) hx hb dX8_oneDay_45 rfl hl (by decide) rfl (fun ls hl => ?_)
    refine hs_loop (σ := Nat × Int32 × (Nat → Nat → Int32) × (Nat → Nat)) (fun x => match x with | (i, n, mI3, fa3) => N - i) (fun x H locs ls => match x with | (i, n, mI3, fa3) => ((i ≤ N ∧ mI3 2 = mI2 2) ∧ mo_Fl mI2 (sc2 1) N fa i mI3 fa3) ∧ hs_W (eD E) vwCl (eH E) (mo_W E mo ar ix sc2 mI3 mL2 F) H ∧ (∀ q ∈ locs, (eH E).size ≤ q.base) ∧ lv_has ls 3 [(0, .ref mo), (1, .int n), (2, .int (nI i))]) ?_ (0, _, mI2, fa) _ _ _ ⟨⟨⟨Nat.zero_le _, rfl⟩, mo_Fl_0 hG2 hF2⟩, hW, hL, (lv_sub hl [2, 1, 0] rfl)⟩
    rintro ⟨i, n, mI3, fa3⟩ H locs ls ⟨hinv, hW, hL, hl⟩ ih
    replace hW : hs_W (eD E) vwCl (eH E) (mo_W E mo ar ix sc2 mI3 mL2 F) H := hW
    replace hl : lv_has ls 3 [(0, .ref mo), (1, .int n), (2, .int (nI i))] := hl
    refine lv_iload_n hx hb dX8_oneDay_46 rfl (lv_at hl 2 rfl) ?_
    refine lv_aload_n hx hb dX8_oneDay_47 rfl (lv_at hl 0 rfl) ?_
    refine hs_get hC hW hi_X8 rfl 4 (by decide) lk_X8_107 rfl mo_obj rfl dX8_oneDay_48 ?_
    refine lv_icmp_ge (tgt := 142) hx hb dX8_oneDay_51 (by decide) (fun c51 => ?_) (fun c51 => ?_)
    · refine lv_iload_n hx hb dX8_oneDay_142 rfl (lv_at hl 1 rfl) ?_
      exact hs_iret hC hW hL hr hlocks (by decide) (by decide) dX8_oneDay_143 ⟨rfl, rfl, _, _, _, _, rfl, rfl, ⟨_, rfl⟩, (hs1 0 (by decide) (by decide)).trans (hK2.1 0 (by decide) (by decide)), hinv.1.2.trans ((hm1 2 (by decide) (by decide) (by decide) (by decide)).trans (hK2.2 2 (by decide) (by decide) (by decide) (by decide) (by decide) (by decide))), S2, mo_Fl_end hB2 (Nat.le_antisymm hinv.1.1 (hs_geN hB2.1 (by have := hI.2.1; omega) (by have := hI.2.1; omega) c51) ▸ hinv.2) hS2⟩
    have hlt : i < N := hs_ltN hB2.1 (by have := hI.2.1; omega) (by have := hI.2.1; omega) c51
    have hi150 : i < 150 := Nat.lt_of_lt_of_le hlt hI.2.1
    have hin : vp_in (nI i) 150 := vp_in_nI hi150 (by decide)
    have hcl : (nI i).toNatClampNeg = i := nI_clamp (by omega)
    refine lv_aload_n hx hb dX8_oneDay_54 rfl (lv_at hl 0 rfl) ?_
    refine hs_get hC hW hi_X8 rfl 15 (by decide) lk_X8_48 rfl mo_obj rfl dX8_oneDay_55 ?_
    refine lv_iload_n hx hb dX8_oneDay_58 rfl (lv_at hl 2 rfl) ?_
    refine hs_iald hC hW 0 (mo_int ha.1 15 rfl) rfl hin dX8_oneDay_59 ?_
    refine lv_iconst (v := 1) hx hb dX8_oneDay_60 (by decide) ?_
    refine lv_icmp_ne (tgt := 136) hx hb dX8_oneDay_61 (by decide) (fun c61 => ?_) (fun c61 => ?_)
    · refine lv_iinc (lv' := [(2, .int _), (0, .ref _), (1, .int _)]) hx hb dX8_oneDay_136 hl (k := 2) rfl rfl (by decide) rfl (fun ls hl => ?_)
      refine lv_goto (tgt := 46) hx hb dX8_oneDay_139 (by decide) ?_
      rw [hs_inc] at hl
      exact ih (i + 1, n, mI3, fa3) _ _ _ (by show N - (i + 1) < N - i; omega) ⟨⟨⟨hlt, hinv.1.2⟩, mo_Fl_skip hinv.2 (fun z => c61 (by rw [hcl]; exact z.1))⟩, hW, hL, (lv_sub hl [1, 2, 0] rfl)⟩
    refine lv_aload_n hx hb dX8_oneDay_64 rfl (lv_at hl 0 rfl) ?_
    refine hs_get hC hW hi_X8 rfl 16 (by decide) lk_X8_51 rfl mo_obj rfl dX8_oneDay_65 ?_
    refine lv_iload_n hx hb dX8_oneDay_68 rfl (lv_at hl 2 rfl) ?_
    refine hs_iald hC hW 0 (mo_int ha.1 16 rfl) rfl hin dX8_oneDay_69 ?_
    refine lv_aload_n hx hb dX8_oneDay_70 rfl (lv_at hl 0 rfl) ?_
    refine hs_get hC hW hi_X8 rfl 1 (by decide) lk_X8_129 rfl mo_obj rfl dX8_oneDay_71 ?_
    refine lv_icmp_gt (tgt := 136) hx hb dX8_oneDay_74 (by decide) (fun c74 => ?_) (fun c74 => ?_)
    · refine lv_iinc (lv' := [(2, .int _), (0, .ref _), (1, .int _)]) hx hb dX8_oneDay_136 hl (k := 2) rfl rfl (by decide) rfl (fun ls hl => ?_)
      refine lv_goto (tgt := 46) hx hb dX8_oneDay_139 (by decide) ?_
      rw [hs_inc] at hl
      exact ih (i + 1, n, mI3, fa3) _ _ _ (by show N - (i + 1) < N - i; omega) ⟨⟨⟨hlt, hinv.1.2⟩, mo_Fl_skip hinv.2 (fun z => absurd z.2 (Int32.not_le.mpr (by rw [hcl] at c74; exact c74)))⟩, hW, hL, (lv_sub hl [1, 2, 0] rfl)⟩
    have hp : mI3 15 i = 1 := by rw [hcl] at c61; exact c61
    have hd9 : mI3 16 i ≤ sc2 1 := by rw [hcl] at c74; exact Int32.not_lt.mp c74
    have hf9 : mI3 21 i = nI (fa3 i) := (hinv.2.2.1.1 i hlt).1
    have hle : fa3 i ≤ 10 := (hinv.2.2.1.1 i hlt).2.1
    refine lv_aload_n hx hb dX8_oneDay_77 rfl (lv_at hl 0 rfl) ?_
    refine hs_get hC hW hi_X8 rfl 21 (by decide) lk_X8_66 rfl mo_obj rfl dX8_oneDay_78 ?_
    refine lv_iload_n hx hb dX8_oneDay_81 rfl (lv_at hl 2 rfl) ?_
    refine lv_dup2_11 hx hb dX8_oneDay_82 rfl rfl ?_
    refine hs_iald hC hW 0 (mo_int ha.1 21 rfl) rfl hin dX8_oneDay_83 ?_
    refine lv_iconst (v := 1) hx hb dX8_oneDay_84 (by decide) ?_
    refine lv_iadd hx hb dX8_oneDay_85 ?_
    refine hs_iast hC hW hL 0 (mo_int ha.1 21 rfl) (ha.2.2 21 rfl) rfl hin dX8_oneDay_86 (fun H locs hW hL => ?_)
    rw [mo_putI ha.1 21 rfl] at hW
    refine lv_aload_n hx hb dX8_oneDay_87 rfl (lv_at hl 0 rfl) ?_
    refine hs_get hC hW hi_X8 rfl 15 (by decide) lk_X8_48 rfl mo_obj rfl dX8_oneDay_88 ?_
    refine lv_iload_n hx hb dX8_oneDay_91 rfl (lv_at hl 2 rfl) ?_
    refine lv_aload_n hx hb dX8_oneDay_92 rfl (lv_at hl 0 rfl) ?_
    refine hs_get hC hW hi_X8 rfl 21 (by decide) lk_X8_66 rfl mo_obj rfl dX8_oneDay_93 ?_
    refine lv_iload_n hx hb dX8_oneDay_96 rfl (lv_at hl 2 rfl) ?_
    refine hs_iald hC hW 0 (mo_int ha.1 21 rfl) rfl hin dX8_oneDay_97 ?_
    refine lv_bipush (v := 10) hx hb dX8_oneDay_98 (by decide) ?_
    refine lv_icmp_ne (tgt := 107) hx hb dX8_oneDay_100 (by decide) (fun c100 => ?_) (fun c100 => ?_)
    · refine lv_iconst (v := 1) hx hb dX8_oneDay_107 (by decide) ?_
      refine hs_iast hC hW hL 0 (mo_int ha.1 15 rfl) (ha.2.2 15 rfl) rfl hin dX8_oneDay_108 (fun H locs hW hL => ?_)
      rw [mo_putI ha.1 15 rfl] at hW
      refine lv_aload_n hx hb dX8_oneDay_109 rfl (lv_at hl 0 rfl) ?_
      refine hs_get hC hW hi_X8 rfl 22 (by decide) lk_X8_69 rfl mo_obj rfl dX8_oneDay_110 ?_
      refine lv_iload_n hx hb dX8_oneDay_113 rfl (lv_at hl 2 rfl) ?_
      refine lv_aload_n hx hb dX8_oneDay_114 rfl (lv_at hl 0 rfl) ?_
      refine hs_get hC hW hi_X8 rfl 21 (by decide) lk_X8_66 rfl mo_obj rfl dX8_oneDay_115 ?_
      refine lv_iload_n hx hb dX8_oneDay_118 rfl (lv_at hl 2 rfl) ?_
      refine hs_iald hC hW 0 (mo_int ha.1 21 rfl) rfl hin dX8_oneDay_119 ?_
      refine lv_bipush (v := 10) hx hb dX8_oneDay_120 (by decide) ?_
      refine lv_icmp_ne (tgt := 129) hx hb dX8_oneDay_122 (by decide) (fun c122 => ?_) (fun c122 => ?_)
      · refine lv_aload_n hx hb dX8_oneDay_129 rfl (lv_at hl 0 rfl) ?_
        refine hs_get hC hW hi_X8 rfl 22 (by decide) lk_X8_69 rfl mo_obj rfl dX8_oneDay_130 ?_
        refine lv_iload_n hx hb dX8_oneDay_133 rfl (lv_at hl 2 rfl) ?_
        refine hs_iald hC hW 0 (mo_int ha.1 22 rfl) rfl hin dX8_oneDay_134 ?_
        refine hs_iast hC hW hL 0 (mo_int ha.1 22 rfl) (ha.2.2 22 rfl) rfl hin dX8_oneDay_135 (fun H locs hW hL => ?_)
        rw [mo_putI ha.1 22 rfl] at hW
        refine lv_iinc (lv' := [(2, .int _), (0, .ref _), (1, .int _)]) hx hb dX8_oneDay_136 hl (k := 2) rfl rfl (by decide) rfl (fun ls hl => ?_)
        refine lv_goto (tgt := 46) hx hb dX8_oneDay_139 (by decide) ?_
        rw [hs_inc] at hl
        rw [hcl, hf9, nI_1] at hW
        exact ih (i + 1, n, _, mo_up fa3 i (fa3 i + 1)) _ _ _ (by show N - (i + 1) < N - i; omega) ⟨⟨⟨hlt, by exact hinv.1.2⟩, mo_Fl_fail hinv.2 hlt hp hd9 (by first | exact Or.inl ⟨(mo_f10 hcl hf9 hle).mp c100, rfl, rfl⟩ | exact Or.inr ⟨fun z => c100 ((mo_f10 hcl hf9 hle).mpr z), rfl, rfl⟩ | exact absurd c100 c122 | exact absurd c122 c100)⟩, hW, hL, (lv_sub hl [1, 2, 0] rfl)⟩
      refine lv_iconst (v := (-1)) hx hb dX8_oneDay_125 (by decide) ?_
      refine lv_goto (tgt := 135) hx hb dX8_oneDay_126 (by decide) ?_
      refine hs_iast hC hW hL 0 (mo_int ha.1 22 rfl) (ha.2.2 22 rfl) rfl hin dX8_oneDay_135 (fun H locs hW hL => ?_)
      rw [mo_putI ha.1 22 rfl] at hW
      refine lv_iinc (lv' := [(2, .int _), (0, .ref _), (1, .int _)]) hx hb dX8_oneDay_136 hl (k := 2) rfl rfl (by decide) rfl (fun ls hl => ?_)
      refine lv_goto (tgt := 46) hx hb dX8_oneDay_139 (by decide) ?_
      rw [hs_inc] at hl
      rw [hcl, hf9, nI_1] at hW
      exact ih (i + 1, n, _, mo_up fa3 i (fa3 i + 1)) _ _ _ (by show N - (i + 1) < N - i; omega) ⟨⟨⟨hlt, by exact hinv.1.2⟩, mo_Fl_fail hinv.2 hlt hp hd9 (by first | exact Or.inl ⟨(mo_f10 hcl hf9 hle).mp c100, rfl, rfl⟩ | exact Or.inr ⟨fun z => c100 ((mo_f10 hcl hf9 hle).mpr z), rfl, rfl⟩ | exact absurd c100 c122 | exact absurd c122 c100)⟩, hW, hL, (lv_sub hl [1, 2, 0] rfl)⟩
    refine lv_iconst (v := 4) hx hb dX8_oneDay_103 (by decide) ?_
    refine lv_goto (tgt := 108) hx hb dX8_oneDay_104 (by decide) ?_
    refine hs_iast hC hW hL 0 (mo_int ha.1 15 rfl) (ha.2.2 15 rfl) rfl hin dX8_oneDay_108 (fun H locs hW hL => ?_)
    rw [mo_putI ha.1 15 rfl] at hW
    refine lv_aload_n hx hb dX8_oneDay_109 rfl (lv_at hl 0 rfl) ?_
    refine hs_get hC hW hi_X8 rfl 22 (by decide) lk_X8_69 rfl mo_obj rfl dX8_oneDay_110 ?_
    refine lv_iload_n hx hb dX8_oneDay_113 rfl (lv_at hl 2 rfl) ?_
    refine lv_aload_n hx hb dX8_oneDay_114 rfl (lv_at hl 0 rfl) ?_
    refine hs_get hC hW hi_X8 rfl 21 (by decide) lk_X8_66 rfl mo_obj rfl dX8_oneDay_115 ?_
    refine lv_iload_n hx hb dX8_oneDay_118 rfl (lv_at hl 2 rfl) ?_
    refine hs_iald hC hW 0 (mo_int ha.1 21 rfl) rfl hin dX8_oneDay_119 ?_
    refine lv_bipush (v := 10) hx hb dX8_oneDay_120 (by decide) ?_
    refine lv_icmp_ne (tgt := 129) hx hb dX8_oneDay_122 (by decide) (fun c122 => ?_) (fun c122 => ?_)
    · refine lv_aload_n hx hb dX8_oneDay_129 rfl (lv_at hl 0 rfl) ?_
      refine hs_get hC hW hi_X8 rfl 22 (by decide) lk_X8_69 rfl mo_obj rfl dX8_oneDay_130 ?_
      refine lv_iload_n hx hb dX8_oneDay_133 rfl (lv_at hl 2 rfl) ?_
      refine hs_iald hC hW 0 (mo_int ha.1 22 rfl) rfl hin dX8_oneDay_134 ?_
      refine hs_iast hC hW hL 0 (mo_int ha.1 22 rfl) (ha.2.2 22 rfl) rfl hin dX8_oneDay_135 (fun H locs hW hL => ?_)
      rw [mo_putI ha.1 22 rfl] at hW
      refine lv_iinc (lv' := [(2, .int _), (0, .ref _), (1, .int _)]) hx hb dX8_oneDay_136 hl (k := 2) rfl rfl (by decide) rfl (fun ls hl => ?_)
      refine lv_goto (tgt := 46) hx hb dX8_oneDay_139 (by decide) ?_
      rw [hs_inc] at hl
      rw [hcl, hf9, nI_1] at hW
      exact ih (i + 1, n, _, mo_up fa3 i (fa3 i + 1)) _ _ _ (by show N - (i + 1) < N - i; omega) ⟨⟨⟨hlt, by exact hinv.1.2⟩, mo_Fl_fail hinv.2 hlt hp hd9 (by first | exact Or.inl ⟨(mo_f10 hcl hf9 hle).mp c100, rfl, rfl⟩ | exact Or.inr ⟨fun z => c100 ((mo_f10 hcl hf9 hle).mpr z), rfl, rfl⟩ | exact absurd c100 c122 | exact absurd c122 c100)⟩, hW, hL, (lv_sub hl [1, 2, 0] rfl)⟩
    refine lv_iconst (v := (-1)) hx hb dX8_oneDay_125 (by decide) ?_
    refine lv_goto (tgt := 135) hx hb dX8_oneDay_126 (by decide) ?_
    refine hs_iast hC hW hL 0 (mo_int ha.1 22 rfl) (ha.2.2 22 rfl) rfl hin dX8_oneDay_135 (fun H locs hW hL => ?_)
    rw [mo_putI ha.1 22 rfl] at hW
    refine lv_iinc (lv' := [(2, .int _), (0, .ref _), (1, .int _)]) hx hb dX8_oneDay_136 hl (k := 2) rfl rfl (by decide) rfl (fun ls hl => ?_)
    refine lv_goto (tgt := 46) hx hb dX8_oneDay_139 (by decide) ?_
    rw [hs_inc] at hl
    rw [hcl, hf9, nI_1] at hW
    exact ih (i + 1, n, _, mo_up fa3 i (fa3 i + 1)) _ _ _ (by show N - (i + 1) < N - i; omega) ⟨⟨⟨hlt, by exact hinv.1.2⟩, mo_Fl_fail hinv.2 hlt hp hd9 (by first | exact Or.inl ⟨(mo_f10 hcl hf9 hle).mp c100, rfl, rfl⟩ | exact Or.inr ⟨fun z => c100 ((mo_f10 hcl hf9 hle).mpr z), rfl, rfl⟩ | exact absurd c100 c122 | exact absurd c122 c100)⟩, hW, hL, (lv_sub hl [1, 2, 0] rfl)⟩
  refine lv_iconst (v := 0) hx hb dX8_oneDay_33 (by decide) ?_
  exact hs_iret hC hW hL hr hlocks (by decide) (by decide) dX8_oneDay_34 ⟨rfl, rfl, _, _, _, _, rfl, rfl, ⟨_, rfl⟩, rfl, rfl, S, hI1⟩
set_option maxHeartbeats 4000000 in
set_option maxRecDepth 100000 in
/-- Model.goTo -/
theorem ct_X8_goTo (E : hs_E) (mo : Nat) (ar : Nat → Nat) (ix : Nat → Option Nat) (sc : Nat → Int32) (mI : Nat → Nat → Int32) (mL : Nat → Nat → Int64) (F : hs_G) (ha : mo_ok E mo ar ix) (dy : Int32) (N d S : Nat) (hI : mo_I sc mI N d S) : hM E yX8_goTo ({ frames := 5, cells := 0, slots := 0, locals := 160 }) [.ref mo, .int dy] (mo_W E mo ar ix sc mI mL F) (mo_P E mo ar ix F (fun v sc2 mI2 _ => (∃ x : Int32, v = some (.int x)) ∧ mI2 2 = mI 2 ∧ ∃ N2 S2 : Nat, mo_I sc2 mI2 N2 (mo_go d dy) S2)) := by
  refine hs_ofW (cc := cX8_goTo) (maxL := 3) (ret := (some .int)) (by decide) co_X8_goTo ?_
  intro p e s m args below meth c hC hlocks hr hin0 hnoh hW
  obtain ⟨hx, hb, hml, hown, hts, -⟩ := id hC
  have hE := hW
  have hL : ∀ q ∈ ([] : List Loc), (eH E).size ≤ q.base := fun q hq => nomatch hq
  have hl := lv_entry ([.ref mo, .int dy] : List Value) (n := 3) (Nat.le_of_ble_eq_true rfl)
  rw [lg_entry_eq]
  generalize (lg_sl [.ref mo, .int dy] ++ List.replicate (3 - (lg_sl [.ref mo, .int dy]).length) Slot.unset).toArray = ls at hl ⊢
  have hl : lv_has ls 3 [(0, .ref mo), (1, .int dy)] := hl
  refine lv_aload_n hx hb dX8_goTo_0 rfl (lv_at hl 0 rfl) ?_
  refine lv_iload_n hx hb dX8_goTo_1 rfl (lv_at hl 1 rfl) ?_
  refine lv_i2l hx hb dX8_goTo_2 rfl ?_
  refine lv_aload_n hx hb dX8_goTo_3 rfl (lv_at hl 0 rfl) ?_
  refine hs_get hC hW hi_X8 rfl 1 (by decide) lk_X8_129 rfl mo_obj rfl dX8_goTo_4 ?_
  refine lv_iconst (v := 1) hx hb dX8_goTo_7 (by decide) ?_
  refine lv_iadd hx hb dX8_goTo_8 ?_
  refine lv_i2l hx hb dX8_goTo_9 rfl ?_
  refine lv_aload_n hx hb dX8_goTo_10 rfl (lv_at hl 0 rfl) ?_
  refine hs_get hC hW hi_X8 rfl 1 (by decide) lk_X8_129 rfl mo_obj rfl dX8_goTo_11 ?_
  refine lv_sipush (v := 400) hx hb dX8_goTo_14 (by decide) ?_
  refine lv_iadd hx hb dX8_goTo_17 ?_
  refine lv_i2l hx hb dX8_goTo_18 rfl ?_
  refine hs_callS hC hs_Tok hW hL (ct_X8_in E _ _ _ _) cw_X8_in lk_X8_99 st_X8_in hl.1 (by decide) (Nat.le_of_ble_eq_true rfl) dX8_goTo_19 (hs_kp1 (fun H locs hW hL => ?_))
  refine lv_if_eq (tgt := 36) hx hb dX8_goTo_22 (by decide) (fun c22 => ?_) (fun c22 => ?_)
  · refine lv_iconst (v := 1) hx hb dX8_goTo_36 (by decide) ?_
    refine hs_put hC hW hL hi_X8 tyX8 tyX8_ok nmX8 rfl 0 (by decide) lk_X8_93 rfl rfl mo_obj ha.2.1 rfl rfl (Nat.le_of_ble_eq_true rfl) dX8_goTo_37 (fun H locs hW hL => ?_)
    rw [mo_putS (mo_fs0 _)] at hW
    refine lv_iconst (v := 0) hx hb dX8_goTo_40 (by decide) ?_
    refine lv_istore_n (lv' := [(2, .int _), (0, .ref _), (1, .int _)]) hx hb dX8_goTo_41 rfl hl (by decide) rfl (fun ls hl => ?_)
    refine lv_aload_n hx hb dX8_goTo_42 rfl (lv_at hl 1 rfl) ?_
    refine hs_get hC hW hi_X8 rfl 0 (by decide) lk_X8_93 rfl mo_obj rfl dX8_goTo_43 ?_
    refine lv_if_ne (tgt := 67) hx hb dX8_goTo_46 (by decide) (fun c46 => ?_) (fun c46 => ?_)
    · refine lv_iload_n hx hb dX8_goTo_67 rfl (lv_at hl 0 rfl) ?_
      exact hs_iret hC hW hL hr hlocks (by decide) (by decide) dX8_goTo_68 ⟨rfl, rfl, _, _, _, _, rfl, rfl, ⟨_, rfl⟩, rfl, N, S, by (first | rw [mo_go_n1 hI.2.2.1 hI.2.2.2.1 c22] | rw [mo_go_n2 c29]); exact mo_J_fr hI ⟨rfl, rfl, rfl⟩ ⟨rfl, rfl, rfl, rfl, rfl, rfl⟩⟩
    exact absurd c46 (by first | decide | simp [mo_up])
  refine lv_iload_n hx hb dX8_goTo_25 rfl (lv_at hl 1 rfl) ?_
  refine lv_sipush (v := 20000) hx hb dX8_goTo_26 (by decide) ?_
  refine lv_icmp_gt (tgt := 36) hx hb dX8_goTo_29 (by decide) (fun c29 => ?_) (fun c29 => ?_)
  · refine lv_iconst (v := 1) hx hb dX8_goTo_36 (by decide) ?_
    refine hs_put hC hW hL hi_X8 tyX8 tyX8_ok nmX8 rfl 0 (by decide) lk_X8_93 rfl rfl mo_obj ha.2.1 rfl rfl (Nat.le_of_ble_eq_true rfl) dX8_goTo_37 (fun H locs hW hL => ?_)
    rw [mo_putS (mo_fs0 _)] at hW
    refine lv_iconst (v := 0) hx hb dX8_goTo_40 (by decide) ?_
    refine lv_istore_n (lv' := [(2, .int _), (0, .ref _), (1, .int _)]) hx hb dX8_goTo_41 rfl hl (by decide) rfl (fun ls hl => ?_)
    refine lv_aload_n hx hb dX8_goTo_42 rfl (lv_at hl 1 rfl) ?_
    refine hs_get hC hW hi_X8 rfl 0 (by decide) lk_X8_93 rfl mo_obj rfl dX8_goTo_43 ?_
    refine lv_if_ne (tgt := 67) hx hb dX8_goTo_46 (by decide) (fun c46 => ?_) (fun c46 => ?_)
    · refine lv_iload_n hx hb dX8_goTo_67 rfl (lv_at hl 0 rfl) ?_
      exact hs_iret hC hW hL hr hlocks (by decide) (by decide) dX8_goTo_68 ⟨rfl, rfl, _, _, _, _, rfl, rfl, ⟨_, rfl⟩, rfl, N, S, by (first | rw [mo_go_n1 hI.2.2.1 hI.2.2.2.1 c22] | rw [mo_go_n2 c29]); exact mo_J_fr hI ⟨rfl, rfl, rfl⟩ ⟨rfl, rfl, rfl, rfl, rfl, rfl⟩⟩
    exact absurd c46 (by first | decide | simp [mo_up])
  refine lv_iconst (v := 0) hx hb dX8_goTo_32 (by decide) ?_
  refine lv_goto (tgt := 37) hx hb dX8_goTo_33 (by decide) ?_
  refine hs_put hC hW hL hi_X8 tyX8 tyX8_ok nmX8 rfl 0 (by decide) lk_X8_93 rfl rfl mo_obj ha.2.1 rfl rfl (Nat.le_of_ble_eq_true rfl) dX8_goTo_37 (fun H locs hW hL => ?_)
  rw [mo_putS (mo_fs0 _)] at hW
  refine lv_iconst (v := 0) hx hb dX8_goTo_40 (by decide) ?_
  refine lv_istore_n (lv' := [(2, .int _), (0, .ref _), (1, .int _)]) hx hb dX8_goTo_41 rfl hl (by decide) rfl (fun ls hl => ?_)
  obtain ⟨D, hD, hdD, hdy, hgo⟩ := mo_go_y hI.2.2.1 hI.2.2.2.1 c22 c29
  refine hs_loop (σ := Int32 × Nat × (Nat → Int32) × (Nat → Nat → Int32) × (Nat → Nat → Int64) × Nat) (fun x => match x with | (n, d1, sc1, mI1, mL1, S1) => D - d1) (fun x H locs ls => match x with | (n, d1, sc1, mI1, mL1, S1) => (mo_I sc1 mI1 N d1 S1 ∧ sc1 0 = 0 ∧ d1 ≤ D ∧ mI1 2 = mI 2) ∧ hs_W (eD E) vwCl (eH E) (mo_W E mo ar ix sc1 mI1 mL1 F) H ∧ (∀ q ∈ locs, (eH E).size ≤ q.base) ∧ lv_has ls 3 [(0, .ref mo), (1, .int dy), (2, .int n)]) ?_ (0, d, mo_up sc 0 0, mI, mL, S) _ _ _ ⟨⟨mo_J_fr hI ⟨rfl, rfl, rfl⟩ ⟨rfl, rfl, rfl, rfl, rfl, rfl⟩, rfl, hdD, rfl⟩, hW, hL, (lv_sub hl [1, 2, 0] rfl)⟩
  rintro ⟨n, d1, sc1, mI1, mL1, S1⟩ H locs ls ⟨hinv, hW, hL, hl⟩ ih
  replace hW : hs_W (eD E) vwCl (eH E) (mo_W E mo ar ix sc1 mI1 mL1 F) H := hW
  replace hl : lv_has ls 3 [(0, .ref mo), (1, .int dy), (2, .int n)] := hl
  refine lv_aload_n hx hb dX8_goTo_42 rfl (lv_at hl 0 rfl) ?_
  refine hs_get hC hW hi_X8 rfl 0 (by decide) lk_X8_93 rfl mo_obj rfl dX8_goTo_43 ?_
  refine lv_if_ne (tgt := 67) hx hb dX8_goTo_46 (by decide) (fun c46 => ?_) (fun c46 => ?_)
  · exact absurd c46 (fun z => z hinv.2.1)
  refine lv_aload_n hx hb dX8_goTo_49 rfl (lv_at hl 0 rfl) ?_
  refine hs_get hC hW hi_X8 rfl 1 (by decide) lk_X8_129 rfl mo_obj rfl dX8_goTo_50 ?_
  refine lv_iload_n hx hb dX8_goTo_53 rfl (lv_at hl 1 rfl) ?_
  refine lv_icmp_ge (tgt := 67) hx hb dX8_goTo_54 (by decide) (fun c54 => ?_) (fun c54 => ?_)
  · refine lv_iload_n hx hb dX8_goTo_67 rfl (lv_at hl 2 rfl) ?_
    exact hs_iret hC hW hL hr hlocks (by decide) (by decide) dX8_goTo_68 ⟨rfl, rfl, _, _, _, _, rfl, rfl, ⟨_, rfl⟩, hinv.2.2.2, N, S1, by (have e9 : d1 = D := Nat.le_antisymm hinv.2.2.1 ((nI_leI (by omega) (by have := hinv.1.2.2.2.1; omega)).mp (by rw [hdy, hinv.1.2.2.1] at c54; exact c54))); rw [hgo, ← e9]; exact hinv.1⟩
  have hlt : d1 < D := Nat.not_le.mp fun z => c54 (by rw [hdy, hinv.1.2.2.1]; exact (nI_leI (by omega) (by have := hinv.1.2.2.2.1; omega)).mpr z)
  refine lv_iload_n hx hb dX8_goTo_57 rfl (lv_at hl 2 rfl) ?_
  refine lv_aload_n hx hb dX8_goTo_58 rfl (lv_at hl 0 rfl) ?_
  refine hs_callV hC hs_Tok hW hL (ct_X8_oneDay E _ _ _ _ _ _ _ ha N d1 S1 hinv.1 (by omega)) cw_X8_oneDay lk_X8_201 im_X8_oneDay se_X8_oneDay (hs_recv hC hW mo_obj rfl) hl.1 (by decide) (Nat.le_of_ble_eq_true rfl) dX8_goTo_59 (mo_k1 (fun _ _ _ _ h => h.1) (fun x sc2 mI2 mL2 H locs hq hW hL => ?_))
  obtain ⟨-, hs0, hm2, S2, hI2⟩ := hq
  refine lv_iadd hx hb dX8_goTo_62 ?_
  refine lv_istore_n (lv' := [(2, .int _), (0, .ref _), (1, .int _)]) hx hb dX8_goTo_63 rfl hl (by decide) rfl (fun ls hl => ?_)
  refine lv_goto (tgt := 42) hx hb dX8_goTo_64 (by decide) ?_
  exact ih (_, d1 + 1, _, _, _, S2) _ _ _ (by show D - (d1 + 1) < D - d1; omega) ⟨⟨hI2, hs0.trans hinv.2.1, by omega, hm2.trans hinv.2.2.2⟩, hW, hL, (lv_sub hl [1, 2, 0] rfl)⟩
theorem mo_20 {d : Nat} {x : Int32} (h : x = nI d) (hd : d ≤ 20000) : (x = 20000) = (d = 20000) := by
  subst h
  rw [show (20000 : Int32) = nI 20000 by decide +kernel]
  refine propext ⟨fun z => ?_, fun z => by rw [z]⟩
  have h1 := congrArg Int32.toInt z
  rw [nI_toInt (by omega), nI_toInt (by omega)] at h1
  omega
set_option maxHeartbeats 4000000 in
set_option maxRecDepth 100000 in
/-- Model.nextDay -/
theorem ct_X8_nextDay (E : hs_E) (mo : Nat) (ar : Nat → Nat) (ix : Nat → Option Nat) (sc : Nat → Int32) (mI : Nat → Nat → Int32) (mL : Nat → Nat → Int64) (F : hs_G) (ha : mo_ok E mo ar ix) (N d S : Nat) (hI : mo_I sc mI N d S) : hM E yX8_nextDay ({ frames := 5, cells := 0, slots := 0, locals := 160 }) [.ref mo] (mo_W E mo ar ix sc mI mL F) (mo_P E mo ar ix F (fun v sc2 mI2 _ => (∃ x : Int32, v = some (.int x)) ∧ mI2 2 = mI 2 ∧ ∃ N2 S2 : Nat, mo_I sc2 mI2 N2 (if d < 20000 then d + 1 else d) S2)) := by
  refine hs_ofW (cc := cX8_nextDay) (maxL := 1) (ret := (some .int)) (by decide) co_X8_nextDay ?_
  intro p e s m args below meth c hC hlocks hr hin0 hnoh hW
  obtain ⟨hx, hb, hml, hown, hts, -⟩ := id hC
  have hE := hW
  have hL : ∀ q ∈ ([] : List Loc), (eH E).size ≤ q.base := fun q hq => nomatch hq
  have hl := lv_entry ([.ref mo] : List Value) (n := 1) (Nat.le_of_ble_eq_true rfl)
  rw [lg_entry_eq]
  generalize (lg_sl [.ref mo] ++ List.replicate (1 - (lg_sl [.ref mo]).length) Slot.unset).toArray = ls at hl ⊢
  have hl : lv_has ls 1 [(0, .ref mo)] := hl
  refine lv_aload_n hx hb dX8_nextDay_0 rfl (lv_at hl 0 rfl) ?_
  refine lv_aload_n hx hb dX8_nextDay_1 rfl (lv_at hl 0 rfl) ?_
  refine hs_get hC hW hi_X8 rfl 1 (by decide) lk_X8_129 rfl mo_obj rfl dX8_nextDay_2 ?_
  refine lv_sipush (v := 20000) hx hb dX8_nextDay_5 (by decide) ?_
  refine lv_icmp_ne (tgt := 15) hx hb dX8_nextDay_8 (by decide) (fun c8 => ?_) (fun c8 => ?_)
  · refine lv_iconst (v := 0) hx hb dX8_nextDay_15 (by decide) ?_
    refine hs_put hC hW hL hi_X8 tyX8 tyX8_ok nmX8 rfl 0 (by decide) lk_X8_93 rfl rfl mo_obj ha.2.1 rfl rfl (Nat.le_of_ble_eq_true rfl) dX8_nextDay_16 (fun H locs hW hL => ?_)
    rw [mo_putS (mo_fs0 _)] at hW
    refine lv_aload_n hx hb dX8_nextDay_19 rfl (lv_at hl 0 rfl) ?_
    refine hs_get hC hW hi_X8 rfl 0 (by decide) lk_X8_93 rfl mo_obj rfl dX8_nextDay_20 ?_
    refine lv_if_le (tgt := 30) hx hb dX8_nextDay_23 (by decide) (fun c23 => ?_) (fun c23 => ?_)
    · have hlt : d < 20000 := by rw [mo_20 hI.2.2.1 hI.2.2.2.1] at c8; have := hI.2.2.2.1; omega
      refine lv_aload_n hx hb dX8_nextDay_30 rfl (lv_at hl 0 rfl) ?_
      refine hs_callV hC hs_Tok hW hL (ct_X8_oneDay E _ _ _ _ _ _ _ ha N d S (mo_J_fr hI ⟨rfl, rfl, rfl⟩ ⟨rfl, rfl, rfl, rfl, rfl, rfl⟩) hlt) cw_X8_oneDay lk_X8_201 im_X8_oneDay se_X8_oneDay (hs_recv hC hW mo_obj rfl) hl.1 (by decide) (Nat.le_of_ble_eq_true rfl) dX8_nextDay_31 (mo_k1 (fun _ _ _ _ h => h.1) (fun x sc2 mI2 mL2 H locs hq hW hL => ?_))
      obtain ⟨-, hs0, hm2, hI2⟩ := hq
      exact hs_iret hC hW hL hr hlocks (by decide) (by decide) dX8_nextDay_34 ⟨rfl, rfl, _, _, _, _, rfl, rfl, ⟨_, rfl⟩, by (first | exact rfl | exact hm2), by (first | exact ⟨N, S, by (rw [if_neg (by rw [mo_20 hI.2.2.1 hI.2.2.2.1] at c8; omega)]); exact mo_J_fr hI ⟨rfl, rfl, rfl⟩ ⟨rfl, rfl, rfl, rfl, rfl, rfl⟩⟩ | exact ⟨N, _, by (rw [if_pos hlt]); exact hI2.choose_spec⟩)⟩
    exact absurd c23 (by first | decide | simp [mo_up])
  refine lv_iconst (v := 1) hx hb dX8_nextDay_11 (by decide) ?_
  refine lv_goto (tgt := 16) hx hb dX8_nextDay_12 (by decide) ?_
  refine hs_put hC hW hL hi_X8 tyX8 tyX8_ok nmX8 rfl 0 (by decide) lk_X8_93 rfl rfl mo_obj ha.2.1 rfl rfl (Nat.le_of_ble_eq_true rfl) dX8_nextDay_16 (fun H locs hW hL => ?_)
  rw [mo_putS (mo_fs0 _)] at hW
  refine lv_aload_n hx hb dX8_nextDay_19 rfl (lv_at hl 0 rfl) ?_
  refine hs_get hC hW hi_X8 rfl 0 (by decide) lk_X8_93 rfl mo_obj rfl dX8_nextDay_20 ?_
  refine lv_if_le (tgt := 30) hx hb dX8_nextDay_23 (by decide) (fun c23 => ?_) (fun c23 => ?_)
  · exact absurd c23 (by first | decide | simp [mo_up])
  refine lv_iconst (v := 0) hx hb dX8_nextDay_26 (by decide) ?_
  refine lv_goto (tgt := 34) hx hb dX8_nextDay_27 (by decide) ?_
  exact hs_iret hC hW hL hr hlocks (by decide) (by decide) dX8_nextDay_34 ⟨rfl, rfl, _, _, _, _, rfl, rfl, ⟨_, rfl⟩, by (first | exact rfl | exact hm2), by (first | exact ⟨N, S, by (rw [if_neg (by rw [mo_20 hI.2.2.1 hI.2.2.2.1] at c8; omega)]); exact mo_J_fr hI ⟨rfl, rfl, rfl⟩ ⟨rfl, rfl, rfl, rfl, rfl, rfl⟩⟩ | exact ⟨N, _, by (rw [if_pos hlt]); exact hI2.choose_spec⟩)⟩
theorem mo_nat64 {x : Int32} {b : Int64} {n : Nat} (hb : b.toInt = n) (c : ¬ hs_b (0 ≤ x.toInt64 ∧ x.toInt64 ≤ b) = 0) : ∃ a : Nat, a ≤ n ∧ x = nI a := by
  have h := hs_b_ne c
  simp only [Int64.le_iff_toInt_le, hs_64, hb] at h
  have e0 : Int64.toInt 0 = 0 := by decide
  rw [e0] at h
  obtain ⟨a, ha, rfl⟩ := nI_of (x := x) (by rw [Int32.lt_iff_toInt_lt, Int32.toInt_zero]; omega)
  rw [nI_toInt ha] at h
  exact ⟨a, by omega, rfl⟩
set_option maxHeartbeats 4000000 in
set_option maxRecDepth 100000 in
/-- Model.business -/
theorem ct_X8_business (E : hs_E) (mo : Nat) (ar : Nat → Nat) (ix : Nat → Option Nat) (sc : Nat → Int32) (mI : Nat → Nat → Int32) (mL : Nat → Nat → Int64) (F : hs_G) (ha : mo_ok E mo ar ix) (a b : Int32)  : hM E yX8_business ({ frames := 2, cells := 0, slots := 0, locals := 70 }) [.ref mo, .int a, .int b] (mo_W E mo ar ix sc mI mL F) (mo_P E mo ar ix F (fun v sc2 mI2 _ => (∃ x : Int32, v = some (.int x)) ∧ mI2 = mI ∧ (∀ j, j ≠ 0 → sc2 j = sc j) ∧ ((0 ≤ a.toInt64 ∧ a.toInt64 ≤ 20000) ∧ (0 ≤ b.toInt64 ∧ b.toInt64 ≤ 1000) → sc2 0 = 0 ∧ ∃ a8 b8 k8 : Nat, (a = nI a8 ∧ a8 ≤ 20000) ∧ (b = nI b8 ∧ b8 ≤ 1000) ∧ v = some (.int (nI (a8 + k8))) ∧ k8 ≤ 90000 ∧ bz (bz_m (mI 2)) a8 b8 k8) ∧ (¬ ((0 ≤ a.toInt64 ∧ a.toInt64 ≤ 20000) ∧ (0 ≤ b.toInt64 ∧ b.toInt64 ≤ 1000)) → sc2 0 = 1))) := by
  refine hs_ofW (cc := cX8_business) (maxL := 3) (ret := (some .int)) (by decide) co_X8_business ?_
  intro p e s m args below meth c hC hlocks hr hin0 hnoh hW
  obtain ⟨hx, hb, hml, hown, hts, -⟩ := id hC
  have hE := hW
  have hL : ∀ q ∈ ([] : List Loc), (eH E).size ≤ q.base := fun q hq => nomatch hq
  have hl := lv_entry ([.ref mo, .int a, .int b] : List Value) (n := 3) (Nat.le_of_ble_eq_true rfl)
  rw [lg_entry_eq]
  generalize (lg_sl [.ref mo, .int a, .int b] ++ List.replicate (3 - (lg_sl [.ref mo, .int a, .int b]).length) Slot.unset).toArray = ls at hl ⊢
  have hl : lv_has ls 3 [(0, .ref mo), (1, .int a), (2, .int b)] := hl
  refine lv_aload_n hx hb dX8_business_0 rfl (lv_at hl 0 rfl) ?_
  refine lv_iload_n hx hb dX8_business_1 rfl (lv_at hl 1 rfl) ?_
  refine lv_i2l hx hb dX8_business_2 rfl ?_
  refine lv_lconst (v := 0) hx hb dX8_business_3 (by decide) ?_
  refine lv_ldc2 hx hb hown (hts _ lk_X8_174) dX8_business_4 ?_
  refine hs_callS hC hs_Tok hW hL (ct_X8_in E _ _ _ _) cw_X8_in lk_X8_99 st_X8_in hl.1 (by decide) (Nat.le_of_ble_eq_true rfl) dX8_business_7 (hs_kp1 (fun H locs hW hL => ?_))
  refine lv_if_eq (tgt := 29) hx hb dX8_business_10 (by decide) (fun c10 => ?_) (fun c10 => ?_)
  · refine lv_iconst (v := 1) hx hb dX8_business_29 (by decide) ?_
    refine hs_put hC hW hL hi_X8 tyX8 tyX8_ok nmX8 rfl 0 (by decide) lk_X8_93 rfl rfl mo_obj ha.2.1 rfl rfl (Nat.le_of_ble_eq_true rfl) dX8_business_30 (fun H locs hW hL => ?_)
    rw [mo_putS (mo_fs0 _)] at hW
    refine lv_aload_n hx hb dX8_business_33 rfl (lv_at hl 0 rfl) ?_
    refine hs_get hC hW hi_X8 rfl 0 (by decide) lk_X8_93 rfl mo_obj rfl dX8_business_34 ?_
    refine lv_if_le (tgt := 44) hx hb dX8_business_37 (by decide) (fun c37 => ?_) (fun c37 => ?_)
    · exact absurd c37 (by first | decide | simp [mo_up])
    refine lv_iconst (v := 0) hx hb dX8_business_40 (by decide) ?_
    refine lv_goto (tgt := 50) hx hb dX8_business_41 (by decide) ?_
    exact hs_iret hC hW hL hr hlocks (by decide) (by decide) dX8_business_50 ⟨rfl, rfl, _, _, _, _, rfl, rfl, ⟨_, rfl⟩, rfl, (fun j hj => by simp [mo_up, hj]), fun z => by first | exact absurd (hs_b_t z.1) (by rw [c10]; decide) | exact absurd (hs_b_t z.2) (by rw [c22]; decide), fun _ => rfl⟩
  refine lv_iload_n hx hb dX8_business_13 rfl (lv_at hl 2 rfl) ?_
  refine lv_i2l hx hb dX8_business_14 rfl ?_
  refine lv_lconst (v := 0) hx hb dX8_business_15 (by decide) ?_
  refine lv_ldc2 hx hb hown (hts _ lk_X8_204) dX8_business_16 ?_
  refine hs_callS hC hs_Tok hW hL (ct_X8_in E _ _ _ _) cw_X8_in lk_X8_99 st_X8_in hl.1 (by decide) (Nat.le_of_ble_eq_true rfl) dX8_business_19 (hs_kp1 (fun H locs hW hL => ?_))
  refine lv_if_eq (tgt := 29) hx hb dX8_business_22 (by decide) (fun c22 => ?_) (fun c22 => ?_)
  · refine lv_iconst (v := 1) hx hb dX8_business_29 (by decide) ?_
    refine hs_put hC hW hL hi_X8 tyX8 tyX8_ok nmX8 rfl 0 (by decide) lk_X8_93 rfl rfl mo_obj ha.2.1 rfl rfl (Nat.le_of_ble_eq_true rfl) dX8_business_30 (fun H locs hW hL => ?_)
    rw [mo_putS (mo_fs0 _)] at hW
    refine lv_aload_n hx hb dX8_business_33 rfl (lv_at hl 0 rfl) ?_
    refine hs_get hC hW hi_X8 rfl 0 (by decide) lk_X8_93 rfl mo_obj rfl dX8_business_34 ?_
    refine lv_if_le (tgt := 44) hx hb dX8_business_37 (by decide) (fun c37 => ?_) (fun c37 => ?_)
    · exact absurd c37 (by first | decide | simp [mo_up])
    refine lv_iconst (v := 0) hx hb dX8_business_40 (by decide) ?_
    refine lv_goto (tgt := 50) hx hb dX8_business_41 (by decide) ?_
    exact hs_iret hC hW hL hr hlocks (by decide) (by decide) dX8_business_50 ⟨rfl, rfl, _, _, _, _, rfl, rfl, ⟨_, rfl⟩, rfl, (fun j hj => by simp [mo_up, hj]), fun z => by first | exact absurd (hs_b_t z.1) (by rw [c10]; decide) | exact absurd (hs_b_t z.2) (by rw [c22]; decide), fun _ => rfl⟩
  refine lv_iconst (v := 0) hx hb dX8_business_25 (by decide) ?_
  refine lv_goto (tgt := 30) hx hb dX8_business_26 (by decide) ?_
  refine hs_put hC hW hL hi_X8 tyX8 tyX8_ok nmX8 rfl 0 (by decide) lk_X8_93 rfl rfl mo_obj ha.2.1 rfl rfl (Nat.le_of_ble_eq_true rfl) dX8_business_30 (fun H locs hW hL => ?_)
  rw [mo_putS (mo_fs0 _)] at hW
  refine lv_aload_n hx hb dX8_business_33 rfl (lv_at hl 0 rfl) ?_
  refine hs_get hC hW hi_X8 rfl 0 (by decide) lk_X8_93 rfl mo_obj rfl dX8_business_34 ?_
  refine lv_if_le (tgt := 44) hx hb dX8_business_37 (by decide) (fun c37 => ?_) (fun c37 => ?_)
  · obtain ⟨a0, ha0, rfl⟩ := mo_nat64 (n := 20000) (by decide) c10
    obtain ⟨b0, hb0, rfl⟩ := mo_nat64 (n := 1000) (by decide) c22
    refine lv_aload_n hx hb dX8_business_44 rfl (lv_at hl 0 rfl) ?_
    refine lv_iload_n hx hb dX8_business_45 rfl (lv_at hl 1 rfl) ?_
    refine lv_iload_n hx hb dX8_business_46 rfl (lv_at hl 2 rfl) ?_
    refine hs_callV hC hs_Tok hW hL (ct_X8_businessDay E _ _ _ _ _ _ _ ha a0 b0 ha0 hb0) cw_X8_businessDay lk_X8_183 im_X8_businessDay se_X8_businessDay (hs_recv hC hW mo_obj rfl) hl.1 (by decide) (Nat.le_of_ble_eq_true rfl) dX8_business_47 (hs_ke (fun x H locs hJ hW hL => ?_))
    obtain ⟨k0, ex, hk0, hz0⟩ := hJ
    exact hs_iret hC hW hL hr hlocks (by decide) (by decide) dX8_business_50 ⟨rfl, rfl, _, _, _, _, rfl, rfl, ⟨_, rfl⟩, rfl, (fun j hj => by simp [mo_up, hj]), fun _ => ⟨rfl, a0, b0, k0, ⟨rfl, ha0⟩, ⟨rfl, hb0⟩, by rw [ex], hk0, hz0⟩, fun z => absurd ⟨hs_b_ne c10, hs_b_ne c22⟩ z⟩
  exact absurd c37 (by first | decide | simp [mo_up])
