/-! the reference: methods without loops -/
def mo_ok (E : hs_E) (m : Nat) (ar : Nat → Nat) (ix : Nat → Option Nat) : Prop := mo_at m ar ix ∧ (eH E).size ≤ m ∧ ∀ k, mo_arr k = true → (eH E).size ≤ ar k
/-- behind a method of the reference: nothing has come; an answer; its state, of which I holds -/
def mo_P (E : hs_E) (m : Nat) (ar : Nat → Nat) (ix : Nat → Option Nat) (F : hs_G) (I : Option Value → (Nat → Int32) → (Nat → Nat → Int32) → (Nat → Nat → Int64) → Prop) : hs_P := fun r G1 k n => k = 0 ∧ n = 0 ∧ ∃ (v : Option Value) (sc2 : Nat → Int32) (mI2 : Nat → Nat → Int32) (mL2 : Nat → Nat → Int64), r = .inl v ∧ G1 = mo_W E m ar ix sc2 mI2 mL2 F ∧ I v sc2 mI2 mL2
theorem hs_b_ne {P : Prop} [Decidable P] (h : ¬ hs_b P = 0) : P := by
  rcases Decidable.em P with q | q
  · exact q
  · exact absurd (hs_b_f q) h
theorem hs_b_eq {P : Prop} [Decidable P] (h : hs_b P = 0) : ¬ P := by
  intro q
  rw [hs_b_t q] at h
  exact absurd h (by decide)
theorem hs_64 (x : Int32) : x.toInt64.toInt = x.toInt := by simp
theorem hs_in64 {x : Int32} {a b : Int64} {n : Nat} (h : a ≤ x.toInt64 ∧ x.toInt64 ≤ b) (h0 : 0 ≤ a.toInt) (hb : b.toInt < n) : vp_in x n := by
  rw [vp_in_iff]
  simp only [Int64.le_iff_toInt_le, hs_64] at h
  omega
theorem mo_place_in {p s : Int32} (h1 : ¬ hs_b (0 ≤ p.toInt64 ∧ p.toInt64 ≤ 15) = 0) (h2 : ¬ hs_b (-1 ≤ s.toInt64 ∧ s.toInt64 ≤ 7) = 0) : vp_in (9 * p + s + 1) 144 := by
  have g1 := hs_b_ne h1
  have g2 := hs_b_ne h2
  rw [vp_in_iff]
  simp only [Int64.le_iff_toInt_le, hs_64] at g1 g2
  have e0 : Int64.toInt 0 = 0 := by decide
  have e1 : Int64.toInt 15 = 15 := by decide
  have e2 : Int64.toInt (-1) = -1 := by decide
  have e3 : Int64.toInt 7 = 7 := by decide
  rw [e0, e1] at g1
  rw [e2, e3] at g2
  have f9 : Int32.toInt 9 = 9 := by decide
  have f1 : Int32.toInt 1 = 1 := by decide
  rw [Int32.toInt_add, Int32.toInt_add, Int32.toInt_mul, f9, f1]
  have b1 : (9 * p.toInt).bmod (2 ^ 32) = 9 * p.toInt := by rw [Int.bmod_eq_of_le] <;> omega
  rw [b1]
  have b2 : (9 * p.toInt + s.toInt).bmod (2 ^ 32) = 9 * p.toInt + s.toInt := by rw [Int.bmod_eq_of_le] <;> omega
  rw [b2]
  have b3 : (9 * p.toInt + s.toInt + 1).bmod (2 ^ 32) = 9 * p.toInt + s.toInt + 1 := by rw [Int.bmod_eq_of_le] <;> omega
  rw [b3]
  omega
set_option maxHeartbeats 4000000 in
set_option maxRecDepth 100000 in
/-- Model.isTrade -/
theorem ct_X8_isTrade (E : hs_E) (mo : Nat) (ar : Nat → Nat) (ix : Nat → Option Nat) (sc : Nat → Int32) (mI : Nat → Nat → Int32) (mL : Nat → Nat → Int64) (F : hs_G) (ha : mo_ok E mo ar ix) (t : Int32) : hM E yX8_isTrade ({ frames := 1, cells := 0, slots := 0, locals := 40 }) [.ref mo, .int t] (mo_W E mo ar ix sc mI mL F) (hs_pu (some (.int (hs_b (0 ≤ t.toInt64 ∧ t.toInt64 ≤ (sc 4 - 1).toInt64)))) (mo_W E mo ar ix sc mI mL F)) := by
  refine hs_ofW (cc := cX8_isTrade) (maxL := 2) (ret := (some .boolean)) (by decide) co_X8_isTrade ?_
  intro p e s m args below meth c hC hlocks hr hin0 hnoh hW
  obtain ⟨hx, hb, hml, hown, hts, -⟩ := id hC
  have hE := hW
  have hL : ∀ q ∈ ([] : List Loc), (eH E).size ≤ q.base := fun q hq => nomatch hq
  have hl := lv_entry ([.ref mo, .int t] : List Value) (n := 2) (Nat.le_of_ble_eq_true rfl)
  rw [lg_entry_eq]
  generalize (lg_sl [.ref mo, .int t] ++ List.replicate (2 - (lg_sl [.ref mo, .int t]).length) Slot.unset).toArray = ls at hl ⊢
  have hl : lv_has ls 2 [(0, .ref mo), (1, .int t)] := hl
  refine lv_iload_n hx hb dX8_isTrade_0 rfl (lv_at hl 1 rfl) ?_
  refine lv_i2l hx hb dX8_isTrade_1 rfl ?_
  refine lv_lconst (v := 0) hx hb dX8_isTrade_2 (by decide) ?_
  refine lv_aload_n hx hb dX8_isTrade_3 rfl (lv_at hl 0 rfl) ?_
  refine hs_get hC hW hi_X8 rfl 4 (by decide) lk_X8_107 rfl mo_obj rfl dX8_isTrade_4 ?_
  refine lv_iconst (v := 1) hx hb dX8_isTrade_7 (by decide) ?_
  refine lv_isub hx hb dX8_isTrade_8 ?_
  refine lv_i2l hx hb dX8_isTrade_9 rfl ?_
  refine hs_callS hC hs_Tok hW hL (ct_X8_in E _ _ _ _) cw_X8_in lk_X8_99 st_X8_in hl.1 (by decide) (Nat.le_of_ble_eq_true rfl) dX8_isTrade_10 (hs_kp1 (fun H locs hW hL => ?_))
  exact hs_zret hC hW hL hr hlocks (by decide) (by decide) dX8_isTrade_13 (hs_b_z _) ⟨rfl, rfl, rfl, rfl⟩
set_option maxHeartbeats 4000000 in
set_option maxRecDepth 100000 in
/-- Model.sideOf -/
theorem ct_X8_sideOf (E : hs_E) (mo : Nat) (ar : Nat → Nat) (ix : Nat → Option Nat) (sc : Nat → Int32) (mI : Nat → Nat → Int32) (mL : Nat → Nat → Int64) (F : hs_G) (ha : mo_ok E mo ar ix) (t pa : Int32) (hin : vp_in t 150) : hM E yX8_sideOf ({ frames := 0, cells := 0, slots := 0, locals := 0 }) [.ref mo, .int t, .int pa] (mo_W E mo ar ix sc mI mL F) (hs_pu (some (.int (if mI 5 t.toNatClampNeg = pa then 1 else if mI 6 t.toNatClampNeg = pa then 2 else 0))) (mo_W E mo ar ix sc mI mL F)) := by
  refine hs_ofW (cc := cX8_sideOf) (maxL := 3) (ret := (some .int)) (by decide) co_X8_sideOf ?_
  intro p e s m args below meth c hC hlocks hr hin0 hnoh hW
  obtain ⟨hx, hb, hml, hown, hts, -⟩ := id hC
  have hE := hW
  have hL : ∀ q ∈ ([] : List Loc), (eH E).size ≤ q.base := fun q hq => nomatch hq
  have hl := lv_entry ([.ref mo, .int t, .int pa] : List Value) (n := 3) (Nat.le_of_ble_eq_true rfl)
  rw [lg_entry_eq]
  generalize (lg_sl [.ref mo, .int t, .int pa] ++ List.replicate (3 - (lg_sl [.ref mo, .int t, .int pa]).length) Slot.unset).toArray = ls at hl ⊢
  have hl : lv_has ls 3 [(0, .ref mo), (1, .int t), (2, .int pa)] := hl
  refine lv_aload_n hx hb dX8_sideOf_0 rfl (lv_at hl 0 rfl) ?_
  refine hs_get hC hW hi_X8 rfl 5 (by decide) lk_X8_17 rfl mo_obj rfl dX8_sideOf_1 ?_
  refine lv_iload_n hx hb dX8_sideOf_4 rfl (lv_at hl 1 rfl) ?_
  refine hs_iald hC hW 0 (mo_int ha.1 5 rfl) rfl hin dX8_sideOf_5 ?_
  refine lv_iload_n hx hb dX8_sideOf_6 rfl (lv_at hl 2 rfl) ?_
  refine lv_icmp_ne (tgt := 14) hx hb dX8_sideOf_7 (by decide) (fun c7 => ?_) (fun c7 => ?_)
  · refine lv_aload_n hx hb dX8_sideOf_14 rfl (lv_at hl 0 rfl) ?_
    refine hs_get hC hW hi_X8 rfl 6 (by decide) lk_X8_21 rfl mo_obj rfl dX8_sideOf_15 ?_
    refine lv_iload_n hx hb dX8_sideOf_18 rfl (lv_at hl 1 rfl) ?_
    refine hs_iald hC hW 0 (mo_int ha.1 6 rfl) rfl hin dX8_sideOf_19 ?_
    refine lv_iload_n hx hb dX8_sideOf_20 rfl (lv_at hl 2 rfl) ?_
    refine lv_icmp_ne (tgt := 28) hx hb dX8_sideOf_21 (by decide) (fun c21 => ?_) (fun c21 => ?_)
    · refine lv_iconst (v := 0) hx hb dX8_sideOf_28 (by decide) ?_
      exact hs_iret hC hW hL hr hlocks (by decide) (by decide) dX8_sideOf_29 ⟨by simp_all, rfl, rfl, rfl⟩
    refine lv_iconst (v := 2) hx hb dX8_sideOf_24 (by decide) ?_
    refine lv_goto (tgt := 29) hx hb dX8_sideOf_25 (by decide) ?_
    exact hs_iret hC hW hL hr hlocks (by decide) (by decide) dX8_sideOf_29 ⟨by simp_all, rfl, rfl, rfl⟩
  refine lv_iconst (v := 1) hx hb dX8_sideOf_10 (by decide) ?_
  refine lv_goto (tgt := 29) hx hb dX8_sideOf_11 (by decide) ?_
  exact hs_iret hC hW hL hr hlocks (by decide) (by decide) dX8_sideOf_29 ⟨by simp_all, rfl, rfl, rfl⟩
set_option maxHeartbeats 4000000 in
set_option maxRecDepth 100000 in
/-- Model.fund -/
theorem ct_X8_fund (E : hs_E) (mo : Nat) (ar : Nat → Nat) (ix : Nat → Option Nat) (sc : Nat → Int32) (mI : Nat → Nat → Int32) (mL : Nat → Nat → Int64) (F : hs_G) (ha : mo_ok E mo ar ix) (pa se n : Int32) : hM E yX8_fund ({ frames := 2, cells := 0, slots := 0, locals := 70 }) [.ref mo, .int pa, .int se, .int n] (mo_W E mo ar ix sc mI mL F) (mo_P E mo ar ix F (fun v sc2 mI2 mL2 => (∃ x : Int64, v = some (.long x)) ∧ mI2 = mI ∧ ∀ j, j ≠ 0 → sc2 j = sc j)) := by
  refine hs_ofW (cc := cX8_fund) (maxL := 4) (ret := (some .long)) (by decide) co_X8_fund ?_
  intro p e s m args below meth c hC hlocks hr hin0 hnoh hW
  obtain ⟨hx, hb, hml, hown, hts, -⟩ := id hC
  have hE := hW
  have hL : ∀ q ∈ ([] : List Loc), (eH E).size ≤ q.base := fun q hq => nomatch hq
  have hl := lv_entry ([.ref mo, .int pa, .int se, .int n] : List Value) (n := 4) (Nat.le_of_ble_eq_true rfl)
  rw [lg_entry_eq]
  generalize (lg_sl [.ref mo, .int pa, .int se, .int n] ++ List.replicate (4 - (lg_sl [.ref mo, .int pa, .int se, .int n]).length) Slot.unset).toArray = ls at hl ⊢
  have hl : lv_has ls 4 [(0, .ref mo), (1, .int pa), (2, .int se), (3, .int n)] := hl
  refine lv_aload_n hx hb dX8_fund_0 rfl (lv_at hl 0 rfl) ?_
  refine lv_iload_n hx hb dX8_fund_1 rfl (lv_at hl 1 rfl) ?_
  refine hs_callS hC hs_Tok hW hL (ct_X8_isParty E _ _) cw_X8_isParty lk_X8_164 st_X8_isParty hl.1 (by decide) (Nat.le_of_ble_eq_true rfl) dX8_fund_2 (hs_kp1 (fun H locs hW hL => ?_))
  refine lv_if_eq (tgt := 27) hx hb dX8_fund_5 (by decide) (fun c5 => ?_) (fun c5 => ?_)
  · refine lv_iconst (v := 1) hx hb dX8_fund_27 (by decide) ?_
    refine lv_goto (tgt := 32) hx hb dX8_fund_28 (by decide) ?_
    refine hs_put hC hW hL hi_X8 tyX8 tyX8_ok nmX8 rfl 0 (by decide) lk_X8_93 rfl rfl mo_obj ha.2.1 rfl rfl (Nat.le_of_ble_eq_true rfl) dX8_fund_32 (fun H locs hW hL => ?_)
    rw [mo_putS (mo_fs0 _)] at hW
    refine lv_aload_n hx hb dX8_fund_35 rfl (lv_at hl 0 rfl) ?_
    refine hs_get hC hW hi_X8 rfl 0 (by decide) lk_X8_93 rfl mo_obj rfl dX8_fund_36 ?_
    refine lv_if_ne (tgt := 67) hx hb dX8_fund_39 (by decide) (fun c39 => ?_) (fun c39 => ?_)
    · refine lv_aload_n hx hb dX8_fund_67 rfl (lv_at hl 0 rfl) ?_
      refine hs_get hC hW hi_X8 rfl 0 (by decide) lk_X8_93 rfl mo_obj rfl dX8_fund_68 ?_
      refine lv_if_le (tgt := 76) hx hb dX8_fund_71 (by decide) (fun c71 => ?_) (fun c71 => ?_)
      · exact absurd c71 (by first | decide | simp [mo_up])
      refine lv_lconst (v := 0) hx hb dX8_fund_74 (by decide) ?_
      exact hs_lret hC hW hL hr hlocks (by decide) (by decide) dX8_fund_75 ⟨rfl, rfl, _, _, _, _, rfl, rfl, ⟨_, rfl⟩, rfl, fun j hj => by simp [mo_up, hj]⟩
    exact absurd c39 (by first | decide | simp [mo_up])
  refine lv_iload_n hx hb dX8_fund_8 rfl (lv_at hl 2 rfl) ?_
  refine hs_callS hC hs_Tok hW hL (ct_X8_isKind E _ _) cw_X8_isKind lk_X8_167 st_X8_isKind hl.1 (by decide) (Nat.le_of_ble_eq_true rfl) dX8_fund_9 (hs_kp1 (fun H locs hW hL => ?_))
  refine lv_if_eq (tgt := 27) hx hb dX8_fund_12 (by decide) (fun c12 => ?_) (fun c12 => ?_)
  · refine lv_iconst (v := 1) hx hb dX8_fund_27 (by decide) ?_
    refine lv_goto (tgt := 32) hx hb dX8_fund_28 (by decide) ?_
    refine hs_put hC hW hL hi_X8 tyX8 tyX8_ok nmX8 rfl 0 (by decide) lk_X8_93 rfl rfl mo_obj ha.2.1 rfl rfl (Nat.le_of_ble_eq_true rfl) dX8_fund_32 (fun H locs hW hL => ?_)
    rw [mo_putS (mo_fs0 _)] at hW
    refine lv_aload_n hx hb dX8_fund_35 rfl (lv_at hl 0 rfl) ?_
    refine hs_get hC hW hi_X8 rfl 0 (by decide) lk_X8_93 rfl mo_obj rfl dX8_fund_36 ?_
    refine lv_if_ne (tgt := 67) hx hb dX8_fund_39 (by decide) (fun c39 => ?_) (fun c39 => ?_)
    · refine lv_aload_n hx hb dX8_fund_67 rfl (lv_at hl 0 rfl) ?_
      refine hs_get hC hW hi_X8 rfl 0 (by decide) lk_X8_93 rfl mo_obj rfl dX8_fund_68 ?_
      refine lv_if_le (tgt := 76) hx hb dX8_fund_71 (by decide) (fun c71 => ?_) (fun c71 => ?_)
      · exact absurd c71 (by first | decide | simp [mo_up])
      refine lv_lconst (v := 0) hx hb dX8_fund_74 (by decide) ?_
      exact hs_lret hC hW hL hr hlocks (by decide) (by decide) dX8_fund_75 ⟨rfl, rfl, _, _, _, _, rfl, rfl, ⟨_, rfl⟩, rfl, fun j hj => by simp [mo_up, hj]⟩
    exact absurd c39 (by first | decide | simp [mo_up])
  refine lv_iload_n hx hb dX8_fund_15 rfl (lv_at hl 3 rfl) ?_
  refine lv_i2l hx hb dX8_fund_16 rfl ?_
  refine lv_lconst (v := 1) hx hb dX8_fund_17 (by decide) ?_
  refine lv_ldc2 hx hb hown (hts _ lk_X8_170) dX8_fund_18 ?_
  refine hs_callS hC hs_Tok hW hL (ct_X8_in E _ _ _ _) cw_X8_in lk_X8_99 st_X8_in hl.1 (by decide) (Nat.le_of_ble_eq_true rfl) dX8_fund_21 (hs_kp1 (fun H locs hW hL => ?_))
  refine lv_if_ne (tgt := 31) hx hb dX8_fund_24 (by decide) (fun c24 => ?_) (fun c24 => ?_)
  · refine lv_iconst (v := 0) hx hb dX8_fund_31 (by decide) ?_
    refine hs_put hC hW hL hi_X8 tyX8 tyX8_ok nmX8 rfl 0 (by decide) lk_X8_93 rfl rfl mo_obj ha.2.1 rfl rfl (Nat.le_of_ble_eq_true rfl) dX8_fund_32 (fun H locs hW hL => ?_)
    rw [mo_putS (mo_fs0 _)] at hW
    refine lv_aload_n hx hb dX8_fund_35 rfl (lv_at hl 0 rfl) ?_
    refine hs_get hC hW hi_X8 rfl 0 (by decide) lk_X8_93 rfl mo_obj rfl dX8_fund_36 ?_
    refine lv_if_ne (tgt := 67) hx hb dX8_fund_39 (by decide) (fun c39 => ?_) (fun c39 => ?_)
    · exact absurd c39 (by first | decide | simp [mo_up])
    refine lv_aload_n hx hb dX8_fund_42 rfl (lv_at hl 0 rfl) ?_
    refine hs_get hC hW hi_X8 rfl 3 (by decide) lk_X8_13 rfl mo_obj rfl dX8_fund_43 ?_
    refine lv_iload_n hx hb dX8_fund_46 rfl (lv_at hl 1 rfl) ?_
    refine lv_iload_n hx hb dX8_fund_47 rfl (lv_at hl 2 rfl) ?_
    refine hs_callS hC hs_Tok hW hL (ct_X8_place E _ _ _) cw_X8_place lk_X8_118 st_X8_place hl.1 (by decide) (Nat.le_of_ble_eq_true rfl) dX8_fund_48 (hs_kp1 (fun H locs hW hL => ?_))
    refine hs_lald hC hW 1 (mo_long ha.1 3 rfl) rfl (mo_place_in c5 c12) dX8_fund_51 ?_
    refine lv_iload_n hx hb dX8_fund_52 rfl (lv_at hl 3 rfl) ?_
    refine lv_i2l hx hb dX8_fund_53 rfl ?_
    refine lv_ladd hx hb dX8_fund_54 ?_
    refine lv_ldc2 hx hb hown (hts _ lk_X8_172) dX8_fund_55 ?_
    refine W.lcmp hx hb dX8_fund_58 ?_
    refine lv_if_le (tgt := 67) hx hb dX8_fund_59 (by decide) (fun c59 => ?_) (fun c59 => ?_)
    · refine lv_aload_n hx hb dX8_fund_67 rfl (lv_at hl 0 rfl) ?_
      refine hs_get hC hW hi_X8 rfl 0 (by decide) lk_X8_93 rfl mo_obj rfl dX8_fund_68 ?_
      refine lv_if_le (tgt := 76) hx hb dX8_fund_71 (by decide) (fun c71 => ?_) (fun c71 => ?_)
      · refine lv_aload_n hx hb dX8_fund_76 rfl (lv_at hl 0 rfl) ?_
        refine hs_get hC hW hi_X8 rfl 3 (by decide) lk_X8_13 rfl mo_obj rfl dX8_fund_77 ?_
        refine lv_iload_n hx hb dX8_fund_80 rfl (lv_at hl 1 rfl) ?_
        refine lv_iload_n hx hb dX8_fund_81 rfl (lv_at hl 2 rfl) ?_
        refine hs_callS hC hs_Tok hW hL (ct_X8_place E _ _ _) cw_X8_place lk_X8_118 st_X8_place hl.1 (by decide) (Nat.le_of_ble_eq_true rfl) dX8_fund_82 (hs_kp1 (fun H locs hW hL => ?_))
        refine lv_dup2_11 hx hb dX8_fund_85 rfl rfl ?_
        refine hs_lald hC hW 1 (mo_long ha.1 3 rfl) rfl (mo_place_in c5 c12) dX8_fund_86 ?_
        refine lv_iload_n hx hb dX8_fund_87 rfl (lv_at hl 3 rfl) ?_
        refine lv_i2l hx hb dX8_fund_88 rfl ?_
        refine lv_ladd hx hb dX8_fund_89 ?_
        refine hs_last hC hW hL 1 (mo_long ha.1 3 rfl) (ha.2.2 3 rfl) rfl (mo_place_in c5 c12) dX8_fund_90 (fun H locs hW hL => ?_)
        rw [mo_putL ha.1 3 rfl] at hW
        refine lv_aload_n hx hb dX8_fund_91 rfl (lv_at hl 0 rfl) ?_
        refine hs_get hC hW hi_X8 rfl 3 (by decide) lk_X8_13 rfl mo_obj rfl dX8_fund_92 ?_
        refine lv_iload_n hx hb dX8_fund_95 rfl (lv_at hl 1 rfl) ?_
        refine lv_iload_n hx hb dX8_fund_96 rfl (lv_at hl 2 rfl) ?_
        refine hs_callS hC hs_Tok hW hL (ct_X8_place E _ _ _) cw_X8_place lk_X8_118 st_X8_place hl.1 (by decide) (Nat.le_of_ble_eq_true rfl) dX8_fund_97 (hs_kp1 (fun H locs hW hL => ?_))
        refine hs_lald hC hW 1 (mo_long ha.1 3 rfl) rfl (mo_place_in c5 c12) dX8_fund_100 ?_
        exact hs_lret hC hW hL hr hlocks (by decide) (by decide) dX8_fund_101 ⟨rfl, rfl, _, _, _, _, rfl, rfl, ⟨_, rfl⟩, rfl, fun j hj => by simp [mo_up, hj]⟩
      exact absurd c71 (by first | decide | simp [mo_up])
    refine lv_aload_n hx hb dX8_fund_62 rfl (lv_at hl 0 rfl) ?_
    refine lv_iconst (v := 2) hx hb dX8_fund_63 (by decide) ?_
    refine hs_put hC hW hL hi_X8 tyX8 tyX8_ok nmX8 rfl 0 (by decide) lk_X8_93 rfl rfl mo_obj ha.2.1 rfl rfl (Nat.le_of_ble_eq_true rfl) dX8_fund_64 (fun H locs hW hL => ?_)
    rw [mo_putS (mo_fs0 _)] at hW
    refine lv_aload_n hx hb dX8_fund_67 rfl (lv_at hl 0 rfl) ?_
    refine hs_get hC hW hi_X8 rfl 0 (by decide) lk_X8_93 rfl mo_obj rfl dX8_fund_68 ?_
    refine lv_if_le (tgt := 76) hx hb dX8_fund_71 (by decide) (fun c71 => ?_) (fun c71 => ?_)
    · exact absurd c71 (by first | decide | simp [mo_up])
    refine lv_lconst (v := 0) hx hb dX8_fund_74 (by decide) ?_
    exact hs_lret hC hW hL hr hlocks (by decide) (by decide) dX8_fund_75 ⟨rfl, rfl, _, _, _, _, rfl, rfl, ⟨_, rfl⟩, rfl, fun j hj => by simp [mo_up, hj]⟩
  refine lv_iconst (v := 1) hx hb dX8_fund_27 (by decide) ?_
  refine lv_goto (tgt := 32) hx hb dX8_fund_28 (by decide) ?_
  refine hs_put hC hW hL hi_X8 tyX8 tyX8_ok nmX8 rfl 0 (by decide) lk_X8_93 rfl rfl mo_obj ha.2.1 rfl rfl (Nat.le_of_ble_eq_true rfl) dX8_fund_32 (fun H locs hW hL => ?_)
  rw [mo_putS (mo_fs0 _)] at hW
  refine lv_aload_n hx hb dX8_fund_35 rfl (lv_at hl 0 rfl) ?_
  refine hs_get hC hW hi_X8 rfl 0 (by decide) lk_X8_93 rfl mo_obj rfl dX8_fund_36 ?_
  refine lv_if_ne (tgt := 67) hx hb dX8_fund_39 (by decide) (fun c39 => ?_) (fun c39 => ?_)
  · refine lv_aload_n hx hb dX8_fund_67 rfl (lv_at hl 0 rfl) ?_
    refine hs_get hC hW hi_X8 rfl 0 (by decide) lk_X8_93 rfl mo_obj rfl dX8_fund_68 ?_
    refine lv_if_le (tgt := 76) hx hb dX8_fund_71 (by decide) (fun c71 => ?_) (fun c71 => ?_)
    · exact absurd c71 (by first | decide | simp [mo_up])
    refine lv_lconst (v := 0) hx hb dX8_fund_74 (by decide) ?_
    exact hs_lret hC hW hL hr hlocks (by decide) (by decide) dX8_fund_75 ⟨rfl, rfl, _, _, _, _, rfl, rfl, ⟨_, rfl⟩, rfl, fun j hj => by simp [mo_up, hj]⟩
  exact absurd c39 (by first | decide | simp [mo_up])
set_option maxHeartbeats 4000000 in
set_option maxRecDepth 100000 in
/-- Model.has -/
theorem ct_X8_has (E : hs_E) (mo : Nat) (ar : Nat → Nat) (ix : Nat → Option Nat) (sc : Nat → Int32) (mI : Nat → Nat → Int32) (mL : Nat → Nat → Int64) (F : hs_G) (ha : mo_ok E mo ar ix) (pa se : Int32) : hM E yX8_has ({ frames := 2, cells := 0, slots := 0, locals := 70 }) [.ref mo, .int pa, .int se] (mo_W E mo ar ix sc mI mL F) (mo_P E mo ar ix F (fun v sc2 mI2 mL2 => (∃ x : Int64, v = some (.long x)) ∧ mI2 = mI ∧ ∀ j, j ≠ 0 → sc2 j = sc j)) := by
  refine hs_ofW (cc := cX8_has) (maxL := 3) (ret := (some .long)) (by decide) co_X8_has ?_
  intro p e s m args below meth c hC hlocks hr hin0 hnoh hW
  obtain ⟨hx, hb, hml, hown, hts, -⟩ := id hC
  have hE := hW
  have hL : ∀ q ∈ ([] : List Loc), (eH E).size ≤ q.base := fun q hq => nomatch hq
  have hl := lv_entry ([.ref mo, .int pa, .int se] : List Value) (n := 3) (Nat.le_of_ble_eq_true rfl)
  rw [lg_entry_eq]
  generalize (lg_sl [.ref mo, .int pa, .int se] ++ List.replicate (3 - (lg_sl [.ref mo, .int pa, .int se]).length) Slot.unset).toArray = ls at hl ⊢
  have hl : lv_has ls 3 [(0, .ref mo), (1, .int pa), (2, .int se)] := hl
  refine lv_aload_n hx hb dX8_has_0 rfl (lv_at hl 0 rfl) ?_
  refine lv_iload_n hx hb dX8_has_1 rfl (lv_at hl 1 rfl) ?_
  refine hs_callS hC hs_Tok hW hL (ct_X8_isParty E _ _) cw_X8_isParty lk_X8_164 st_X8_isParty hl.1 (by decide) (Nat.le_of_ble_eq_true rfl) dX8_has_2 (hs_kp1 (fun H locs hW hL => ?_))
  refine lv_if_eq (tgt := 19) hx hb dX8_has_5 (by decide) (fun c5 => ?_) (fun c5 => ?_)
  · refine lv_iconst (v := 1) hx hb dX8_has_19 (by decide) ?_
    refine hs_put hC hW hL hi_X8 tyX8 tyX8_ok nmX8 rfl 0 (by decide) lk_X8_93 rfl rfl mo_obj ha.2.1 rfl rfl (Nat.le_of_ble_eq_true rfl) dX8_has_20 (fun H locs hW hL => ?_)
    rw [mo_putS (mo_fs0 _)] at hW
    refine lv_aload_n hx hb dX8_has_23 rfl (lv_at hl 0 rfl) ?_
    refine hs_get hC hW hi_X8 rfl 0 (by decide) lk_X8_93 rfl mo_obj rfl dX8_has_24 ?_
    refine lv_if_le (tgt := 34) hx hb dX8_has_27 (by decide) (fun c27 => ?_) (fun c27 => ?_)
    · exact absurd c27 (by first | decide | simp [mo_up])
    refine lv_lconst (v := 0) hx hb dX8_has_30 (by decide) ?_
    refine lv_goto (tgt := 44) hx hb dX8_has_31 (by decide) ?_
    exact hs_lret hC hW hL hr hlocks (by decide) (by decide) dX8_has_44 ⟨rfl, rfl, _, _, _, _, rfl, rfl, ⟨_, rfl⟩, rfl, fun j hj => by simp [mo_up, hj]⟩
  refine lv_iload_n hx hb dX8_has_8 rfl (lv_at hl 2 rfl) ?_
  refine hs_callS hC hs_Tok hW hL (ct_X8_isKind E _ _) cw_X8_isKind lk_X8_167 st_X8_isKind hl.1 (by decide) (Nat.le_of_ble_eq_true rfl) dX8_has_9 (hs_kp1 (fun H locs hW hL => ?_))
  refine lv_if_eq (tgt := 19) hx hb dX8_has_12 (by decide) (fun c12 => ?_) (fun c12 => ?_)
  · refine lv_iconst (v := 1) hx hb dX8_has_19 (by decide) ?_
    refine hs_put hC hW hL hi_X8 tyX8 tyX8_ok nmX8 rfl 0 (by decide) lk_X8_93 rfl rfl mo_obj ha.2.1 rfl rfl (Nat.le_of_ble_eq_true rfl) dX8_has_20 (fun H locs hW hL => ?_)
    rw [mo_putS (mo_fs0 _)] at hW
    refine lv_aload_n hx hb dX8_has_23 rfl (lv_at hl 0 rfl) ?_
    refine hs_get hC hW hi_X8 rfl 0 (by decide) lk_X8_93 rfl mo_obj rfl dX8_has_24 ?_
    refine lv_if_le (tgt := 34) hx hb dX8_has_27 (by decide) (fun c27 => ?_) (fun c27 => ?_)
    · exact absurd c27 (by first | decide | simp [mo_up])
    refine lv_lconst (v := 0) hx hb dX8_has_30 (by decide) ?_
    refine lv_goto (tgt := 44) hx hb dX8_has_31 (by decide) ?_
    exact hs_lret hC hW hL hr hlocks (by decide) (by decide) dX8_has_44 ⟨rfl, rfl, _, _, _, _, rfl, rfl, ⟨_, rfl⟩, rfl, fun j hj => by simp [mo_up, hj]⟩
  refine lv_iconst (v := 0) hx hb dX8_has_15 (by decide) ?_
  refine lv_goto (tgt := 20) hx hb dX8_has_16 (by decide) ?_
  refine hs_put hC hW hL hi_X8 tyX8 tyX8_ok nmX8 rfl 0 (by decide) lk_X8_93 rfl rfl mo_obj ha.2.1 rfl rfl (Nat.le_of_ble_eq_true rfl) dX8_has_20 (fun H locs hW hL => ?_)
  rw [mo_putS (mo_fs0 _)] at hW
  refine lv_aload_n hx hb dX8_has_23 rfl (lv_at hl 0 rfl) ?_
  refine hs_get hC hW hi_X8 rfl 0 (by decide) lk_X8_93 rfl mo_obj rfl dX8_has_24 ?_
  refine lv_if_le (tgt := 34) hx hb dX8_has_27 (by decide) (fun c27 => ?_) (fun c27 => ?_)
  · refine lv_aload_n hx hb dX8_has_34 rfl (lv_at hl 0 rfl) ?_
    refine hs_get hC hW hi_X8 rfl 3 (by decide) lk_X8_13 rfl mo_obj rfl dX8_has_35 ?_
    refine lv_iload_n hx hb dX8_has_38 rfl (lv_at hl 1 rfl) ?_
    refine lv_iload_n hx hb dX8_has_39 rfl (lv_at hl 2 rfl) ?_
    refine hs_callS hC hs_Tok hW hL (ct_X8_place E _ _ _) cw_X8_place lk_X8_118 st_X8_place hl.1 (by decide) (Nat.le_of_ble_eq_true rfl) dX8_has_40 (hs_kp1 (fun H locs hW hL => ?_))
    refine hs_lald hC hW 1 (mo_long ha.1 3 rfl) rfl (mo_place_in c5 c12) dX8_has_43 ?_
    exact hs_lret hC hW hL hr hlocks (by decide) (by decide) dX8_has_44 ⟨rfl, rfl, _, _, _, _, rfl, rfl, ⟨_, rfl⟩, rfl, fun j hj => by simp [mo_up, hj]⟩
  exact absurd c27 (by first | decide | simp [mo_up])
