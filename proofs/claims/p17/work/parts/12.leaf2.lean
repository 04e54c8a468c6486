/-! leaves: the calendar, the Model's predicates, the two checks -/
def hs_rem (x y : Int32) : Int32 := x - x / y * y
def hs_wd (d : Int32) : Int32 := hs_rem (d + 3) 7 + 1
def hs_leap (y : Int32) : Prop := hs_rem y 4 = 0 ∧ (¬ hs_rem y 100 = 0 ∨ hs_rem y 400 = 0)
noncomputable def hs_lp (y : Int32) : Int32 := hs_b (hs_rem y 4 = 0 ∧ (¬ hs_rem y 100 = 0 ∨ hs_rem y 400 = 0))
set_option maxHeartbeats 4000000 in
set_option maxRecDepth 100000 in
/-- X0 weekday -/
theorem ct_X0_weekday (E : hs_E) (G : hs_G) (d : Int32) : hM E yX0_weekday ({ frames := 0, cells := 0, slots := 0, locals := 0 }) [.int d] G (hs_pu (some (.int (hs_wd d))) G) := by
  refine hs_ofW (cc := cX0_weekday) (maxL := 1) (ret := (some .int)) (by decide) co_X0_weekday ?_
  intro p e s m args below meth c hC hlocks hr hin0 hnoh hW
  obtain ⟨hx, hb, hml, hown, hts, -⟩ := id hC
  have hE := hW
  have hL : ∀ q ∈ ([] : List Loc), (eH E).size ≤ q.base := fun q hq => nomatch hq
  have hl := lv_entry ([.int d] : List Value) (n := 1) (Nat.le_of_ble_eq_true rfl)
  rw [lg_entry_eq]
  generalize (lg_sl [.int d] ++ List.replicate (1 - (lg_sl [.int d]).length) Slot.unset).toArray = ls at hl ⊢
  have hl : lv_has ls 1 [(0, .int d)] := hl
  refine lv_iload_n hx hb dX0_weekday_0 rfl (lv_at hl 0 rfl) ?_
  refine lv_iconst (v := 3) hx hb dX0_weekday_1 (by decide) ?_
  refine lv_iadd hx hb dX0_weekday_2 ?_
  refine lv_bipush (v := 7) hx hb dX0_weekday_3 (by decide) ?_
  refine lv_irem hx hb dX0_weekday_5 (by decide) ?_
  refine lv_iconst (v := 1) hx hb dX0_weekday_6 (by decide) ?_
  refine lv_iadd hx hb dX0_weekday_7 ?_
  exact hs_iret hC hW hL hr hlocks (by decide) (by decide) dX0_weekday_8 ⟨by rfl, rfl, rfl, rfl⟩
set_option maxHeartbeats 4000000 in
set_option maxRecDepth 100000 in
/-- X0 isLeap -/
theorem ct_X0_isLeap (E : hs_E) (G : hs_G) (y : Int32) : hM E yX0_isLeap ({ frames := 0, cells := 0, slots := 0, locals := 0 }) [.int y] G (hs_pu (some (.int (hs_lp y))) G) := by
  refine hs_ofW (cc := cX0_isLeap) (maxL := 1) (ret := (some .boolean)) (by decide) co_X0_isLeap ?_
  intro p e s m args below meth c hC hlocks hr hin0 hnoh hW
  obtain ⟨hx, hb, hml, hown, hts, -⟩ := id hC
  have hE := hW
  have hL : ∀ q ∈ ([] : List Loc), (eH E).size ≤ q.base := fun q hq => nomatch hq
  have hl := lv_entry ([.int y] : List Value) (n := 1) (Nat.le_of_ble_eq_true rfl)
  rw [lg_entry_eq]
  generalize (lg_sl [.int y] ++ List.replicate (1 - (lg_sl [.int y]).length) Slot.unset).toArray = ls at hl ⊢
  have hl : lv_has ls 1 [(0, .int y)] := hl
  refine lv_iload_n hx hb dX0_isLeap_0 rfl (lv_at hl 0 rfl) ?_
  refine lv_iconst (v := 4) hx hb dX0_isLeap_1 (by decide) ?_
  refine lv_irem hx hb dX0_isLeap_2 (by decide) ?_
  refine lv_if_ne (tgt := 25) hx hb dX0_isLeap_3 (by decide) (fun c3 => ?_) (fun c3 => ?_)
  · refine lv_iconst (v := 0) hx hb dX0_isLeap_25 (by decide) ?_
    exact hs_zret hC hW hL hr hlocks (by decide) (by decide) dX0_isLeap_26 (by first | rfl | decide | (simp [hs_b]; split <;> rfl)) ⟨by simp_all [hs_b, hs_rem, hs_lp], rfl, rfl, rfl⟩
  refine lv_iload_n hx hb dX0_isLeap_6 rfl (lv_at hl 0 rfl) ?_
  refine lv_bipush (v := 100) hx hb dX0_isLeap_7 (by decide) ?_
  refine lv_irem hx hb dX0_isLeap_9 (by decide) ?_
  refine lv_if_ne (tgt := 21) hx hb dX0_isLeap_10 (by decide) (fun c10 => ?_) (fun c10 => ?_)
  · refine lv_iconst (v := 1) hx hb dX0_isLeap_21 (by decide) ?_
    refine lv_goto (tgt := 26) hx hb dX0_isLeap_22 (by decide) ?_
    exact hs_zret hC hW hL hr hlocks (by decide) (by decide) dX0_isLeap_26 (by first | rfl | decide | (simp [hs_b]; split <;> rfl)) ⟨by simp_all [hs_b, hs_rem, hs_lp], rfl, rfl, rfl⟩
  refine lv_iload_n hx hb dX0_isLeap_13 rfl (lv_at hl 0 rfl) ?_
  refine lv_sipush (v := 400) hx hb dX0_isLeap_14 (by decide) ?_
  refine lv_irem hx hb dX0_isLeap_17 (by decide) ?_
  refine lv_if_ne (tgt := 25) hx hb dX0_isLeap_18 (by decide) (fun c18 => ?_) (fun c18 => ?_)
  · refine lv_iconst (v := 0) hx hb dX0_isLeap_25 (by decide) ?_
    exact hs_zret hC hW hL hr hlocks (by decide) (by decide) dX0_isLeap_26 (by first | rfl | decide | (simp [hs_b]; split <;> rfl)) ⟨by simp_all [hs_b, hs_rem, hs_lp], rfl, rfl, rfl⟩
  refine lv_iconst (v := 1) hx hb dX0_isLeap_21 (by decide) ?_
  refine lv_goto (tgt := 26) hx hb dX0_isLeap_22 (by decide) ?_
  exact hs_zret hC hW hL hr hlocks (by decide) (by decide) dX0_isLeap_26 (by first | rfl | decide | (simp [hs_b]; split <;> rfl)) ⟨by simp_all [hs_b, hs_rem, hs_lp], rfl, rfl, rfl⟩
set_option maxHeartbeats 4000000 in
set_option maxRecDepth 100000 in
/-- X8 weekday -/
theorem ct_X8_weekday (E : hs_E) (G : hs_G) (d : Int32) : hM E yX8_weekday ({ frames := 0, cells := 0, slots := 0, locals := 0 }) [.int d] G (hs_pu (some (.int (hs_wd d))) G) := by
  refine hs_ofW (cc := cX8_weekday) (maxL := 1) (ret := (some .int)) (by decide) co_X8_weekday ?_
  intro p e s m args below meth c hC hlocks hr hin0 hnoh hW
  obtain ⟨hx, hb, hml, hown, hts, -⟩ := id hC
  have hE := hW
  have hL : ∀ q ∈ ([] : List Loc), (eH E).size ≤ q.base := fun q hq => nomatch hq
  have hl := lv_entry ([.int d] : List Value) (n := 1) (Nat.le_of_ble_eq_true rfl)
  rw [lg_entry_eq]
  generalize (lg_sl [.int d] ++ List.replicate (1 - (lg_sl [.int d]).length) Slot.unset).toArray = ls at hl ⊢
  have hl : lv_has ls 1 [(0, .int d)] := hl
  refine lv_iload_n hx hb dX8_weekday_0 rfl (lv_at hl 0 rfl) ?_
  refine lv_iconst (v := 3) hx hb dX8_weekday_1 (by decide) ?_
  refine lv_iadd hx hb dX8_weekday_2 ?_
  refine lv_bipush (v := 7) hx hb dX8_weekday_3 (by decide) ?_
  refine lv_irem hx hb dX8_weekday_5 (by decide) ?_
  refine lv_iconst (v := 1) hx hb dX8_weekday_6 (by decide) ?_
  refine lv_iadd hx hb dX8_weekday_7 ?_
  exact hs_iret hC hW hL hr hlocks (by decide) (by decide) dX8_weekday_8 ⟨by rfl, rfl, rfl, rfl⟩
set_option maxHeartbeats 4000000 in
set_option maxRecDepth 100000 in
/-- X8 isLeap -/
theorem ct_X8_isLeap (E : hs_E) (G : hs_G) (y : Int32) : hM E yX8_isLeap ({ frames := 0, cells := 0, slots := 0, locals := 0 }) [.int y] G (hs_pu (some (.int (hs_lp y))) G) := by
  refine hs_ofW (cc := cX8_isLeap) (maxL := 1) (ret := (some .boolean)) (by decide) co_X8_isLeap ?_
  intro p e s m args below meth c hC hlocks hr hin0 hnoh hW
  obtain ⟨hx, hb, hml, hown, hts, -⟩ := id hC
  have hE := hW
  have hL : ∀ q ∈ ([] : List Loc), (eH E).size ≤ q.base := fun q hq => nomatch hq
  have hl := lv_entry ([.int y] : List Value) (n := 1) (Nat.le_of_ble_eq_true rfl)
  rw [lg_entry_eq]
  generalize (lg_sl [.int y] ++ List.replicate (1 - (lg_sl [.int y]).length) Slot.unset).toArray = ls at hl ⊢
  have hl : lv_has ls 1 [(0, .int y)] := hl
  refine lv_iload_n hx hb dX8_isLeap_0 rfl (lv_at hl 0 rfl) ?_
  refine lv_iconst (v := 4) hx hb dX8_isLeap_1 (by decide) ?_
  refine lv_irem hx hb dX8_isLeap_2 (by decide) ?_
  refine lv_if_ne (tgt := 25) hx hb dX8_isLeap_3 (by decide) (fun c3 => ?_) (fun c3 => ?_)
  · refine lv_iconst (v := 0) hx hb dX8_isLeap_25 (by decide) ?_
    exact hs_zret hC hW hL hr hlocks (by decide) (by decide) dX8_isLeap_26 (by first | rfl | decide | (simp [hs_b]; split <;> rfl)) ⟨by simp_all [hs_b, hs_rem, hs_lp], rfl, rfl, rfl⟩
  refine lv_iload_n hx hb dX8_isLeap_6 rfl (lv_at hl 0 rfl) ?_
  refine lv_bipush (v := 100) hx hb dX8_isLeap_7 (by decide) ?_
  refine lv_irem hx hb dX8_isLeap_9 (by decide) ?_
  refine lv_if_ne (tgt := 21) hx hb dX8_isLeap_10 (by decide) (fun c10 => ?_) (fun c10 => ?_)
  · refine lv_iconst (v := 1) hx hb dX8_isLeap_21 (by decide) ?_
    refine lv_goto (tgt := 26) hx hb dX8_isLeap_22 (by decide) ?_
    exact hs_zret hC hW hL hr hlocks (by decide) (by decide) dX8_isLeap_26 (by first | rfl | decide | (simp [hs_b]; split <;> rfl)) ⟨by simp_all [hs_b, hs_rem, hs_lp], rfl, rfl, rfl⟩
  refine lv_iload_n hx hb dX8_isLeap_13 rfl (lv_at hl 0 rfl) ?_
  refine lv_sipush (v := 400) hx hb dX8_isLeap_14 (by decide) ?_
  refine lv_irem hx hb dX8_isLeap_17 (by decide) ?_
  refine lv_if_ne (tgt := 25) hx hb dX8_isLeap_18 (by decide) (fun c18 => ?_) (fun c18 => ?_)
  · refine lv_iconst (v := 0) hx hb dX8_isLeap_25 (by decide) ?_
    exact hs_zret hC hW hL hr hlocks (by decide) (by decide) dX8_isLeap_26 (by first | rfl | decide | (simp [hs_b]; split <;> rfl)) ⟨by simp_all [hs_b, hs_rem, hs_lp], rfl, rfl, rfl⟩
  refine lv_iconst (v := 1) hx hb dX8_isLeap_21 (by decide) ?_
  refine lv_goto (tgt := 26) hx hb dX8_isLeap_22 (by decide) ?_
  exact hs_zret hC hW hL hr hlocks (by decide) (by decide) dX8_isLeap_26 (by first | rfl | decide | (simp [hs_b]; split <;> rfl)) ⟨by simp_all [hs_b, hs_rem, hs_lp], rfl, rfl, rfl⟩
set_option maxHeartbeats 4000000 in
set_option maxRecDepth 100000 in
/-- Days.yearLength -/
theorem ct_X0_yearLength (E : hs_E) (G : hs_G) (y : Int32) : hM E yX0_yearLength ({ frames := 1, cells := 0, slots := 0, locals := 30 }) [.int y] G (hs_pu (some (.int (if hs_lp y = 0 then 365 else 366))) G) := by
  refine hs_ofW (cc := cX0_yearLength) (maxL := 1) (ret := (some .int)) (by decide) co_X0_yearLength ?_
  intro p e s m args below meth c hC hlocks hr hin0 hnoh hW
  obtain ⟨hx, hb, hml, hown, hts, -⟩ := id hC
  have hE := hW
  have hL : ∀ q ∈ ([] : List Loc), (eH E).size ≤ q.base := fun q hq => nomatch hq
  have hl := lv_entry ([.int y] : List Value) (n := 1) (Nat.le_of_ble_eq_true rfl)
  rw [lg_entry_eq]
  generalize (lg_sl [.int y] ++ List.replicate (1 - (lg_sl [.int y]).length) Slot.unset).toArray = ls at hl ⊢
  have hl : lv_has ls 1 [(0, .int y)] := hl
  refine lv_iload_n hx hb dX0_yearLength_0 rfl (lv_at hl 0 rfl) ?_
  refine hs_callS hC hs_Tok hW hL (ct_X0_isLeap E G _) cw_X0_isLeap lk_X0_38 st_X0_isLeap hl.1 (by decide) (Nat.le_of_ble_eq_true rfl) dX0_yearLength_1 (hs_kp1 (fun H locs hW hL => ?_))
  refine lv_if_eq (tgt := 13) hx hb dX0_yearLength_4 (by decide) (fun c4 => ?_) (fun c4 => ?_)
  · refine lv_sipush (v := 365) hx hb dX0_yearLength_13 (by decide) ?_
    exact hs_iret hC hW hL hr hlocks (by decide) (by decide) dX0_yearLength_16 ⟨by simp_all, rfl, rfl, rfl⟩
  refine lv_sipush (v := 366) hx hb dX0_yearLength_7 (by decide) ?_
  refine lv_goto (tgt := 16) hx hb dX0_yearLength_10 (by decide) ?_
  exact hs_iret hC hW hL hr hlocks (by decide) (by decide) dX0_yearLength_16 ⟨by simp_all, rfl, rfl, rfl⟩
set_option maxHeartbeats 4000000 in
set_option maxRecDepth 100000 in
/-- Model.lengthOf -/
theorem ct_X8_lengthOf (E : hs_E) (G : hs_G) (y mo : Int32) : hM E yX8_lengthOf ({ frames := 1, cells := 0, slots := 0, locals := 30 }) [.int y, .int mo] G (hs_pu (some (.int (if mo = 2 then (if hs_lp y = 0 then 28 else 29) else if mo = 4 ∨ mo = 6 ∨ mo = 9 ∨ mo = 11 then 30 else 31))) G) := by
  refine hs_ofW (cc := cX8_lengthOf) (maxL := 3) (ret := (some .int)) (by decide) co_X8_lengthOf ?_
  intro p e s m args below meth c hC hlocks hr hin0 hnoh hW
  obtain ⟨hx, hb, hml, hown, hts, -⟩ := id hC
  have hE := hW
  have hL : ∀ q ∈ ([] : List Loc), (eH E).size ≤ q.base := fun q hq => nomatch hq
  have hl := lv_entry ([.int y, .int mo] : List Value) (n := 3) (Nat.le_of_ble_eq_true rfl)
  rw [lg_entry_eq]
  generalize (lg_sl [.int y, .int mo] ++ List.replicate (3 - (lg_sl [.int y, .int mo]).length) Slot.unset).toArray = ls at hl ⊢
  have hl : lv_has ls 3 [(0, .int y), (1, .int mo)] := hl
  refine lv_iload_n hx hb dX8_lengthOf_0 rfl (lv_at hl 1 rfl) ?_
  refine lv_iconst (v := 4) hx hb dX8_lengthOf_1 (by decide) ?_
  refine lv_icmp_eq (tgt := 23) hx hb dX8_lengthOf_2 (by decide) (fun c2 => ?_) (fun c2 => ?_)
  · refine lv_iconst (v := 1) hx hb dX8_lengthOf_23 (by decide) ?_
    refine lv_goto (tgt := 28) hx hb dX8_lengthOf_24 (by decide) ?_
    refine lv_istore_n (lv' := [(2, .int _), (0, .int _), (1, .int _)]) hx hb dX8_lengthOf_28 rfl hl (by decide) rfl (fun ls hl => ?_)
    refine lv_iload_n hx hb dX8_lengthOf_29 rfl (lv_at hl 2 rfl) ?_
    refine lv_iconst (v := 2) hx hb dX8_lengthOf_30 (by decide) ?_
    refine lv_icmp_ne (tgt := 51) hx hb dX8_lengthOf_31 (by decide) (fun c31 => ?_) (fun c31 => ?_)
    · refine lv_iload_n hx hb dX8_lengthOf_51 rfl (lv_at hl 0 rfl) ?_
      refine lv_if_eq (tgt := 60) hx hb dX8_lengthOf_52 (by decide) (fun c52 => ?_) (fun c52 => ?_)
      · exact absurd c52 (by first | decide | simp [mo_up])
      refine lv_bipush (v := 30) hx hb dX8_lengthOf_55 (by decide) ?_
      refine lv_goto (tgt := 62) hx hb dX8_lengthOf_57 (by decide) ?_
      exact hs_iret hC hW hL hr hlocks (by decide) (by decide) dX8_lengthOf_62 ⟨by first | (simp_all; done) | (exfalso; revert c52; simp_all), rfl, rfl, rfl⟩
    refine lv_iload_n hx hb dX8_lengthOf_34 rfl (lv_at hl 1 rfl) ?_
    refine hs_callS hC hs_Tok hW hL (ct_X8_isLeap E G _) cw_X8_isLeap lk_X8_114 st_X8_isLeap hl.1 (by decide) (Nat.le_of_ble_eq_true rfl) dX8_lengthOf_35 (hs_kp1 (fun H locs hW hL => ?_))
    refine lv_if_eq (tgt := 46) hx hb dX8_lengthOf_38 (by decide) (fun c38 => ?_) (fun c38 => ?_)
    · refine lv_bipush (v := 28) hx hb dX8_lengthOf_46 (by decide) ?_
      refine lv_goto (tgt := 62) hx hb dX8_lengthOf_48 (by decide) ?_
      exact hs_iret hC hW hL hr hlocks (by decide) (by decide) dX8_lengthOf_62 ⟨by first | (simp_all; done) | (exfalso; revert c52; simp_all), rfl, rfl, rfl⟩
    refine lv_bipush (v := 29) hx hb dX8_lengthOf_41 (by decide) ?_
    refine lv_goto (tgt := 62) hx hb dX8_lengthOf_43 (by decide) ?_
    exact hs_iret hC hW hL hr hlocks (by decide) (by decide) dX8_lengthOf_62 ⟨by first | (simp_all; done) | (exfalso; revert c52; simp_all), rfl, rfl, rfl⟩
  refine lv_iload_n hx hb dX8_lengthOf_5 rfl (lv_at hl 1 rfl) ?_
  refine lv_bipush (v := 6) hx hb dX8_lengthOf_6 (by decide) ?_
  refine lv_icmp_eq (tgt := 23) hx hb dX8_lengthOf_8 (by decide) (fun c8 => ?_) (fun c8 => ?_)
  · refine lv_iconst (v := 1) hx hb dX8_lengthOf_23 (by decide) ?_
    refine lv_goto (tgt := 28) hx hb dX8_lengthOf_24 (by decide) ?_
    refine lv_istore_n (lv' := [(2, .int _), (0, .int _), (1, .int _)]) hx hb dX8_lengthOf_28 rfl hl (by decide) rfl (fun ls hl => ?_)
    refine lv_iload_n hx hb dX8_lengthOf_29 rfl (lv_at hl 2 rfl) ?_
    refine lv_iconst (v := 2) hx hb dX8_lengthOf_30 (by decide) ?_
    refine lv_icmp_ne (tgt := 51) hx hb dX8_lengthOf_31 (by decide) (fun c31 => ?_) (fun c31 => ?_)
    · refine lv_iload_n hx hb dX8_lengthOf_51 rfl (lv_at hl 0 rfl) ?_
      refine lv_if_eq (tgt := 60) hx hb dX8_lengthOf_52 (by decide) (fun c52 => ?_) (fun c52 => ?_)
      · exact absurd c52 (by first | decide | simp [mo_up])
      refine lv_bipush (v := 30) hx hb dX8_lengthOf_55 (by decide) ?_
      refine lv_goto (tgt := 62) hx hb dX8_lengthOf_57 (by decide) ?_
      exact hs_iret hC hW hL hr hlocks (by decide) (by decide) dX8_lengthOf_62 ⟨by first | (simp_all; done) | (exfalso; revert c52; simp_all), rfl, rfl, rfl⟩
    refine lv_iload_n hx hb dX8_lengthOf_34 rfl (lv_at hl 1 rfl) ?_
    refine hs_callS hC hs_Tok hW hL (ct_X8_isLeap E G _) cw_X8_isLeap lk_X8_114 st_X8_isLeap hl.1 (by decide) (Nat.le_of_ble_eq_true rfl) dX8_lengthOf_35 (hs_kp1 (fun H locs hW hL => ?_))
    refine lv_if_eq (tgt := 46) hx hb dX8_lengthOf_38 (by decide) (fun c38 => ?_) (fun c38 => ?_)
    · refine lv_bipush (v := 28) hx hb dX8_lengthOf_46 (by decide) ?_
      refine lv_goto (tgt := 62) hx hb dX8_lengthOf_48 (by decide) ?_
      exact hs_iret hC hW hL hr hlocks (by decide) (by decide) dX8_lengthOf_62 ⟨by first | (simp_all; done) | (exfalso; revert c52; simp_all), rfl, rfl, rfl⟩
    refine lv_bipush (v := 29) hx hb dX8_lengthOf_41 (by decide) ?_
    refine lv_goto (tgt := 62) hx hb dX8_lengthOf_43 (by decide) ?_
    exact hs_iret hC hW hL hr hlocks (by decide) (by decide) dX8_lengthOf_62 ⟨by first | (simp_all; done) | (exfalso; revert c52; simp_all), rfl, rfl, rfl⟩
  refine lv_iload_n hx hb dX8_lengthOf_11 rfl (lv_at hl 1 rfl) ?_
  refine lv_bipush (v := 9) hx hb dX8_lengthOf_12 (by decide) ?_
  refine lv_icmp_eq (tgt := 23) hx hb dX8_lengthOf_14 (by decide) (fun c14 => ?_) (fun c14 => ?_)
  · refine lv_iconst (v := 1) hx hb dX8_lengthOf_23 (by decide) ?_
    refine lv_goto (tgt := 28) hx hb dX8_lengthOf_24 (by decide) ?_
    refine lv_istore_n (lv' := [(2, .int _), (0, .int _), (1, .int _)]) hx hb dX8_lengthOf_28 rfl hl (by decide) rfl (fun ls hl => ?_)
    refine lv_iload_n hx hb dX8_lengthOf_29 rfl (lv_at hl 2 rfl) ?_
    refine lv_iconst (v := 2) hx hb dX8_lengthOf_30 (by decide) ?_
    refine lv_icmp_ne (tgt := 51) hx hb dX8_lengthOf_31 (by decide) (fun c31 => ?_) (fun c31 => ?_)
    · refine lv_iload_n hx hb dX8_lengthOf_51 rfl (lv_at hl 0 rfl) ?_
      refine lv_if_eq (tgt := 60) hx hb dX8_lengthOf_52 (by decide) (fun c52 => ?_) (fun c52 => ?_)
      · exact absurd c52 (by first | decide | simp [mo_up])
      refine lv_bipush (v := 30) hx hb dX8_lengthOf_55 (by decide) ?_
      refine lv_goto (tgt := 62) hx hb dX8_lengthOf_57 (by decide) ?_
      exact hs_iret hC hW hL hr hlocks (by decide) (by decide) dX8_lengthOf_62 ⟨by first | (simp_all; done) | (exfalso; revert c52; simp_all), rfl, rfl, rfl⟩
    refine lv_iload_n hx hb dX8_lengthOf_34 rfl (lv_at hl 1 rfl) ?_
    refine hs_callS hC hs_Tok hW hL (ct_X8_isLeap E G _) cw_X8_isLeap lk_X8_114 st_X8_isLeap hl.1 (by decide) (Nat.le_of_ble_eq_true rfl) dX8_lengthOf_35 (hs_kp1 (fun H locs hW hL => ?_))
    refine lv_if_eq (tgt := 46) hx hb dX8_lengthOf_38 (by decide) (fun c38 => ?_) (fun c38 => ?_)
    · refine lv_bipush (v := 28) hx hb dX8_lengthOf_46 (by decide) ?_
      refine lv_goto (tgt := 62) hx hb dX8_lengthOf_48 (by decide) ?_
      exact hs_iret hC hW hL hr hlocks (by decide) (by decide) dX8_lengthOf_62 ⟨by first | (simp_all; done) | (exfalso; revert c52; simp_all), rfl, rfl, rfl⟩
    refine lv_bipush (v := 29) hx hb dX8_lengthOf_41 (by decide) ?_
    refine lv_goto (tgt := 62) hx hb dX8_lengthOf_43 (by decide) ?_
    exact hs_iret hC hW hL hr hlocks (by decide) (by decide) dX8_lengthOf_62 ⟨by first | (simp_all; done) | (exfalso; revert c52; simp_all), rfl, rfl, rfl⟩
  refine lv_iload_n hx hb dX8_lengthOf_17 rfl (lv_at hl 1 rfl) ?_
  refine lv_bipush (v := 11) hx hb dX8_lengthOf_18 (by decide) ?_
  refine lv_icmp_ne (tgt := 27) hx hb dX8_lengthOf_20 (by decide) (fun c20 => ?_) (fun c20 => ?_)
  · refine lv_iconst (v := 0) hx hb dX8_lengthOf_27 (by decide) ?_
    refine lv_istore_n (lv' := [(2, .int _), (0, .int _), (1, .int _)]) hx hb dX8_lengthOf_28 rfl hl (by decide) rfl (fun ls hl => ?_)
    refine lv_iload_n hx hb dX8_lengthOf_29 rfl (lv_at hl 2 rfl) ?_
    refine lv_iconst (v := 2) hx hb dX8_lengthOf_30 (by decide) ?_
    refine lv_icmp_ne (tgt := 51) hx hb dX8_lengthOf_31 (by decide) (fun c31 => ?_) (fun c31 => ?_)
    · refine lv_iload_n hx hb dX8_lengthOf_51 rfl (lv_at hl 0 rfl) ?_
      refine lv_if_eq (tgt := 60) hx hb dX8_lengthOf_52 (by decide) (fun c52 => ?_) (fun c52 => ?_)
      · refine lv_bipush (v := 31) hx hb dX8_lengthOf_60 (by decide) ?_
        exact hs_iret hC hW hL hr hlocks (by decide) (by decide) dX8_lengthOf_62 ⟨by first | (simp_all; done) | (exfalso; revert c52; simp_all), rfl, rfl, rfl⟩
      exact absurd c52 (by first | decide | simp [mo_up])
    refine lv_iload_n hx hb dX8_lengthOf_34 rfl (lv_at hl 1 rfl) ?_
    refine hs_callS hC hs_Tok hW hL (ct_X8_isLeap E G _) cw_X8_isLeap lk_X8_114 st_X8_isLeap hl.1 (by decide) (Nat.le_of_ble_eq_true rfl) dX8_lengthOf_35 (hs_kp1 (fun H locs hW hL => ?_))
    refine lv_if_eq (tgt := 46) hx hb dX8_lengthOf_38 (by decide) (fun c38 => ?_) (fun c38 => ?_)
    · refine lv_bipush (v := 28) hx hb dX8_lengthOf_46 (by decide) ?_
      refine lv_goto (tgt := 62) hx hb dX8_lengthOf_48 (by decide) ?_
      exact hs_iret hC hW hL hr hlocks (by decide) (by decide) dX8_lengthOf_62 ⟨by first | (simp_all; done) | (exfalso; revert c52; simp_all), rfl, rfl, rfl⟩
    refine lv_bipush (v := 29) hx hb dX8_lengthOf_41 (by decide) ?_
    refine lv_goto (tgt := 62) hx hb dX8_lengthOf_43 (by decide) ?_
    exact hs_iret hC hW hL hr hlocks (by decide) (by decide) dX8_lengthOf_62 ⟨by first | (simp_all; done) | (exfalso; revert c52; simp_all), rfl, rfl, rfl⟩
  refine lv_iconst (v := 1) hx hb dX8_lengthOf_23 (by decide) ?_
  refine lv_goto (tgt := 28) hx hb dX8_lengthOf_24 (by decide) ?_
  refine lv_istore_n (lv' := [(2, .int _), (0, .int _), (1, .int _)]) hx hb dX8_lengthOf_28 rfl hl (by decide) rfl (fun ls hl => ?_)
  refine lv_iload_n hx hb dX8_lengthOf_29 rfl (lv_at hl 2 rfl) ?_
  refine lv_iconst (v := 2) hx hb dX8_lengthOf_30 (by decide) ?_
  refine lv_icmp_ne (tgt := 51) hx hb dX8_lengthOf_31 (by decide) (fun c31 => ?_) (fun c31 => ?_)
  · refine lv_iload_n hx hb dX8_lengthOf_51 rfl (lv_at hl 0 rfl) ?_
    refine lv_if_eq (tgt := 60) hx hb dX8_lengthOf_52 (by decide) (fun c52 => ?_) (fun c52 => ?_)
    · exact absurd c52 (by first | decide | simp [mo_up])
    refine lv_bipush (v := 30) hx hb dX8_lengthOf_55 (by decide) ?_
    refine lv_goto (tgt := 62) hx hb dX8_lengthOf_57 (by decide) ?_
    exact hs_iret hC hW hL hr hlocks (by decide) (by decide) dX8_lengthOf_62 ⟨by first | (simp_all; done) | (exfalso; revert c52; simp_all), rfl, rfl, rfl⟩
  refine lv_iload_n hx hb dX8_lengthOf_34 rfl (lv_at hl 1 rfl) ?_
  refine hs_callS hC hs_Tok hW hL (ct_X8_isLeap E G _) cw_X8_isLeap lk_X8_114 st_X8_isLeap hl.1 (by decide) (Nat.le_of_ble_eq_true rfl) dX8_lengthOf_35 (hs_kp1 (fun H locs hW hL => ?_))
  refine lv_if_eq (tgt := 46) hx hb dX8_lengthOf_38 (by decide) (fun c38 => ?_) (fun c38 => ?_)
  · refine lv_bipush (v := 28) hx hb dX8_lengthOf_46 (by decide) ?_
    refine lv_goto (tgt := 62) hx hb dX8_lengthOf_48 (by decide) ?_
    exact hs_iret hC hW hL hr hlocks (by decide) (by decide) dX8_lengthOf_62 ⟨by first | (simp_all; done) | (exfalso; revert c52; simp_all), rfl, rfl, rfl⟩
  refine lv_bipush (v := 29) hx hb dX8_lengthOf_41 (by decide) ?_
  refine lv_goto (tgt := 62) hx hb dX8_lengthOf_43 (by decide) ?_
  exact hs_iret hC hW hL hr hlocks (by decide) (by decide) dX8_lengthOf_62 ⟨by first | (simp_all; done) | (exfalso; revert c52; simp_all), rfl, rfl, rfl⟩
set_option maxHeartbeats 4000000 in
set_option maxRecDepth 100000 in
/-- Model.in -/
theorem ct_X8_in (E : hs_E) (G : hs_G) (x a b : Int64) : hM E yX8_in ({ frames := 0, cells := 0, slots := 0, locals := 0 }) [.long x, .long a, .long b] G (hs_pu (some (.int (hs_b (a ≤ x ∧ x ≤ b)))) G) := by
  refine hs_ofW (cc := cX8_in) (maxL := 6) (ret := (some .boolean)) (by decide) co_X8_in ?_
  intro p e s m args below meth c hC hlocks hr hin0 hnoh hW
  obtain ⟨hx, hb, hml, hown, hts, -⟩ := id hC
  have hE := hW
  have hL : ∀ q ∈ ([] : List Loc), (eH E).size ≤ q.base := fun q hq => nomatch hq
  have hl := lv_entry ([.long x, .long a, .long b] : List Value) (n := 6) (Nat.le_of_ble_eq_true rfl)
  rw [lg_entry_eq]
  generalize (lg_sl [.long x, .long a, .long b] ++ List.replicate (6 - (lg_sl [.long x, .long a, .long b]).length) Slot.unset).toArray = ls at hl ⊢
  have hl : lv_has ls 6 [(0, .long x), (2, .long a), (4, .long b)] := hl
  refine lv_lload_n hx hb dX8_in_0 rfl (lv_at hl 0 rfl) ?_
  refine lv_lload_n hx hb dX8_in_1 rfl (lv_at hl 1 rfl) ?_
  refine W.lcmp hx hb dX8_in_2 ?_
  refine lv_if_lt (tgt := 17) hx hb dX8_in_3 (by decide) (fun c3 => ?_) (fun c3 => ?_)
  · refine lv_iconst (v := 0) hx hb dX8_in_17 (by decide) ?_
    exact hs_zret hC hW hL hr hlocks (by decide) (by decide) dX8_in_18 (by first | rfl | decide | (simp [hs_b]; split <;> rfl)) ⟨by (first | rfl | ((try simp only [lg_cmp_lt, lg_cmp_gt, lg_cmp_le, lg_cmp_ge, lg_cmp_eq] at c3 ⊢); simp only [hs_b, Int32.le_iff_toInt_le, Int32.lt_iff_toInt_lt, ← Int32.toInt_inj, Int64.le_iff_toInt_le, Int64.lt_iff_toInt_lt, Int32.toInt_zero, Int32.toInt_one] at c3 ⊢; split <;> first | rfl | (exfalso; omega))), rfl, rfl, rfl⟩
  refine lv_lload_n hx hb dX8_in_6 rfl (lv_at hl 0 rfl) ?_
  refine lv_lload hx hb dX8_in_7 (lv_at hl 2 rfl) ?_
  refine W.lcmp hx hb dX8_in_9 ?_
  refine lv_if_gt (tgt := 17) hx hb dX8_in_10 (by decide) (fun c10 => ?_) (fun c10 => ?_)
  · refine lv_iconst (v := 0) hx hb dX8_in_17 (by decide) ?_
    exact hs_zret hC hW hL hr hlocks (by decide) (by decide) dX8_in_18 (by first | rfl | decide | (simp [hs_b]; split <;> rfl)) ⟨by (first | rfl | ((try simp only [lg_cmp_lt, lg_cmp_gt, lg_cmp_le, lg_cmp_ge, lg_cmp_eq] at c3 c10 ⊢); simp only [hs_b, Int32.le_iff_toInt_le, Int32.lt_iff_toInt_lt, ← Int32.toInt_inj, Int64.le_iff_toInt_le, Int64.lt_iff_toInt_lt, Int32.toInt_zero, Int32.toInt_one] at c3 c10 ⊢; split <;> first | rfl | (exfalso; omega))), rfl, rfl, rfl⟩
  refine lv_iconst (v := 1) hx hb dX8_in_13 (by decide) ?_
  refine lv_goto (tgt := 18) hx hb dX8_in_14 (by decide) ?_
  exact hs_zret hC hW hL hr hlocks (by decide) (by decide) dX8_in_18 (by first | rfl | decide | (simp [hs_b]; split <;> rfl)) ⟨by (first | rfl | ((try simp only [lg_cmp_lt, lg_cmp_gt, lg_cmp_le, lg_cmp_ge, lg_cmp_eq] at c3 c10 ⊢); simp only [hs_b, Int32.le_iff_toInt_le, Int32.lt_iff_toInt_lt, ← Int32.toInt_inj, Int64.le_iff_toInt_le, Int64.lt_iff_toInt_lt, Int32.toInt_zero, Int32.toInt_one] at c3 c10 ⊢; split <;> first | rfl | (exfalso; omega))), rfl, rfl, rfl⟩
set_option maxHeartbeats 4000000 in
set_option maxRecDepth 100000 in
/-- Model.place -/
theorem ct_X8_place (E : hs_E) (G : hs_G) (pa k : Int32) : hM E yX8_place ({ frames := 0, cells := 0, slots := 0, locals := 0 }) [.int pa, .int k] G (hs_pu (some (.int (9 * pa + k + 1))) G) := by
  refine hs_ofW (cc := cX8_place) (maxL := 2) (ret := (some .int)) (by decide) co_X8_place ?_
  intro p e s m args below meth c hC hlocks hr hin0 hnoh hW
  obtain ⟨hx, hb, hml, hown, hts, -⟩ := id hC
  have hE := hW
  have hL : ∀ q ∈ ([] : List Loc), (eH E).size ≤ q.base := fun q hq => nomatch hq
  have hl := lv_entry ([.int pa, .int k] : List Value) (n := 2) (Nat.le_of_ble_eq_true rfl)
  rw [lg_entry_eq]
  generalize (lg_sl [.int pa, .int k] ++ List.replicate (2 - (lg_sl [.int pa, .int k]).length) Slot.unset).toArray = ls at hl ⊢
  have hl : lv_has ls 2 [(0, .int pa), (1, .int k)] := hl
  refine lv_bipush (v := 9) hx hb dX8_place_0 (by decide) ?_
  refine lv_iload_n hx hb dX8_place_2 rfl (lv_at hl 0 rfl) ?_
  refine lv_imul hx hb dX8_place_3 ?_
  refine lv_iload_n hx hb dX8_place_4 rfl (lv_at hl 1 rfl) ?_
  refine lv_iadd hx hb dX8_place_5 ?_
  refine lv_iconst (v := 1) hx hb dX8_place_6 (by decide) ?_
  refine lv_iadd hx hb dX8_place_7 ?_
  exact hs_iret hC hW hL hr hlocks (by decide) (by decide) dX8_place_8 ⟨by rfl, rfl, rfl, rfl⟩
set_option maxHeartbeats 4000000 in
set_option maxRecDepth 100000 in
/-- Model.isOver -/
theorem ct_X8_isOver (E : hs_E) (G : hs_G) (x : Int32) : hM E yX8_isOver ({ frames := 0, cells := 0, slots := 0, locals := 0 }) [.int x] G (hs_pu (some (.int (hs_b (1 < x)))) G) := by
  refine hs_ofW (cc := cX8_isOver) (maxL := 1) (ret := (some .boolean)) (by decide) co_X8_isOver ?_
  intro p e s m args below meth c hC hlocks hr hin0 hnoh hW
  obtain ⟨hx, hb, hml, hown, hts, -⟩ := id hC
  have hE := hW
  have hL : ∀ q ∈ ([] : List Loc), (eH E).size ≤ q.base := fun q hq => nomatch hq
  have hl := lv_entry ([.int x] : List Value) (n := 1) (Nat.le_of_ble_eq_true rfl)
  rw [lg_entry_eq]
  generalize (lg_sl [.int x] ++ List.replicate (1 - (lg_sl [.int x]).length) Slot.unset).toArray = ls at hl ⊢
  have hl : lv_has ls 1 [(0, .int x)] := hl
  refine lv_iload_n hx hb dX8_isOver_0 rfl (lv_at hl 0 rfl) ?_
  refine lv_iconst (v := 1) hx hb dX8_isOver_1 (by decide) ?_
  refine lv_icmp_le (tgt := 9) hx hb dX8_isOver_2 (by decide) (fun c2 => ?_) (fun c2 => ?_)
  · refine lv_iconst (v := 0) hx hb dX8_isOver_9 (by decide) ?_
    exact hs_zret hC hW hL hr hlocks (by decide) (by decide) dX8_isOver_10 (by first | rfl | decide | (simp [hs_b]; split <;> rfl)) ⟨by (first | rfl | ((try simp only [lg_cmp_lt, lg_cmp_gt, lg_cmp_le, lg_cmp_ge, lg_cmp_eq] at c2 ⊢); simp only [hs_b, Int32.le_iff_toInt_le, Int32.lt_iff_toInt_lt, ← Int32.toInt_inj, Int64.le_iff_toInt_le, Int64.lt_iff_toInt_lt, Int32.toInt_zero, Int32.toInt_one] at c2 ⊢; split <;> first | rfl | (exfalso; omega))), rfl, rfl, rfl⟩
  refine lv_iconst (v := 1) hx hb dX8_isOver_5 (by decide) ?_
  refine lv_goto (tgt := 10) hx hb dX8_isOver_6 (by decide) ?_
  exact hs_zret hC hW hL hr hlocks (by decide) (by decide) dX8_isOver_10 (by first | rfl | decide | (simp [hs_b]; split <;> rfl)) ⟨by (first | rfl | ((try simp only [lg_cmp_lt, lg_cmp_gt, lg_cmp_le, lg_cmp_ge, lg_cmp_eq] at c2 ⊢); simp only [hs_b, Int32.le_iff_toInt_le, Int32.lt_iff_toInt_lt, ← Int32.toInt_inj, Int64.le_iff_toInt_le, Int64.lt_iff_toInt_lt, Int32.toInt_zero, Int32.toInt_one] at c2 ⊢; split <;> first | rfl | (exfalso; omega))), rfl, rfl, rfl⟩
set_option maxHeartbeats 4000000 in
set_option maxRecDepth 100000 in
/-- Model.isParty -/
theorem ct_X8_isParty (E : hs_E) (G : hs_G) (x : Int32) : hM E yX8_isParty ({ frames := 1, cells := 0, slots := 0, locals := 40 }) [.int x] G (hs_pu (some (.int (hs_b (0 ≤ x.toInt64 ∧ x.toInt64 ≤ 15)))) G) := by
  refine hs_ofW (cc := cX8_isParty) (maxL := 1) (ret := (some .boolean)) (by decide) co_X8_isParty ?_
  intro p e s m args below meth c hC hlocks hr hin0 hnoh hW
  obtain ⟨hx, hb, hml, hown, hts, -⟩ := id hC
  have hE := hW
  have hL : ∀ q ∈ ([] : List Loc), (eH E).size ≤ q.base := fun q hq => nomatch hq
  have hl := lv_entry ([.int x] : List Value) (n := 1) (Nat.le_of_ble_eq_true rfl)
  rw [lg_entry_eq]
  generalize (lg_sl [.int x] ++ List.replicate (1 - (lg_sl [.int x]).length) Slot.unset).toArray = ls at hl ⊢
  have hl : lv_has ls 1 [(0, .int x)] := hl
  refine lv_iload_n hx hb dX8_isParty_0 rfl (lv_at hl 0 rfl) ?_
  refine lv_i2l hx hb dX8_isParty_1 rfl ?_
  refine lv_lconst (v := 0) hx hb dX8_isParty_2 (by decide) ?_
  refine lv_ldc2 hx hb hown (hts _ lk_X8_97) dX8_isParty_3 ?_
  refine hs_callS hC hs_Tok hW hL (ct_X8_in E G _ _ _) cw_X8_in lk_X8_99 st_X8_in hl.1 (by decide) (Nat.le_of_ble_eq_true rfl) dX8_isParty_6 (hs_kp1 (fun H locs hW hL => ?_))
  exact hs_zret hC hW hL hr hlocks (by decide) (by decide) dX8_isParty_9 (hs_b_z _) ⟨rfl, rfl, rfl, rfl⟩
set_option maxHeartbeats 4000000 in
set_option maxRecDepth 100000 in
/-- Model.isKind -/
theorem ct_X8_isKind (E : hs_E) (G : hs_G) (x : Int32) : hM E yX8_isKind ({ frames := 1, cells := 0, slots := 0, locals := 40 }) [.int x] G (hs_pu (some (.int (hs_b (-1 ≤ x.toInt64 ∧ x.toInt64 ≤ 7)))) G) := by
  refine hs_ofW (cc := cX8_isKind) (maxL := 1) (ret := (some .boolean)) (by decide) co_X8_isKind ?_
  intro p e s m args below meth c hC hlocks hr hin0 hnoh hW
  obtain ⟨hx, hb, hml, hown, hts, -⟩ := id hC
  have hE := hW
  have hL : ∀ q ∈ ([] : List Loc), (eH E).size ≤ q.base := fun q hq => nomatch hq
  have hl := lv_entry ([.int x] : List Value) (n := 1) (Nat.le_of_ble_eq_true rfl)
  rw [lg_entry_eq]
  generalize (lg_sl [.int x] ++ List.replicate (1 - (lg_sl [.int x]).length) Slot.unset).toArray = ls at hl ⊢
  have hl : lv_has ls 1 [(0, .int x)] := hl
  refine lv_iload_n hx hb dX8_isKind_0 rfl (lv_at hl 0 rfl) ?_
  refine lv_i2l hx hb dX8_isKind_1 rfl ?_
  refine lv_ldc2 hx hb hown (hts _ lk_X8_103) dX8_isKind_2 ?_
  refine lv_ldc2 hx hb hown (hts _ lk_X8_105) dX8_isKind_5 ?_
  refine hs_callS hC hs_Tok hW hL (ct_X8_in E G _ _ _) cw_X8_in lk_X8_99 st_X8_in hl.1 (by decide) (Nat.le_of_ble_eq_true rfl) dX8_isKind_8 (hs_kp1 (fun H locs hW hL => ?_))
  exact hs_zret hC hW hL hr hlocks (by decide) (by decide) dX8_isKind_11 (hs_b_z _) ⟨rfl, rfl, rfl, rfl⟩
def hs_up2 : List String := ["java/lang/RuntimeException", "java/lang/Exception"]
theorem ta_IAE : ∀ w ∈ vx_at0 RX7 190 "java/lang/IllegalArgumentException" hs_up2, w ∈ hs_Ts := by decide +kernel
theorem tg_IAE : ∀ w ∈ Cond.classLink RX7 188 "java/lang/IllegalArgumentException" :: Cond.initialized "java/lang/IllegalArgumentException" :: vx_at0 RX7 190 "java/lang/IllegalArgumentException" hs_up2, vx_ot w = true := by decide +kernel
theorem ta_ISE : ∀ w ∈ vx_at0 RX7 140 "java/lang/IllegalStateException" hs_up2, w ∈ hs_Ts := by decide +kernel
theorem tg_ISE : ∀ w ∈ Cond.classLink RX7 138 "java/lang/IllegalStateException" :: Cond.initialized "java/lang/IllegalStateException" :: vx_at0 RX7 140 "java/lang/IllegalStateException" hs_up2, vx_ot w = true := by decide +kernel
theorem tf_up2 : ∀ n ∈ hs_up2, Bundle.fit n = true := by decide +kernel
/-- a check: nothing changes; where it is not so, an object of the class cls is thrown -/
def hs_ck (ok : Prop) (cls : String) (G : hs_G) : hs_P := fun r G1 k n => G1 = G ∧ ((ok ∧ r = .inl none ∧ k = 0 ∧ n = 0) ∨ (¬ ok ∧ r = .inr cls ∧ k = 1 ∧ n = 6))
set_option maxHeartbeats 4000000 in
set_option maxRecDepth 100000 in
/-- SettleHouse.checkArgument -/
theorem ct_X7_checkArgument (E : hs_E) (hST : E.1.stackTraces = false) (G : hs_G) (b : Int32) : hM E yX7_checkArgument ({ frames := 6, cells := 1, slots := 6, locals := 90 }) [.int b] G (hs_ck (¬ b = 0) "java/lang/IllegalArgumentException" G) := by
  refine hs_ofW (cc := cX7_checkArgument) (maxL := 1) (ret := none) (by decide) co_X7_checkArgument ?_
  intro p e s m args below meth c hC hlocks hr hin0 hnoh hW
  obtain ⟨hx, hb, hml, hown, hts, -⟩ := id hC
  have hE := hW
  have hL : ∀ q ∈ ([] : List Loc), (eH E).size ≤ q.base := fun q hq => nomatch hq
  have hl := lv_entry ([.int b] : List Value) (n := 1) (Nat.le_of_ble_eq_true rfl)
  rw [lg_entry_eq]
  generalize (lg_sl [.int b] ++ List.replicate (1 - (lg_sl [.int b]).length) Slot.unset).toArray = ls at hl ⊢
  have hl : lv_has ls 1 [(0, .int b)] := hl
  refine lv_iload_n hx hb dX7_checkArgument_0 rfl (lv_at hl 0 rfl) ?_
  refine lv_if_ne (tgt := 12) hx hb dX7_checkArgument_1 (by decide) (fun c1 => ?_) (fun c1 => ?_)
  · exact hs_vret hC hW hL hr hlocks (by decide) (by decide) dX7_checkArgument_12 ⟨rfl, Or.inl ⟨by simpa using c1, rfl, rfl, rfl⟩⟩
  exact hs_throw (names := hs_up2) hC (Or.inr hE.2.2) hW hL hlocks hST (by decide +kernel) tf_up2 lk_X7_188 ii_O_IllegalArgumentException ta_IAE tg_IAE hl.1 dX7_checkArgument_4 dX7_checkArgument_7 dX7_checkArgument_8 dX7_checkArgument_11 (fun x hx => (hnoh x hx).elim) (by decide) (by decide) (by decide) ⟨rfl, Or.inr ⟨by simpa using c1, rfl, rfl, rfl⟩⟩
set_option maxHeartbeats 4000000 in
set_option maxRecDepth 100000 in
/-- SettleHouse.checkState -/
theorem ct_X7_checkState (E : hs_E) (hST : E.1.stackTraces = false) (G : hs_G) (b : Int32) : hM E yX7_checkState ({ frames := 6, cells := 1, slots := 6, locals := 90 }) [.int b] G (hs_ck (¬ b = 0) "java/lang/IllegalStateException" G) := by
  refine hs_ofW (cc := cX7_checkState) (maxL := 1) (ret := none) (by decide) co_X7_checkState ?_
  intro p e s m args below meth c hC hlocks hr hin0 hnoh hW
  obtain ⟨hx, hb, hml, hown, hts, -⟩ := id hC
  have hE := hW
  have hL : ∀ q ∈ ([] : List Loc), (eH E).size ≤ q.base := fun q hq => nomatch hq
  have hl := lv_entry ([.int b] : List Value) (n := 1) (Nat.le_of_ble_eq_true rfl)
  rw [lg_entry_eq]
  generalize (lg_sl [.int b] ++ List.replicate (1 - (lg_sl [.int b]).length) Slot.unset).toArray = ls at hl ⊢
  have hl : lv_has ls 1 [(0, .int b)] := hl
  refine lv_iload_n hx hb dX7_checkState_0 rfl (lv_at hl 0 rfl) ?_
  refine lv_if_ne (tgt := 12) hx hb dX7_checkState_1 (by decide) (fun c1 => ?_) (fun c1 => ?_)
  · exact hs_vret hC hW hL hr hlocks (by decide) (by decide) dX7_checkState_12 ⟨rfl, Or.inl ⟨by simpa using c1, rfl, rfl, rfl⟩⟩
  exact hs_throw (names := hs_up2) hC (Or.inr hE.2.2) hW hL hlocks hST (by decide +kernel) tf_up2 lk_X7_138 ii_O_IllegalStateException ta_ISE tg_ISE hl.1 dX7_checkState_4 dX7_checkState_7 dX7_checkState_8 dX7_checkState_11 (fun x hx => (hnoh x hx).elim) (by decide) (by decide) (by decide) ⟨rfl, Or.inr ⟨by simpa using c1, rfl, rfl, rfl⟩⟩
