/-! the class: public methods, second part -/
theorem dt_yrl (E : hs_E) (G : hs_G) (y : Nat) : hM E yX0_yearLength ({ frames := 1, cells := 0, slots := 0, locals := 30 }) [.int (nI y)] G (hs_pu (some (.int (nI (dt_yl y)))) G) := by
  have h := ct_X0_yearLength E G (nI y)
  have e : (if hs_lp (nI y) = 0 then (365 : Int32) else 366) = nI (dt_yl y) := by
    by_cases z : hs_lp (nI y) = 0
    · rw [if_pos z]; exact dt_y0 z
    · rw [if_neg z]; exact dt_y1 z
  rw [e] at h
  exact h
theorem cl_ml_v {y m : Nat} (h1 : 1 ≤ m) (h2 : m ≤ 12) (h : ¬ m = 2 ∨ hs_lp (nI y) = 0) : nI (cl_ml (m - 1)) = nI (dt_ml y m) := by
  congr 1
  unfold cl_ml dt_ml
  rcases h with h | h
  · rw [if_neg (by omega), if_neg h]
    by_cases z : m = 4 ∨ m = 6 ∨ m = 9 ∨ m = 11
    · rw [if_pos z, if_pos (by omega)]
    · rw [if_neg z, if_neg (by omega)]
  · by_cases z : m = 2
    · rw [if_pos (by omega), if_pos z, if_pos h]
    · rw [if_neg (by omega), if_neg z]
      by_cases z : m = 4 ∨ m = 6 ∨ m = 9 ∨ m = 11
      · rw [if_pos z, if_pos (by omega)]
      · rw [if_neg z, if_neg (by omega)]
theorem dt_29 {y m : Nat} (h : m = 2) (hl : ¬ hs_lp (nI y) = 0) : (29 : Int32) = nI (dt_ml y m) := by
  unfold dt_ml
  rw [if_pos h, if_neg hl]
  decide +kernel
theorem dt_v3 {d : Nat} {pa : Int32} (h : pa.toInt = 3) : hs_wd (nI d) = dt_v d pa := by
  have e : pa = 3 := Int32.toInt_inj.mp (h.trans (by decide))
  subst e
  unfold dt_v
  rw [if_neg (by decide), if_neg (by decide), if_neg (by decide), if_pos rfl]
theorem dt_v4 {d : Nat} {pa : Int32} (ok : 0 ≤ pa ∧ pa ≤ 4) (h : pa.toInt < 0 ∨ 3 < pa.toInt) : nI d = dt_v d pa := by
  rw [Int32.le_iff_toInt_le, Int32.le_iff_toInt_le, show Int32.toInt 0 = 0 by decide, show Int32.toInt 4 = 4 by decide] at ok
  have e : pa = 4 := Int32.toInt_inj.mp ((show pa.toInt = 4 by omega).trans (by decide))
  subst e
  unfold dt_v
  rw [if_neg (by decide), if_neg (by decide), if_neg (by decide), if_neg (by decide)]
theorem dt_vI {pa : Int32} {k : Int} {v : Int32} (h : pa.toInt = k) (hv : v.toInt = k) : pa = v := Int32.toInt_inj.mp (h.trans hv.symm)
theorem dt_v2b {d m r : Nat} {pa : Int32} (hM : dt_M d = (m, r)) (h : pa = 2) : nI r + 1 = dt_v d pa := by
  subst h
  unfold dt_v
  rw [if_neg (by decide), if_neg (by decide), if_pos rfl, hM, nI_1]
set_option maxHeartbeats 4000000 in
set_option maxRecDepth 100000 in
/-- Days.monthLength -/
theorem ct_X0_monthLength (E : hs_E) (G : hs_G) (f : Nat → Int32) (hS : G (eM E) = some (.inl ((eD E).1 78, 12, .inl f))) (hf : ∀ m, m < 12 → f m = nI (cl_ml m)) (y mo9 : Nat) (hm1 : 1 ≤ mo9) (hm2 : mo9 ≤ 12) : hM E yX0_monthLength ({ frames := 1, cells := 0, slots := 0, locals := 30 }) [.int (nI y), .int (nI mo9)] G (hs_pu (some (.int (nI (dt_ml y mo9)))) G) := by
  refine hs_ofW (cc := cX0_monthLength) (maxL := 2) (ret := (some .int)) (by decide) co_X0_monthLength ?_
  intro p e s m args below meth c hC hlocks hr hin0 hnoh hW
  obtain ⟨hx, hb, hml, hown, hts, -⟩ := id hC
  have hE := hW
  have hL : ∀ q ∈ ([] : List Loc), (eH E).size ≤ q.base := fun q hq => nomatch hq
  have hl := lv_entry ([.int (nI y), .int (nI mo9)] : List Value) (n := 2) (Nat.le_of_ble_eq_true rfl)
  rw [lg_entry_eq]
  generalize (lg_sl [.int (nI y), .int (nI mo9)] ++ List.replicate (2 - (lg_sl [.int (nI y), .int (nI mo9)]).length) Slot.unset).toArray = ls at hl ⊢
  have hl : lv_has ls 2 [(0, .int (nI y)), (1, .int (nI mo9))] := hl
  refine lv_iload_n hx hb dX0_monthLength_0 rfl (lv_at hl 1 rfl) ?_
  refine lv_iconst (v := 1) hx hb dX0_monthLength_1 (by decide) ?_
  refine lv_icmp_lt (tgt := 11) hx hb dX0_monthLength_2 (by decide) (fun c2 => ?_) (fun c2 => ?_)
  · exact absurd c2 (Int32.not_lt.mpr (by rw [show (1 : Int32) = nI 1 by decide +kernel]; exact (nI_leI (by decide) (by omega)).mpr hm1))
  refine lv_iload_n hx hb dX0_monthLength_5 rfl (lv_at hl 1 rfl) ?_
  refine lv_bipush (v := 12) hx hb dX0_monthLength_6 (by decide) ?_
  refine lv_icmp_le (tgt := 13) hx hb dX0_monthLength_8 (by decide) (fun c8 => ?_) (fun c8 => ?_)
  · refine lv_iload_n hx hb dX0_monthLength_13 rfl (lv_at hl 1 rfl) ?_
    refine lv_iconst (v := 2) hx hb dX0_monthLength_14 (by decide) ?_
    refine lv_icmp_ne (tgt := 30) hx hb dX0_monthLength_15 (by decide) (fun c15 => ?_) (fun c15 => ?_)
    · have hml9 : nI (cl_ml (mo9 - 1)) = nI (dt_ml y mo9) := cl_ml_v hm1 hm2 (by first | exact Or.inr c22 | exact Or.inl (fun z => c15 (by rw [z]; decide +kernel)))
      refine hs_getsN hC hW List.mem_cons_self lk_X0_41 dX0_monthLength_30 ?_
      refine lv_iload_n hx hb dX0_monthLength_33 rfl (lv_at hl 1 rfl) ?_
      refine lv_iconst (v := 1) hx hb dX0_monthLength_34 (by decide) ?_
      refine lv_isub hx hb dX0_monthLength_35 ?_
      rw [al_m1 (by omega)]
      refine hs_ialdM hC hW hS (vp_in_nI (by omega) (by decide)) dX0_monthLength_36 ?_
      rw [nI_clamp (by omega), hf (mo9 - 1) (by omega)]
      exact hs_iret hC hW hL hr hlocks (by decide) (by decide) dX0_monthLength_37 ⟨by first | rw [dt_29 h2m c22] | rw [hml9], rfl, rfl, rfl⟩
    have h2m : mo9 = 2 := by rw [show (2 : Int32) = nI 2 by decide +kernel, dt_nI (by omega) (by decide)] at c15; exact c15
    refine lv_iload_n hx hb dX0_monthLength_18 rfl (lv_at hl 0 rfl) ?_
    refine hs_callS hC hs_Tok hW hL (ct_X0_isLeap E _ _) cw_X0_isLeap lk_X0_38 st_X0_isLeap hl.1 (by decide) (Nat.le_of_ble_eq_true rfl) dX0_monthLength_19 (hs_kp1 (fun H locs hW hL => ?_))
    refine lv_if_eq (tgt := 30) hx hb dX0_monthLength_22 (by decide) (fun c22 => ?_) (fun c22 => ?_)
    · have hml9 : nI (cl_ml (mo9 - 1)) = nI (dt_ml y mo9) := cl_ml_v hm1 hm2 (by first | exact Or.inr c22 | exact Or.inl (fun z => c15 (by rw [z]; decide +kernel)))
      refine hs_getsN hC hW List.mem_cons_self lk_X0_41 dX0_monthLength_30 ?_
      refine lv_iload_n hx hb dX0_monthLength_33 rfl (lv_at hl 1 rfl) ?_
      refine lv_iconst (v := 1) hx hb dX0_monthLength_34 (by decide) ?_
      refine lv_isub hx hb dX0_monthLength_35 ?_
      rw [al_m1 (by omega)]
      refine hs_ialdM hC hW hS (vp_in_nI (by omega) (by decide)) dX0_monthLength_36 ?_
      rw [nI_clamp (by omega), hf (mo9 - 1) (by omega)]
      exact hs_iret hC hW hL hr hlocks (by decide) (by decide) dX0_monthLength_37 ⟨by first | rw [dt_29 h2m c22] | rw [hml9], rfl, rfl, rfl⟩
    refine lv_bipush (v := 29) hx hb dX0_monthLength_25 (by decide) ?_
    refine lv_goto (tgt := 37) hx hb dX0_monthLength_27 (by decide) ?_
    exact hs_iret hC hW hL hr hlocks (by decide) (by decide) dX0_monthLength_37 ⟨by first | rw [dt_29 h2m c22] | rw [hml9], rfl, rfl, rfl⟩
  exact absurd c8 (fun z => z (by rw [show (12 : Int32) = nI 12 by decide +kernel]; exact (nI_leI (by omega) (by decide)).mpr hm2))
set_option maxHeartbeats 4000000 in
set_option maxRecDepth 100000 in
/-- Days.partOfToday -/
theorem ct_X0_partOfToday (E : hs_E) (t : cl_t) (cap X : Nat → Nat) (d : Nat) (G : hs_G) (hT : cl_T E t cap X d G) (pa : Int32) (ok : 0 ≤ pa ∧ pa ≤ 4) : hM E yX0_partOfToday ({ frames := 2, cells := 0, slots := 0, locals := 60 }) [.ref (X 1), .int pa] G (hs_pu (some (.int (dt_v d pa))) G) := by
  refine hs_ofW (cc := cX0_partOfToday) (maxL := 5) (ret := (some .int)) (by decide) co_X0_partOfToday ?_
  intro p e s m args below meth c hC hlocks hr hin0 hnoh hW
  obtain ⟨hx, hb, hml, hown, hts, -⟩ := id hC
  have hE := hW
  have hL : ∀ q ∈ ([] : List Loc), (eH E).size ≤ q.base := fun q hq => nomatch hq
  have hl := lv_entry ([.ref (X 1), .int pa] : List Value) (n := 5) (Nat.le_of_ble_eq_true rfl)
  rw [lg_entry_eq]
  generalize (lg_sl [.ref (X 1), .int pa] ++ List.replicate (5 - (lg_sl [.ref (X 1), .int pa]).length) Slot.unset).toArray = ls at hl ⊢
  have hl : lv_has ls 5 [(0, .ref (X 1)), (1, .int pa)] := hl
  obtain ⟨fM, hSM, hfM⟩ := hT.2.2.2.1.2.2.2
  refine lv_sipush (v := 1970) hx hb dX0_partOfToday_0 (by decide) ?_
  refine lv_istore_n (lv' := [(2, .int _), (0, .ref _), (1, .int _)]) hx hb dX0_partOfToday_3 rfl hl (by decide) rfl (fun ls hl => ?_)
  refine lv_aload_n hx hb dX0_partOfToday_4 rfl (lv_at hl 1 rfl) ?_
  refine hs_get hC hW hi_X0 rfl 1 (by decide) lk_X0_15 rfl hT.days rfl dX0_partOfToday_5 ?_
  refine lv_istore_n (lv' := [(3, .int _), (2, .int _), (0, .ref _), (1, .int _)]) hx hb dX0_partOfToday_8 rfl hl (by decide) rfl (fun ls hl => ?_)
  rw [show (1970 : Int32) = nI 1970 by decide +kernel] at hl
  refine hs_loop (σ := Nat × Nat × Nat) (fun x => match x with | (k, y, r) => k) (fun x H locs ls => match x with | (k, y, r) => (dt_y k y r = dt_Y d ∧ y + k = 2026 ∧ r < 365 * k) ∧ hs_W (eD E) vwCl (eH E) (G) H ∧ (∀ q ∈ locs, (eH E).size ≤ q.base) ∧ lv_has ls 5 [(0, .ref (X 1)), (1, .int pa), (2, .int (nI y)), (3, .int (nI r))]) ?_ (56, 1970, d) _ _ _ ⟨⟨rfl, rfl, by have := hT.2.2.2.2.1; omega⟩, hW, hL, (lv_sub hl [2, 3, 1, 0] rfl)⟩
  rintro ⟨k, y, r⟩ H locs ls ⟨hinv, hW, hL, hl⟩ ih
  replace hW : hs_W (eD E) vwCl (eH E) (G) H := hW
  replace hl : lv_has ls 5 [(0, .ref (X 1)), (1, .int pa), (2, .int (nI y)), (3, .int (nI r))] := hl
  obtain ⟨k, rfl⟩ := dt_pos hinv.2.2
  refine lv_iload_n hx hb dX0_partOfToday_9 rfl (lv_at hl 2 rfl) ?_
  refine lv_sipush (v := 2100) hx hb dX0_partOfToday_10 (by decide) ?_
  refine lv_icmp_ge (tgt := 37) hx hb dX0_partOfToday_13 (by decide) (fun c13 => ?_) (fun c13 => ?_)
  · exact absurd c13 (fun z => by rw [show (2100 : Int32) = nI 2100 by decide +kernel] at z; have := (nI_leI (by decide) (by omega)).mp z; omega)
  refine lv_iload_n hx hb dX0_partOfToday_16 rfl (lv_at hl 3 rfl) ?_
  refine lv_iload_n hx hb dX0_partOfToday_17 rfl (lv_at hl 2 rfl) ?_
  refine hs_callS hC hs_Tok hW hL (dt_yrl E G y) cw_X0_yearLength lk_X0_31 st_X0_yearLength hl.1 (by decide) (Nat.le_of_ble_eq_true rfl) dX0_partOfToday_18 (hs_kp1 (fun H locs hW hL => ?_))
  refine lv_icmp_lt (tgt := 37) hx hb dX0_partOfToday_21 (by decide) (fun c21 => ?_) (fun c21 => ?_)
  · refine lv_iconst (v := 1) hx hb dX0_partOfToday_37 (by decide) ?_
    refine lv_istore (lv' := [(4, .int _), (0, .ref _), (1, .int _), (2, .int _), (3, .int _)]) hx hb dX0_partOfToday_38 hl (by decide) rfl (fun ls hl => ?_)
    have hlt : r < dt_yl y := (nI_ltI (by omega) (by have := dt_yl_b y; omega)).mp c21
    have hY0 : dt_Y d = (y, r) := dt_y_e hinv.1 hlt
    have hY : (dt_Y d).1 = y := by rw [hY0]
    have hR0 : (dt_Y d).2 = r := by rw [hY0]
    have hr366 : r < 366 := by have := dt_yl_b y; omega
    refine hs_loop (σ := Nat × Nat × Nat) (fun x => match x with | (k, m9, r) => k) (fun x H locs ls => match x with | (k, m9, r) => (dt_m k y m9 r = dt_M d ∧ m9 + k = 13 ∧ r < dt_rl y k ∧ r < 366 ∧ 1 ≤ m9) ∧ hs_W (eD E) vwCl (eH E) (G) H ∧ (∀ q ∈ locs, (eH E).size ≤ q.base) ∧ lv_has ls 5 [(0, .ref (X 1)), (1, .int pa), (2, .int (nI y)), (3, .int (nI r)), (4, .int (nI m9))]) ?_ (12, 1, r) _ _ _ ⟨⟨by unfold dt_M; rw [hY, hR0], rfl, by rw [dt_rl12]; exact hlt, hr366, Nat.le_refl _⟩, hW, hL, (lv_sub hl [1, 2, 3, 4, 0] rfl)⟩
    rintro ⟨k, m9, r⟩ H locs ls ⟨hinv, hW, hL, hl⟩ ih
    replace hW : hs_W (eD E) vwCl (eH E) (G) H := hW
    replace hl : lv_has ls 5 [(0, .ref (X 1)), (1, .int pa), (2, .int (nI y)), (3, .int (nI r)), (4, .int (nI m9))] := hl
    obtain ⟨k, rfl⟩ := dt_rpos hinv.2.2.1
    refine lv_iload hx hb dX0_partOfToday_40 (lv_at hl 4 rfl) ?_
    refine lv_bipush (v := 12) hx hb dX0_partOfToday_42 (by decide) ?_
    refine lv_icmp_ge (tgt := 72) hx hb dX0_partOfToday_44 (by decide) (fun c44 => ?_) (fun c44 => ?_)
    · have hm12 : 12 ≤ m9 := by rw [show (12 : Int32) = nI 12 by decide +kernel] at c44; exact (nI_leI (by decide) (by omega)).mp c44
      have hM : dt_M d = (m9, r) := dt_m_e hinv.1 (by have h9 := hinv.2.2.1; rw [show k = 0 by omega] at h9; simp only [dt_rl] at h9; rw [show m9 = 12 by omega]; omega)
      refine lv_iload_n hx hb dX0_partOfToday_72 rfl (lv_at hl 1 rfl) ?_
      rcases (show ((pa).toInt < 0 ∨ 3 < (pa).toInt) ∨ (pa).toInt = 0 ∨ (pa).toInt = 1 ∨ (pa).toInt = 2 ∨ (pa).toInt = 3 by omega) with c73 | c73 | c73 | c73 | c73
      · refine lv_tableOut (tgt := 121) hx hb dX0_partOfToday_73 c73 (by decide) ?_
        refine lv_aload_n hx hb dX0_partOfToday_121 rfl (lv_at hl 0 rfl) ?_
        refine hs_get hC hW hi_X0 rfl 1 (by decide) lk_X0_15 rfl hT.days rfl dX0_partOfToday_122 ?_
        exact hs_iret hC hW hL hr hlocks (by decide) (by decide) dX0_partOfToday_125 ⟨congrArg (fun z => Sum.inl (some (Value.int z))) (dt_v4 ok c73), rfl, rfl, rfl⟩
      · refine lv_tableIn (off := 31) (tgt := 104) hx hb dX0_partOfToday_73 (by omega) (by omega) (by rw [c73]; rfl) (by decide) ?_
        refine lv_iload_n hx hb dX0_partOfToday_104 rfl (lv_at hl 2 rfl) ?_
        exact hs_iret hC hW hL hr hlocks (by decide) (by decide) dX0_partOfToday_105 ⟨congrArg (fun z => Sum.inl (some (Value.int z))) (dt_v0 hY (dt_vI c73 (by decide))), rfl, rfl, rfl⟩
      · refine lv_tableIn (off := 33) (tgt := 106) hx hb dX0_partOfToday_73 (by omega) (by omega) (by rw [c73]; rfl) (by decide) ?_
        refine lv_iload hx hb dX0_partOfToday_106 (lv_at hl 4 rfl) ?_
        exact hs_iret hC hW hL hr hlocks (by decide) (by decide) dX0_partOfToday_108 ⟨congrArg (fun z => Sum.inl (some (Value.int z))) (dt_v1 hM (fun z => by rw [z] at c73; exact absurd c73 (by decide)) (dt_vI c73 (by decide))), rfl, rfl, rfl⟩
      · refine lv_tableIn (off := 36) (tgt := 109) hx hb dX0_partOfToday_73 (by omega) (by omega) (by rw [c73]; rfl) (by decide) ?_
        refine lv_iload_n hx hb dX0_partOfToday_109 rfl (lv_at hl 3 rfl) ?_
        refine lv_iconst (v := 1) hx hb dX0_partOfToday_110 (by decide) ?_
        refine lv_iadd hx hb dX0_partOfToday_111 ?_
        exact hs_iret hC hW hL hr hlocks (by decide) (by decide) dX0_partOfToday_112 ⟨congrArg (fun z => Sum.inl (some (Value.int z))) (dt_v2b hM (dt_vI c73 (by decide))), rfl, rfl, rfl⟩
      · refine lv_tableIn (off := 40) (tgt := 113) hx hb dX0_partOfToday_73 (by omega) (by omega) (by rw [c73]; rfl) (by decide) ?_
        refine lv_aload_n hx hb dX0_partOfToday_113 rfl (lv_at hl 0 rfl) ?_
        refine hs_get hC hW hi_X0 rfl 1 (by decide) lk_X0_15 rfl hT.days rfl dX0_partOfToday_114 ?_
        refine hs_callS hC hs_Tok hW hL (ct_X0_weekday E _ _) cw_X0_weekday lk_X0_19 st_X0_weekday hl.1 (by decide) (Nat.le_of_ble_eq_true rfl) dX0_partOfToday_117 (hs_kp1 (fun H locs hW hL => ?_))
        exact hs_iret hC hW hL hr hlocks (by decide) (by decide) dX0_partOfToday_120 ⟨congrArg (fun z => Sum.inl (some (Value.int z))) (dt_v3 c73), rfl, rfl, rfl⟩
    refine lv_iload_n hx hb dX0_partOfToday_47 rfl (lv_at hl 3 rfl) ?_
    refine lv_iload_n hx hb dX0_partOfToday_48 rfl (lv_at hl 2 rfl) ?_
    refine lv_iload hx hb dX0_partOfToday_49 (lv_at hl 4 rfl) ?_
    refine hs_callS hC hs_Tok hW hL (ct_X0_monthLength E G fM hSM hfM y m9 (by omega) (by omega)) cw_X0_monthLength lk_X0_34 st_X0_monthLength hl.1 (by decide) (Nat.le_of_ble_eq_true rfl) dX0_partOfToday_51 (hs_kp1 (fun H locs hW hL => ?_))
    refine lv_icmp_lt (tgt := 72) hx hb dX0_partOfToday_54 (by decide) (fun c54 => ?_) (fun c54 => ?_)
    · have hM : dt_M d = (m9, r) := dt_m_e hinv.1 ((nI_ltI (by omega) (by have := dt_ml_b y m9; omega)).mp c54)
      refine lv_iload_n hx hb dX0_partOfToday_72 rfl (lv_at hl 1 rfl) ?_
      rcases (show ((pa).toInt < 0 ∨ 3 < (pa).toInt) ∨ (pa).toInt = 0 ∨ (pa).toInt = 1 ∨ (pa).toInt = 2 ∨ (pa).toInt = 3 by omega) with c73 | c73 | c73 | c73 | c73
      · refine lv_tableOut (tgt := 121) hx hb dX0_partOfToday_73 c73 (by decide) ?_
        refine lv_aload_n hx hb dX0_partOfToday_121 rfl (lv_at hl 0 rfl) ?_
        refine hs_get hC hW hi_X0 rfl 1 (by decide) lk_X0_15 rfl hT.days rfl dX0_partOfToday_122 ?_
        exact hs_iret hC hW hL hr hlocks (by decide) (by decide) dX0_partOfToday_125 ⟨congrArg (fun z => Sum.inl (some (Value.int z))) (dt_v4 ok c73), rfl, rfl, rfl⟩
      · refine lv_tableIn (off := 31) (tgt := 104) hx hb dX0_partOfToday_73 (by omega) (by omega) (by rw [c73]; rfl) (by decide) ?_
        refine lv_iload_n hx hb dX0_partOfToday_104 rfl (lv_at hl 2 rfl) ?_
        exact hs_iret hC hW hL hr hlocks (by decide) (by decide) dX0_partOfToday_105 ⟨congrArg (fun z => Sum.inl (some (Value.int z))) (dt_v0 hY (dt_vI c73 (by decide))), rfl, rfl, rfl⟩
      · refine lv_tableIn (off := 33) (tgt := 106) hx hb dX0_partOfToday_73 (by omega) (by omega) (by rw [c73]; rfl) (by decide) ?_
        refine lv_iload hx hb dX0_partOfToday_106 (lv_at hl 4 rfl) ?_
        exact hs_iret hC hW hL hr hlocks (by decide) (by decide) dX0_partOfToday_108 ⟨congrArg (fun z => Sum.inl (some (Value.int z))) (dt_v1 hM (fun z => by rw [z] at c73; exact absurd c73 (by decide)) (dt_vI c73 (by decide))), rfl, rfl, rfl⟩
      · refine lv_tableIn (off := 36) (tgt := 109) hx hb dX0_partOfToday_73 (by omega) (by omega) (by rw [c73]; rfl) (by decide) ?_
        refine lv_iload_n hx hb dX0_partOfToday_109 rfl (lv_at hl 3 rfl) ?_
        refine lv_iconst (v := 1) hx hb dX0_partOfToday_110 (by decide) ?_
        refine lv_iadd hx hb dX0_partOfToday_111 ?_
        exact hs_iret hC hW hL hr hlocks (by decide) (by decide) dX0_partOfToday_112 ⟨congrArg (fun z => Sum.inl (some (Value.int z))) (dt_v2b hM (dt_vI c73 (by decide))), rfl, rfl, rfl⟩
      · refine lv_tableIn (off := 40) (tgt := 113) hx hb dX0_partOfToday_73 (by omega) (by omega) (by rw [c73]; rfl) (by decide) ?_
        refine lv_aload_n hx hb dX0_partOfToday_113 rfl (lv_at hl 0 rfl) ?_
        refine hs_get hC hW hi_X0 rfl 1 (by decide) lk_X0_15 rfl hT.days rfl dX0_partOfToday_114 ?_
        refine hs_callS hC hs_Tok hW hL (ct_X0_weekday E _ _) cw_X0_weekday lk_X0_19 st_X0_weekday hl.1 (by decide) (Nat.le_of_ble_eq_true rfl) dX0_partOfToday_117 (hs_kp1 (fun H locs hW hL => ?_))
        exact hs_iret hC hW hL hr hlocks (by decide) (by decide) dX0_partOfToday_120 ⟨congrArg (fun z => Sum.inl (some (Value.int z))) (dt_v3 c73), rfl, rfl, rfl⟩
    refine lv_iload_n hx hb dX0_partOfToday_57 rfl (lv_at hl 3 rfl) ?_
    refine lv_iload_n hx hb dX0_partOfToday_58 rfl (lv_at hl 2 rfl) ?_
    refine lv_iload hx hb dX0_partOfToday_59 (lv_at hl 4 rfl) ?_
    refine hs_callS hC hs_Tok hW hL (ct_X0_monthLength E G fM hSM hfM y m9 (by omega) (by omega)) cw_X0_monthLength lk_X0_34 st_X0_monthLength hl.1 (by decide) (Nat.le_of_ble_eq_true rfl) dX0_partOfToday_61 (hs_kp1 (fun H locs hW hL => ?_))
    refine lv_isub hx hb dX0_partOfToday_64 ?_
    refine lv_istore_n (lv' := [(3, .int _), (0, .ref _), (1, .int _), (2, .int _), (4, .int _)]) hx hb dX0_partOfToday_65 rfl hl (by decide) rfl (fun ls hl => ?_)
    refine lv_iinc (lv' := [(4, .int _), (3, .int _), (0, .ref _), (1, .int _), (2, .int _)]) hx hb dX0_partOfToday_66 hl (k := 4) rfl rfl (by decide) rfl (fun ls hl => ?_)
    refine lv_goto (tgt := 40) hx hb dX0_partOfToday_69 (by decide) ?_
    have hle : dt_ml y m9 ≤ r := dt_le (by omega) (by have := dt_ml_b y m9; omega) c54
    rw [pk_sub hle, hs_inc] at hl
    exact ih (k, m9 + 1, r - dt_ml y m9) _ _ _ (by show k < k + 1; omega) ⟨⟨dt_m_s hinv.1 hle, by omega, dt_rl_s hinv.2.2.1 hinv.2.1 hle, by omega, by omega⟩, hW, hL, (lv_sub hl [2, 3, 4, 1, 0] rfl)⟩
  refine lv_iload_n hx hb dX0_partOfToday_24 rfl (lv_at hl 3 rfl) ?_
  refine lv_iload_n hx hb dX0_partOfToday_25 rfl (lv_at hl 2 rfl) ?_
  refine hs_callS hC hs_Tok hW hL (dt_yrl E G y) cw_X0_yearLength lk_X0_31 st_X0_yearLength hl.1 (by decide) (Nat.le_of_ble_eq_true rfl) dX0_partOfToday_26 (hs_kp1 (fun H locs hW hL => ?_))
  refine lv_isub hx hb dX0_partOfToday_29 ?_
  refine lv_istore_n (lv' := [(3, .int _), (0, .ref _), (1, .int _), (2, .int _)]) hx hb dX0_partOfToday_30 rfl hl (by decide) rfl (fun ls hl => ?_)
  refine lv_iinc (lv' := [(2, .int _), (3, .int _), (0, .ref _), (1, .int _)]) hx hb dX0_partOfToday_31 hl (k := 3) rfl rfl (by decide) rfl (fun ls hl => ?_)
  refine lv_goto (tgt := 9) hx hb dX0_partOfToday_34 (by decide) ?_
  have hle : dt_yl y ≤ r := dt_le (by omega) (by have := dt_yl_b y; omega) c21
  rw [pk_sub hle, hs_inc] at hl
  exact ih (k, y + 1, r - dt_yl y) _ _ _ (by show k < k + 1; omega) ⟨⟨dt_y_s hinv.1 hle, by omega, by have := dt_yl_b y; omega⟩, hW, hL, (lv_sub hl [2, 3, 0, 1] rfl)⟩
set_option maxHeartbeats 4000000 in
set_option maxRecDepth 100000 in
/-- date -/
theorem ct_X7_date (E : hs_E) (hST : E.1.stackTraces = false) (t : cl_t) (cap X : Nat → Nat) (d : Nat) (G : hs_G) (hT : cl_T E t cap X d G) (pa : Int32) : hM E yX7_date ({ frames := 7, cells := 1, slots := 6, locals := 120 }) [.ref (X 0), .int pa] G (hs_or2 (fun r G1 k n => hs_pu (some (.int (dt_v d pa))) G r G1 k n ∧ (0 ≤ pa ∧ pa ≤ 4)) G (fun C => C = "java/lang/IllegalArgumentException" ∧ ¬ (0 ≤ pa ∧ pa ≤ 4))) := by
  refine hs_ofW (cc := cX7_date) (maxL := 2) (ret := (some .int)) (by decide) co_X7_date ?_
  intro p e s m args below meth c hC hlocks hr hin0 hnoh hW
  obtain ⟨hx, hb, hml, hown, hts, -⟩ := id hC
  have hE := hW
  have hL : ∀ q ∈ ([] : List Loc), (eH E).size ≤ q.base := fun q hq => nomatch hq
  have hl := lv_entry ([.ref (X 0), .int pa] : List Value) (n := 2) (Nat.le_of_ble_eq_true rfl)
  rw [lg_entry_eq]
  generalize (lg_sl [.ref (X 0), .int pa] ++ List.replicate (2 - (lg_sl [.ref (X 0), .int pa]).length) Slot.unset).toArray = ls at hl ⊢
  have hl : lv_has ls 2 [(0, .ref (X 0)), (1, .int pa)] := hl
  refine lv_iload_n hx hb dX7_date_0 rfl (lv_at hl 1 rfl) ?_
  refine lv_iconst (v := 0) hx hb dX7_date_1 (by decide) ?_
  refine lv_iconst (v := 4) hx hb dX7_date_2 (by decide) ?_
  refine hs_callS hC hs_Tok hW hL (ct_X7_isWithin E _ _ _ _) cw_X7_isWithin lk_X7_48 st_X7_isWithin hl.1 (by decide) (Nat.le_of_ble_eq_true rfl) dX7_date_3 (hs_kp1 (fun H locs hW hL => ?_))
  refine hs_callS hC hs_Tok hW hL (ct_X7_checkArgument E hST G _) cw_X7_checkArgument lk_X7_52 st_X7_checkArgument hl.1 (by decide) (Nat.le_of_ble_eq_true rfl) dX7_date_6 (hs_kck hnoh hlocks (by decide) (by decide) (fun hno => Or.inr ⟨_, ⟨rfl, fun z => hno (by rw [hs_b_t z]; decide)⟩, rfl, rfl, rfl, rfl⟩) (fun hok6 H locs hW hL => ?_))
  refine lv_aload_n hx hb dX7_date_9 rfl (lv_at hl 0 rfl) ?_
  refine hs_get hC hW hi_X7 rfl 0 (by decide) lk_X7_12 rfl hT.house rfl dX7_date_10 ?_
  refine lv_iload_n hx hb dX7_date_13 rfl (lv_at hl 1 rfl) ?_
  refine hs_callVN hC hs_Tok hW hL (ct_X0_partOfToday E t cap X d G hT pa (hs_b_ne hok6)) cw_X0_partOfToday lk_X7_198 im_X0_partOfToday se_X0_partOfToday (hs_recv hC hW hT.days rfl) hl.1 (by decide) (Nat.le_of_ble_eq_true rfl) dX7_date_14 (hs_kp1 (fun H locs hW hL => ?_))
  exact hs_iret hC hW hL hr hlocks (by decide) (by decide) dX7_date_17 (Or.inl ⟨⟨rfl, rfl, rfl, rfl⟩, hs_b_ne hok6⟩)
