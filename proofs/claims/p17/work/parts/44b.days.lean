/-! the class: Days -/
theorem cl_q32 {j : Nat} (hj : j ≤ 20000) : (nI j / 32).toNatClampNeg = j / 32 := by
  rw [show (32 : Int32) = nI 32 by decide +kernel, pk_div (by omega) (by decide) (by decide), nI_clamp (by omega)]
theorem cl_r32 {j : Nat} (hj : j ≤ 20000) : nI j - nI j / 32 * 32 = nI (j % 32) := by
  rw [show (32 : Int32) = nI 32 by decide +kernel]
  exact pk_rem (by omega) (by decide) (by decide)
theorem cl_hbv {X : Nat → Nat} {j : Nat} (hj : j ≤ 20000) : ((nI (X (100 + 2 * (nI j / 32).toNatClampNeg))) >>> ((nI j - nI j / 32 * 32) &&& 31)) &&& 1 = 1 ↔ hv X j = true := by
  rw [cl_q32 hj, cl_r32 hj]
  exact hv_rd _ (Nat.mod_lt _ (by decide))
theorem cl_hbw {X : Nat → Nat} {j : Nat} (hj : j ≤ 20000) : (fun i => nI (hv_mk X j (100 + 2 * i))) = upd (fun i => nI (X (100 + 2 * i))) (nI j / 32).toNatClampNeg (nI (X (100 + 2 * (nI j / 32).toNatClampNeg)) ||| ((1 : Int32) <<< ((nI j - nI j / 32 * 32) &&& 31))) := by
  rw [cl_q32 hj, cl_r32 hj]
  exact hv_mk_w X j
theorem cl_nn {j : Nat} (h : j < 2 ^ 31) (c : nI j < 0) : False := by
  rw [Int32.lt_iff_toInt_lt, nI_toInt h, Int32.toInt_zero] at c
  omega
theorem cl_20 {j : Nat} (h : j < 2 ^ 31) : nI j > 20000 ↔ 20000 < j := by
  rw [show (20000 : Int32) = nI 20000 by decide +kernel]
  exact nI_ltI (by decide) h
set_option maxHeartbeats 4000000 in
set_option maxRecDepth 100000 in
/-- Days.isHoliday -/
theorem ct_X0_isHoliday (E : hs_E) (t : cl_t) (cap X : Nat → Nat) (d : Nat) (G : hs_G) (hT : cl_T E t cap X d G) (j : Nat) (hj : j < 2 ^ 31) : hM E yX0_isHoliday ({ frames := 0, cells := 0, slots := 0, locals := 0 }) [.ref (X 1), .int (nI j)] G (fun r G1 k n => ∃ x : Int32, hs_pu (some (.int x)) G r G1 k n ∧ (x = 0 ∨ x = 1) ∧ (x = 1 ↔ hv X j = true ∧ j ≤ 20000)) := by
  refine hs_ofW (cc := cX0_isHoliday) (maxL := 2) (ret := (some .boolean)) (by decide) co_X0_isHoliday ?_
  intro p e s m args below meth c hC hlocks hr hin0 hnoh hW
  obtain ⟨hx, hb, hml, hown, hts, -⟩ := id hC
  have hE := hW
  have hL : ∀ q ∈ ([] : List Loc), (eH E).size ≤ q.base := fun q hq => nomatch hq
  have hl := lv_entry ([.ref (X 1), .int (nI j)] : List Value) (n := 2) (Nat.le_of_ble_eq_true rfl)
  rw [lg_entry_eq]
  generalize (lg_sl [.ref (X 1), .int (nI j)] ++ List.replicate (2 - (lg_sl [.ref (X 1), .int (nI j)]).length) Slot.unset).toArray = ls at hl ⊢
  have hl : lv_has ls 2 [(0, .ref (X 1)), (1, .int (nI j))] := hl
  have hB := hT.bits
  refine lv_iload_n hx hb dX0_isHoliday_0 rfl (lv_at hl 1 rfl) ?_
  refine lv_if_lt (tgt := 35) hx hb dX0_isHoliday_1 (by decide) (fun c1 => ?_) (fun c1 => ?_)
  · refine lv_iconst (v := 0) hx hb dX0_isHoliday_35 (by decide) ?_
    exact hs_zret hC hW hL hr hlocks (by decide) (by decide) dX0_isHoliday_36 (by rfl) ⟨_, ⟨rfl, rfl, rfl, rfl⟩, by decide, (cl_nn hj c1).elim⟩
  refine lv_iload_n hx hb dX0_isHoliday_4 rfl (lv_at hl 1 rfl) ?_
  refine lv_sipush (v := 20000) hx hb dX0_isHoliday_5 (by decide) ?_
  refine lv_icmp_gt (tgt := 35) hx hb dX0_isHoliday_8 (by decide) (fun c8 => ?_) (fun c8 => ?_)
  · refine lv_iconst (v := 0) hx hb dX0_isHoliday_35 (by decide) ?_
    exact hs_zret hC hW hL hr hlocks (by decide) (by decide) dX0_isHoliday_36 (by rfl) ⟨_, ⟨rfl, rfl, rfl, rfl⟩, by decide, ⟨fun z => absurd z (by decide), fun z => absurd ((cl_20 hj).mp c8) (Nat.not_lt.mpr z.2)⟩⟩
  have hj9 : j ≤ 20000 := Nat.not_lt.mp (fun z => c8 ((cl_20 hj).mpr z))
  refine lv_aload_n hx hb dX0_isHoliday_11 rfl (lv_at hl 0 rfl) ?_
  refine hs_get hC hW hi_X0 rfl 0 (by decide) lk_X0_9 rfl hT.days rfl dX0_isHoliday_12 ?_
  refine lv_iload_n hx hb dX0_isHoliday_15 rfl (lv_at hl 1 rfl) ?_
  refine lv_bipush (v := 32) hx hb dX0_isHoliday_16 (by decide) ?_
  refine lv_idiv hx hb dX0_isHoliday_18 (by decide) ?_
  refine hs_iald hC hW 0 hB rfl (cl_d32n hj9) dX0_isHoliday_19 ?_
  refine lv_iload_n hx hb dX0_isHoliday_20 rfl (lv_at hl 1 rfl) ?_
  refine lv_bipush (v := 32) hx hb dX0_isHoliday_21 (by decide) ?_
  refine lv_irem hx hb dX0_isHoliday_23 (by decide) ?_
  refine lv_ishr hx hb dX0_isHoliday_24 ?_
  refine lv_iconst (v := 1) hx hb dX0_isHoliday_25 (by decide) ?_
  refine lv_iand hx hb dX0_isHoliday_26 ?_
  refine lv_iconst (v := 1) hx hb dX0_isHoliday_27 (by decide) ?_
  refine lv_icmp_ne (tgt := 35) hx hb dX0_isHoliday_28 (by decide) (fun c28 => ?_) (fun c28 => ?_)
  · refine lv_iconst (v := 0) hx hb dX0_isHoliday_35 (by decide) ?_
    exact hs_zret hC hW hL hr hlocks (by decide) (by decide) dX0_isHoliday_36 (by rfl) ⟨_, ⟨rfl, rfl, rfl, rfl⟩, by decide, ⟨fun z => absurd z (by decide), fun z => absurd ((cl_hbv hj9).mpr z.1) c28⟩⟩
  refine lv_iconst (v := 1) hx hb dX0_isHoliday_31 (by decide) ?_
  refine lv_goto (tgt := 36) hx hb dX0_isHoliday_32 (by decide) ?_
  exact hs_zret hC hW hL hr hlocks (by decide) (by decide) dX0_isHoliday_36 (by rfl) ⟨_, ⟨rfl, rfl, rfl, rfl⟩, by decide, ⟨fun _ => ⟨(cl_hbv hj9).mp c28, hj9⟩, fun _ => rfl⟩⟩
set_option maxHeartbeats 4000000 in
set_option maxRecDepth 100000 in
/-- Days.markHoliday -/
theorem ct_X0_markHoliday (E : hs_E) (t : cl_t) (cap X : Nat → Nat) (d : Nat) (G : hs_G) (hT : cl_T E t cap X d G) (j : Nat) (hj9 : j ≤ 20000) : hM E yX0_markHoliday ({ frames := 0, cells := 0, slots := 0, locals := 0 }) [.ref (X 1), .int (nI j)] G (hs_V (fun G1 k n => k = 0 ∧ n = 0 ∧ cl_T E t cap (hv_mk X j) d G1 ∧ cl_F t G t G1)) := by
  refine hs_ofW (cc := cX0_markHoliday) (maxL := 2) (ret := none) (by decide) co_X0_markHoliday ?_
  intro p e s m args below meth c hC hlocks hr hin0 hnoh hW
  obtain ⟨hx, hb, hml, hown, hts, -⟩ := id hC
  have hE := hW
  have hL : ∀ q ∈ ([] : List Loc), (eH E).size ≤ q.base := fun q hq => nomatch hq
  have hl := lv_entry ([.ref (X 1), .int (nI j)] : List Value) (n := 2) (Nat.le_of_ble_eq_true rfl)
  rw [lg_entry_eq]
  generalize (lg_sl [.ref (X 1), .int (nI j)] ++ List.replicate (2 - (lg_sl [.ref (X 1), .int (nI j)]).length) Slot.unset).toArray = ls at hl ⊢
  have hl : lv_has ls 2 [(0, .ref (X 1)), (1, .int (nI j))] := hl
  have hB := hT.bits
  refine lv_iload_n hx hb dX0_markHoliday_0 rfl (lv_at hl 1 rfl) ?_
  refine lv_if_lt (tgt := 29) hx hb dX0_markHoliday_1 (by decide) (fun c1 => ?_) (fun c1 => ?_)
  · exact absurd c1 (fun z => cl_nn (by omega) z)
  refine lv_iload_n hx hb dX0_markHoliday_4 rfl (lv_at hl 1 rfl) ?_
  refine lv_sipush (v := 20000) hx hb dX0_markHoliday_5 (by decide) ?_
  refine lv_icmp_gt (tgt := 29) hx hb dX0_markHoliday_8 (by decide) (fun c8 => ?_) (fun c8 => ?_)
  · exact absurd c8 (fun z => absurd ((cl_20 (by omega)).mp z) (by omega))
  refine lv_aload_n hx hb dX0_markHoliday_11 rfl (lv_at hl 0 rfl) ?_
  refine hs_get hC hW hi_X0 rfl 0 (by decide) lk_X0_9 rfl hT.days rfl dX0_markHoliday_12 ?_
  refine lv_iload_n hx hb dX0_markHoliday_15 rfl (lv_at hl 1 rfl) ?_
  refine lv_bipush (v := 32) hx hb dX0_markHoliday_16 (by decide) ?_
  refine lv_idiv hx hb dX0_markHoliday_18 (by decide) ?_
  refine lv_dup2_11 hx hb dX0_markHoliday_19 rfl rfl ?_
  refine hs_iald hC hW 0 hB rfl (cl_d32n hj9) dX0_markHoliday_20 ?_
  refine lv_iconst (v := 1) hx hb dX0_markHoliday_21 (by decide) ?_
  refine lv_iload_n hx hb dX0_markHoliday_22 rfl (lv_at hl 1 rfl) ?_
  refine lv_bipush (v := 32) hx hb dX0_markHoliday_23 (by decide) ?_
  refine lv_irem hx hb dX0_markHoliday_25 (by decide) ?_
  refine lv_ishl hx hb dX0_markHoliday_26 ?_
  refine lv_ior hx hb dX0_markHoliday_27 ?_
  refine hs_iast hC hW hL 0 hB (hT.szX 2 (by decide)) rfl (cl_d32n hj9) dX0_markHoliday_28 (fun H locs hW hL => ?_)
  have hM9 := hT.mark (Y := hv_mk X j) (fun k hk => hv_mk_lo2 hk)
  rw [cl_hbw hj9] at hM9
  exact hs_vret hC hW hL hr hlocks (by decide) (by decide) dX0_markHoliday_29 ⟨rfl, rfl, rfl, hM9⟩
/-- a business day: Monday to Friday, no holiday -/
def bz_b (X : Nat → Nat) (j : Nat) : Bool := decide ((j + 3) % 7 < 5) && !(hv X j && decide (j ≤ 20000))
theorem bz_bd {X : Nat → Nat} {j : Nat} : bz_b X j = true ↔ ((j + 3) % 7 < 5 ∧ ¬ (hv X j = true ∧ j ≤ 20000)) := by
  unfold bz_b
  cases hh : hv X j <;> simp
theorem cl_wd {j : Nat} (h : j < 2 ^ 30) : hs_wd (nI j) ≥ 6 ↔ 5 ≤ (j + 3) % 7 := by
  rw [mo_wd h, show (6 : Int32) = nI 6 by decide +kernel]
  refine (nI_leI (by decide) (by omega)).trans ?_
  omega
set_option maxHeartbeats 4000000 in
set_option maxRecDepth 100000 in
/-- Days.isBusinessDay -/
theorem ct_X0_isBusinessDay (E : hs_E) (t : cl_t) (cap X : Nat → Nat) (d : Nat) (G : hs_G) (hT : cl_T E t cap X d G) (j : Nat) (hj : j < 2 ^ 30) : hM E yX0_isBusinessDay ({ frames := 1, cells := 0, slots := 0, locals := 30 }) [.ref (X 1), .int (nI j)] G (fun r G1 k n => ∃ x : Int32, hs_pu (some (.int x)) G r G1 k n ∧ (x = 0 ∨ x = 1) ∧ (x = 1 ↔ bz_b X j = true)) := by
  refine hs_ofW (cc := cX0_isBusinessDay) (maxL := 2) (ret := (some .boolean)) (by decide) co_X0_isBusinessDay ?_
  intro p e s m args below meth c hC hlocks hr hin0 hnoh hW
  obtain ⟨hx, hb, hml, hown, hts, -⟩ := id hC
  have hE := hW
  have hL : ∀ q ∈ ([] : List Loc), (eH E).size ≤ q.base := fun q hq => nomatch hq
  have hl := lv_entry ([.ref (X 1), .int (nI j)] : List Value) (n := 2) (Nat.le_of_ble_eq_true rfl)
  rw [lg_entry_eq]
  generalize (lg_sl [.ref (X 1), .int (nI j)] ++ List.replicate (2 - (lg_sl [.ref (X 1), .int (nI j)]).length) Slot.unset).toArray = ls at hl ⊢
  have hl : lv_has ls 2 [(0, .ref (X 1)), (1, .int (nI j))] := hl
  refine lv_iload_n hx hb dX0_isBusinessDay_0 rfl (lv_at hl 1 rfl) ?_
  refine hs_callS hC hs_Tok hW hL (ct_X0_weekday E _ _) cw_X0_weekday lk_X0_19 st_X0_weekday hl.1 (by decide) (Nat.le_of_ble_eq_true rfl) dX0_isBusinessDay_1 (hs_kp1 (fun H locs hW hL => ?_))
  refine lv_bipush (v := 6) hx hb dX0_isBusinessDay_4 (by decide) ?_
  refine lv_icmp_ge (tgt := 21) hx hb dX0_isBusinessDay_6 (by decide) (fun c6 => ?_) (fun c6 => ?_)
  · refine lv_iconst (v := 0) hx hb dX0_isBusinessDay_21 (by decide) ?_
    exact hs_zret hC hW hL hr hlocks (by decide) (by decide) dX0_isBusinessDay_22 (by rfl) ⟨_, ⟨rfl, rfl, rfl, rfl⟩, by decide, ⟨fun z => absurd z (by decide), fun z => absurd ((cl_wd hj).mp c6) (Nat.not_le.mpr (bz_bd.mp z).1)⟩⟩
  refine lv_aload_n hx hb dX0_isBusinessDay_9 rfl (lv_at hl 0 rfl) ?_
  refine lv_iload_n hx hb dX0_isBusinessDay_10 rfl (lv_at hl 1 rfl) ?_
  refine hs_callV hC hs_Tok hW hL (ct_X0_isHoliday E t cap X d G hT j (by omega)) cw_X0_isHoliday lk_X0_23 im_X0_isHoliday se_X0_isHoliday (hs_recv hC hW hT.days rfl) hl.1 (by decide) (Nat.le_of_ble_eq_true rfl) dX0_isBusinessDay_11 (hs_ke (fun x H locs hJx hW hL => ?_))
  refine lv_if_ne (tgt := 21) hx hb dX0_isBusinessDay_14 (by decide) (fun c14 => ?_) (fun c14 => ?_)
  · refine lv_iconst (v := 0) hx hb dX0_isBusinessDay_21 (by decide) ?_
    exact hs_zret hC hW hL hr hlocks (by decide) (by decide) dX0_isBusinessDay_22 (by rfl) ⟨_, ⟨rfl, rfl, rfl, rfl⟩, by decide, ⟨fun z => absurd z (by decide), fun z => absurd (hJx.2.mp (hJx.1.elim (fun y => absurd y c14) id)) (bz_bd.mp z).2⟩⟩
  refine lv_iconst (v := 1) hx hb dX0_isBusinessDay_17 (by decide) ?_
  refine lv_goto (tgt := 22) hx hb dX0_isBusinessDay_18 (by decide) ?_
  exact hs_zret hC hW hL hr hlocks (by decide) (by decide) dX0_isBusinessDay_22 (by rfl) ⟨_, ⟨rfl, rfl, rfl, rfl⟩, by decide, ⟨fun _ => bz_bd.mpr ⟨Nat.not_le.mp fun z => c6 ((cl_wd hj).mpr z), fun z => by rw [hJx.2.mpr z] at c14; exact absurd c14 (by decide)⟩, fun _ => rfl⟩⟩
set_option maxRecDepth 100000 in
/-- behind the last day each week has five business days -/
theorem bz_wk {X : Nat → Nat} {a : Nat} (ha : a ≤ 20000) : ∀ k : Nat, 20000 ≤ a + k → 5 * (a + k - 20000) ≤ 7 * bz_c (bz_b X) a k + (if (a + k + 3) % 7 < 5 then 8 - 2 * ((a + k + 3) % 7) else 5 * ((a + k + 3) % 7 - 4)) := by
  intro k
  induction k with
  | zero => intro h; rw [show a = 20000 by omega]; simp
  | succ k ih =>
    intro h
    rcases Nat.lt_or_ge (a + k) 20000 with z | z
    · rw [show a + (k + 1) = 20000 by omega]; simp
    · have h1 := ih z
      have hb9 : bz_b X (a + k + 1) = true ↔ (a + k + 1 + 3) % 7 < 5 := bz_bd.trans ⟨fun y => y.1, fun y => ⟨y, fun w => by omega⟩⟩
      show 5 * (a + (k + 1) - 20000) ≤ 7 * (bz_c (bz_b X) a k + (if bz_b X (a + k + 1) = true then 1 else 0)) + _
      rw [show a + (k + 1) = a + k + 1 by omega]
      generalize bz_c (bz_b X) a k = cc at *
      by_cases y : (a + k + 1 + 3) % 7 < 5
      · rw [if_pos (hb9.mpr y), if_pos y]
        split at h1 <;> omega
      · rw [if_neg (fun w => y (hb9.mp w)), if_neg y]
        split at h1 <;> omega
set_option maxHeartbeats 4000000 in
set_option maxRecDepth 100000 in
/-- Days.businessDayBehind -/
theorem ct_X0_businessDayBehind (E : hs_E) (t : cl_t) (cap X : Nat → Nat) (d : Nat) (G : hs_G) (hT : cl_T E t cap X d G) (a0 : Nat) (ha0 : a0 ≤ 20000) (n9 : Nat) (hn9 : n9 ≤ 1000) : hM E yX0_businessDayBehind ({ frames := 2, cells := 0, slots := 0, locals := 60 }) [.ref (X 1), .int (nI a0), .int (nI n9)] G (fun r G1 k n => ∃ x : Int32, hs_pu (some (.int x)) G r G1 k n ∧ ∃ k0 : Nat, x = nI (a0 + k0) ∧ k0 < 40000 ∧ bz (bz_b X) a0 n9 k0) := by
  refine hs_ofW (cc := cX0_businessDayBehind) (maxL := 6) (ret := (some .int)) (by decide) co_X0_businessDayBehind ?_
  intro p e s m args below meth c hC hlocks hr hin0 hnoh hW
  obtain ⟨hx, hb, hml, hown, hts, -⟩ := id hC
  have hE := hW
  have hL : ∀ q ∈ ([] : List Loc), (eH E).size ≤ q.base := fun q hq => nomatch hq
  have hl := lv_entry ([.ref (X 1), .int (nI a0), .int (nI n9)] : List Value) (n := 6) (Nat.le_of_ble_eq_true rfl)
  rw [lg_entry_eq]
  generalize (lg_sl [.ref (X 1), .int (nI a0), .int (nI n9)] ++ List.replicate (6 - (lg_sl [.ref (X 1), .int (nI a0), .int (nI n9)]).length) Slot.unset).toArray = ls at hl ⊢
  have hl : lv_has ls 6 [(0, .ref (X 1)), (1, .int (nI a0)), (2, .int (nI n9))] := hl
  refine lv_iload_n hx hb dX0_businessDayBehind_0 rfl (lv_at hl 1 rfl) ?_
  refine lv_istore_n (lv' := [(3, .int _), (0, .ref _), (1, .int _), (2, .int _)]) hx hb dX0_businessDayBehind_1 rfl hl (by decide) rfl (fun ls hl => ?_)
  refine lv_iload_n hx hb dX0_businessDayBehind_2 rfl (lv_at hl 3 rfl) ?_
  refine lv_istore (lv' := [(4, .int _), (3, .int _), (0, .ref _), (1, .int _), (2, .int _)]) hx hb dX0_businessDayBehind_3 hl (by decide) rfl (fun ls hl => ?_)
  refine lv_iload_n hx hb dX0_businessDayBehind_5 rfl (lv_at hl 3 rfl) ?_
  refine lv_iconst (v := 1) hx hb dX0_businessDayBehind_6 (by decide) ?_
  refine lv_iadd hx hb dX0_businessDayBehind_7 ?_
  rw [nI_1]
  refine lv_istore (lv' := [(5, .int _), (4, .int _), (3, .int _), (0, .ref _), (1, .int _), (2, .int _)]) hx hb dX0_businessDayBehind_8 hl (by decide) rfl (fun ls hl => ?_)
  refine hs_loop (σ := Nat × Nat × Nat) (fun x => match x with | (k, r, lf) => 40000 - k) (fun x H locs ls => match x with | (k, r, lf) => (r ≤ k ∧ a0 + k < 40000 ∧ bz_c (bz_b X) a0 r = bz_c (bz_b X) a0 k ∧ (r = 0 ∨ bz_b X (a0 + r) = true) ∧ lf + bz_c (bz_b X) a0 k = n9) ∧ hs_W (eD E) vwCl (eH E) (G) H ∧ (∀ q ∈ locs, (eH E).size ≤ q.base) ∧ lv_has ls 6 [(0, .ref (X 1)), (3, .int (nI (a0 + r))), (4, .int (nI lf)), (5, .int (nI (a0 + k + 1)))]) ?_ (0, 0, n9) _ _ _ ⟨⟨Nat.le_refl _, by omega, rfl, Or.inl rfl, by show n9 + 0 = n9; rfl⟩, hW, hL, (lv_sub hl [3, 2, 1, 0] rfl)⟩
  rintro ⟨k, r, lf⟩ H locs ls ⟨hinv, hW, hL, hl⟩ ih
  replace hW : hs_W (eD E) vwCl (eH E) (G) H := hW
  replace hl : lv_has ls 6 [(0, .ref (X 1)), (3, .int (nI (a0 + r))), (4, .int (nI lf)), (5, .int (nI (a0 + k + 1)))] := hl
  refine lv_iload hx hb dX0_businessDayBehind_10 (lv_at hl 2 rfl) ?_
  refine lv_if_le (tgt := 43) hx hb dX0_businessDayBehind_12 (by decide) (fun c12 => ?_) (fun c12 => ?_)
  · refine lv_iload_n hx hb dX0_businessDayBehind_43 rfl (lv_at hl 1 rfl) ?_
    exact (by obtain ⟨j1, j2, j3, j4, j5⟩ := hinv; exact hs_iret hC hW hL hr hlocks (by decide) (by decide) dX0_businessDayBehind_44 ⟨_, ⟨rfl, rfl, rfl, rfl⟩, r, rfl, by omega, by (have z9 : lf = 0 := by (rcases Nat.eq_zero_or_pos lf with z | z; exact z; exact absurd c12 (fun y => by rw [Int32.le_iff_toInt_le, nI_toInt (by omega), Int32.toInt_zero] at y; omega))); rw [j3]; omega, j4⟩)
  obtain ⟨lf, rfl⟩ := mo_pos c12
  obtain ⟨j1, j2, j3, j4, j5⟩ := hinv
  refine lv_iload hx hb dX0_businessDayBehind_15 (lv_at hl 3 rfl) ?_
  refine lv_ldc hx hb hown (hts _ lk_X0_27) dX0_businessDayBehind_17 ?_
  refine lv_icmp_ge (tgt := 43) hx hb dX0_businessDayBehind_19 (by decide) (fun c19 => ?_) (fun c19 => ?_)
  · exact absurd c19 (fun z => by (have z2 := (nI_leI (a := 40000) (b := a0 + k + 1) (by decide) (by omega)).mp (by rw [show nI 40000 = (40000 : Int32) by decide +kernel]; exact z)); (have z3 := bz_wk (X := X) ha0 k (by omega)); (have z4 : (a0 + k + 3) % 7 < 7 := Nat.mod_lt _ (by decide)); split at z3 <;> omega)
  have hj9 : a0 + k + 1 < 40000 := Nat.not_le.mp fun z => c19 (by rw [show (40000 : Int32) = nI 40000 by decide +kernel]; exact (nI_leI (by omega) (by omega)).mpr z)
  refine lv_aload_n hx hb dX0_businessDayBehind_22 rfl (lv_at hl 0 rfl) ?_
  refine lv_iload hx hb dX0_businessDayBehind_23 (lv_at hl 3 rfl) ?_
  refine hs_callV hC hs_Tok hW hL (ct_X0_isBusinessDay E t cap X d G hT (a0 + k + 1) (by omega)) cw_X0_isBusinessDay lk_X0_28 im_X0_isBusinessDay se_X0_isBusinessDay (hs_recv hC hW hT.days rfl) hl.1 (by decide) (Nat.le_of_ble_eq_true rfl) dX0_businessDayBehind_25 (hs_ke (fun x H locs hJx hW hL => ?_))
  refine lv_if_eq (tgt := 37) hx hb dX0_businessDayBehind_28 (by decide) (fun c28 => ?_) (fun c28 => ?_)
  · refine lv_iinc (lv' := [(5, .int _), (0, .ref _), (3, .int _), (4, .int _)]) hx hb dX0_businessDayBehind_37 hl (k := 3) rfl rfl (by decide) rfl (fun ls hl => ?_)
    refine lv_goto (tgt := 10) hx hb dX0_businessDayBehind_40 (by decide) ?_
    rw [hs_inc] at hl
    have hz9 : bz_c (bz_b X) a0 (k + 1) = bz_c (bz_b X) a0 k := by show _ + (if _ then 1 else 0) = _; rw [if_neg (fun y => absurd (hJx.2.mpr y) (by rw [c28]; decide)), Nat.add_zero]
    exact ih (k + 1, r, lf + 1) _ _ _ (by show 40000 - (k + 1) < 40000 - k; omega) ⟨⟨by omega, by omega, by omega, j4, by omega⟩, hW, hL, (lv_sub hl [1, 2, 3, 0] rfl)⟩
  refine lv_iload hx hb dX0_businessDayBehind_31 (lv_at hl 3 rfl) ?_
  refine lv_istore_n (lv' := [(3, .int _), (0, .ref _), (4, .int _), (5, .int _)]) hx hb dX0_businessDayBehind_33 rfl hl (by decide) rfl (fun ls hl => ?_)
  refine lv_iinc (lv' := [(4, .int _), (3, .int _), (0, .ref _), (5, .int _)]) hx hb dX0_businessDayBehind_34 hl (k := 2) rfl rfl (by decide) rfl (fun ls hl => ?_)
  refine lv_iinc (lv' := [(5, .int _), (4, .int _), (3, .int _), (0, .ref _)]) hx hb dX0_businessDayBehind_37 hl (k := 3) rfl rfl (by decide) rfl (fun ls hl => ?_)
  refine lv_goto (tgt := 10) hx hb dX0_businessDayBehind_40 (by decide) ?_
  rw [hs_inc] at hl
  rw [hs_dec] at hl
  have hz9 : bz_c (bz_b X) a0 (k + 1) = bz_c (bz_b X) a0 k + 1 := by show _ + (if _ then 1 else 0) = _; rw [if_pos (hJx.2.mp (hJx.1.resolve_left c28))]
  exact ih (k + 1, k + 1, lf) _ _ _ (by show 40000 - (k + 1) < 40000 - k; omega) ⟨⟨Nat.le_refl _, by omega, rfl, Or.inr (hJx.2.mp (hJx.1.resolve_left c28)), by omega⟩, hW, hL, (lv_sub hl [3, 2, 1, 0] rfl)⟩
