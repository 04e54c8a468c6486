/-! leaves: methods that look at their arguments alone -/
def hs_b (P : Prop) [Decidable P] : Int32 := if P then 1 else 0
def hs_bn (b : Bool) : Int32 := if b then 1 else 0
theorem hs_b_t {P : Prop} [Decidable P] (h : P) : hs_b P = 1 := if_pos h
theorem hs_b_f {P : Prop} [Decidable P] (h : ¬ P) : hs_b P = 0 := if_neg h
theorem hs_b_z (P : Prop) [Decidable P] : narrow .boolean (.int (hs_b P)) = .int (hs_b P) := by unfold hs_b; split <;> rfl
set_option maxHeartbeats 4000000 in
set_option maxRecDepth 100000 in
/-- SettleHouse.isWithin -/
theorem ct_X7_isWithin (E : hs_E) (G : hs_G) (x a b : Int32) : hM E yX7_isWithin ({ frames := 0, cells := 0, slots := 0, locals := 0 }) [.int x, .int a, .int b] G (hs_pu (some (.int (hs_b (a ≤ x ∧ x ≤ b)))) G) := by
  refine hs_ofW (cc := cX7_isWithin) (maxL := 3) (ret := (some .boolean)) (by decide) co_X7_isWithin ?_
  intro p e s m args below meth c hC hlocks hr hin0 hnoh hW
  obtain ⟨hx, hb, hml, hown, hts, -⟩ := id hC
  have hE := hW
  have hL : ∀ q ∈ ([] : List Loc), (eH E).size ≤ q.base := fun q hq => nomatch hq
  have hl := lv_entry ([.int x, .int a, .int b] : List Value) (n := 3) (Nat.le_of_ble_eq_true rfl)
  rw [lg_entry_eq]
  generalize (lg_sl [.int x, .int a, .int b] ++ List.replicate (3 - (lg_sl [.int x, .int a, .int b]).length) Slot.unset).toArray = ls at hl ⊢
  have hl : lv_has ls 3 [(0, .int x), (1, .int a), (2, .int b)] := hl
  refine lv_iload_n hx hb dX7_isWithin_0 rfl (lv_at hl 0 rfl) ?_
  refine lv_iload_n hx hb dX7_isWithin_1 rfl (lv_at hl 1 rfl) ?_
  refine lv_icmp_lt (tgt := 14) hx hb dX7_isWithin_2 (by decide) (fun c2 => ?_) (fun c2 => ?_)
  · refine lv_iconst (v := 0) hx hb dX7_isWithin_14 (by decide) ?_
    exact hs_zret hC hW hL hr hlocks (by decide) (by decide) dX7_isWithin_15 (by first | rfl | decide | (simp [hs_b]; split <;> rfl)) ⟨by (first | rfl | ((try simp only [lg_cmp_lt, lg_cmp_gt, lg_cmp_le, lg_cmp_ge, lg_cmp_eq] at c2 ⊢); simp only [hs_b, Int32.le_iff_toInt_le, Int32.lt_iff_toInt_lt, ← Int32.toInt_inj, Int64.le_iff_toInt_le, Int64.lt_iff_toInt_lt, Int32.toInt_zero, Int32.toInt_one] at c2 ⊢; split <;> first | rfl | (exfalso; omega))), rfl, rfl, rfl⟩
  refine lv_iload_n hx hb dX7_isWithin_5 rfl (lv_at hl 0 rfl) ?_
  refine lv_iload_n hx hb dX7_isWithin_6 rfl (lv_at hl 2 rfl) ?_
  refine lv_icmp_gt (tgt := 14) hx hb dX7_isWithin_7 (by decide) (fun c7 => ?_) (fun c7 => ?_)
  · refine lv_iconst (v := 0) hx hb dX7_isWithin_14 (by decide) ?_
    exact hs_zret hC hW hL hr hlocks (by decide) (by decide) dX7_isWithin_15 (by first | rfl | decide | (simp [hs_b]; split <;> rfl)) ⟨by (first | rfl | ((try simp only [lg_cmp_lt, lg_cmp_gt, lg_cmp_le, lg_cmp_ge, lg_cmp_eq] at c2 c7 ⊢); simp only [hs_b, Int32.le_iff_toInt_le, Int32.lt_iff_toInt_lt, ← Int32.toInt_inj, Int64.le_iff_toInt_le, Int64.lt_iff_toInt_lt, Int32.toInt_zero, Int32.toInt_one] at c2 c7 ⊢; split <;> first | rfl | (exfalso; omega))), rfl, rfl, rfl⟩
  refine lv_iconst (v := 1) hx hb dX7_isWithin_10 (by decide) ?_
  refine lv_goto (tgt := 15) hx hb dX7_isWithin_11 (by decide) ?_
  exact hs_zret hC hW hL hr hlocks (by decide) (by decide) dX7_isWithin_15 (by first | rfl | decide | (simp [hs_b]; split <;> rfl)) ⟨by (first | rfl | ((try simp only [lg_cmp_lt, lg_cmp_gt, lg_cmp_le, lg_cmp_ge, lg_cmp_eq] at c2 c7 ⊢); simp only [hs_b, Int32.le_iff_toInt_le, Int32.lt_iff_toInt_lt, ← Int32.toInt_inj, Int64.le_iff_toInt_le, Int64.lt_iff_toInt_lt, Int32.toInt_zero, Int32.toInt_one] at c2 c7 ⊢; split <;> first | rfl | (exfalso; omega))), rfl, rfl, rfl⟩
set_option maxHeartbeats 4000000 in
set_option maxRecDepth 100000 in
/-- SettleHouse.isParty -/
theorem ct_X7_isParty (E : hs_E) (G : hs_G) (x : Int32) : hM E yX7_isParty ({ frames := 1, cells := 0, slots := 0, locals := 30 }) [.int x] G (hs_pu (some (.int (hs_b (0 ≤ x ∧ x ≤ 15)))) G) := by
  refine hs_ofW (cc := cX7_isParty) (maxL := 1) (ret := (some .boolean)) (by decide) co_X7_isParty ?_
  intro p e s m args below meth c hC hlocks hr hin0 hnoh hW
  obtain ⟨hx, hb, hml, hown, hts, -⟩ := id hC
  have hE := hW
  have hL : ∀ q ∈ ([] : List Loc), (eH E).size ≤ q.base := fun q hq => nomatch hq
  have hl := lv_entry ([.int x] : List Value) (n := 1) (Nat.le_of_ble_eq_true rfl)
  rw [lg_entry_eq]
  generalize (lg_sl [.int x] ++ List.replicate (1 - (lg_sl [.int x]).length) Slot.unset).toArray = ls at hl ⊢
  have hl : lv_has ls 1 [(0, .int x)] := hl
  refine lv_iload_n hx hb dX7_isParty_0 rfl (lv_at hl 0 rfl) ?_
  refine lv_iconst (v := 0) hx hb dX7_isParty_1 (by decide) ?_
  refine lv_bipush (v := 15) hx hb dX7_isParty_2 (by decide) ?_
  refine hs_callS hC hs_Tok hW hL (ct_X7_isWithin E G _ _ _) cw_X7_isWithin lk_X7_48 st_X7_isWithin hl.1 (by decide) (Nat.le_of_ble_eq_true rfl) dX7_isParty_4 (hs_kp1 (fun H locs hW hL => ?_))
  exact hs_zret hC hW hL hr hlocks (by decide) (by decide) dX7_isParty_7 (hs_b_z _) ⟨rfl, rfl, rfl, rfl⟩
set_option maxHeartbeats 4000000 in
set_option maxRecDepth 100000 in
/-- SettleHouse.isAsset -/
theorem ct_X7_isAsset (E : hs_E) (G : hs_G) (x : Int32) : hM E yX7_isAsset ({ frames := 1, cells := 0, slots := 0, locals := 30 }) [.int x] G (hs_pu (some (.int (hs_b (-1 ≤ x ∧ x ≤ 7)))) G) := by
  refine hs_ofW (cc := cX7_isAsset) (maxL := 1) (ret := (some .boolean)) (by decide) co_X7_isAsset ?_
  intro p e s m args below meth c hC hlocks hr hin0 hnoh hW
  obtain ⟨hx, hb, hml, hown, hts, -⟩ := id hC
  have hE := hW
  have hL : ∀ q ∈ ([] : List Loc), (eH E).size ≤ q.base := fun q hq => nomatch hq
  have hl := lv_entry ([.int x] : List Value) (n := 1) (Nat.le_of_ble_eq_true rfl)
  rw [lg_entry_eq]
  generalize (lg_sl [.int x] ++ List.replicate (1 - (lg_sl [.int x]).length) Slot.unset).toArray = ls at hl ⊢
  have hl : lv_has ls 1 [(0, .int x)] := hl
  refine lv_iload_n hx hb dX7_isAsset_0 rfl (lv_at hl 0 rfl) ?_
  refine lv_iconst (v := (-1)) hx hb dX7_isAsset_1 (by decide) ?_
  refine lv_bipush (v := 7) hx hb dX7_isAsset_2 (by decide) ?_
  refine hs_callS hC hs_Tok hW hL (ct_X7_isWithin E G _ _ _) cw_X7_isWithin lk_X7_48 st_X7_isWithin hl.1 (by decide) (Nat.le_of_ble_eq_true rfl) dX7_isAsset_4 (hs_kp1 (fun H locs hW hL => ?_))
  exact hs_zret hC hW hL hr hlocks (by decide) (by decide) dX7_isAsset_7 (hs_b_z _) ⟨rfl, rfl, rfl, rfl⟩
