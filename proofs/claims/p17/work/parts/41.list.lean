/-! java.util.ArrayList, and what it calls -/
set_option maxHeartbeats 4000000 in
set_option maxRecDepth 100000 in
/-- Math.max -/
theorem ct_max (E : hs_E) (G : hs_G) (a b : Int32) : hM E yJ9_max_7cf53 ({ frames := 0, cells := 0, slots := 0, locals := 0 }) [.int a, .int b] G (hs_pu (some (.int (if a < b then b else a))) G) := by
  refine hs_ofWF (cc := cJ9_max_7cf53) (maxL := 2) (ret := (some .int)) (by decide +kernel) co_J9_max_7cf53 ?_
  intro p e s m args below meth c hC hlocks hr hin0 hnoh hW
  obtain ⟨hx, hb, hml, hown, hts, -⟩ := id hC
  have hE := hW
  have hL : ∀ q ∈ ([] : List Loc), (eH E).size ≤ q.base := fun q hq => nomatch hq
  have hl := lv_entry ([.int a, .int b] : List Value) (n := 2) (Nat.le_of_ble_eq_true rfl)
  rw [lg_entry_eq]
  generalize (lg_sl [.int a, .int b] ++ List.replicate (2 - (lg_sl [.int a, .int b]).length) Slot.unset).toArray = ls at hl ⊢
  have hl : lv_has ls 2 [(0, .int a), (1, .int b)] := hl
  refine lv_iload_n hx hb dJ9_max_7cf53_0 rfl (lv_at hl 0 rfl) ?_
  refine lv_iload_n hx hb dJ9_max_7cf53_1 rfl (lv_at hl 1 rfl) ?_
  refine lv_icmp_lt (tgt := 9) hx hb dJ9_max_7cf53_2 (by decide) (fun c2 => ?_) (fun c2 => ?_)
  · refine lv_iload_n hx hb dJ9_max_7cf53_9 rfl (lv_at hl 1 rfl) ?_
    exact hs_iret hC hW hL hr hlocks (by decide) (by decide) dJ9_max_7cf53_10 ⟨by first | rw [if_pos c2] | rw [if_neg c2], rfl, rfl, rfl⟩
  refine lv_iload_n hx hb dJ9_max_7cf53_5 rfl (lv_at hl 0 rfl) ?_
  refine lv_goto (tgt := 10) hx hb dJ9_max_7cf53_6 (by decide) ?_
  exact hs_iret hC hW hL hr hlocks (by decide) (by decide) dJ9_max_7cf53_10 ⟨by first | rw [if_pos c2] | rw [if_neg c2], rfl, rfl, rfl⟩
set_option maxHeartbeats 4000000 in
set_option maxRecDepth 100000 in
/-- Math.min -/
theorem ct_min (E : hs_E) (G : hs_G) (a b : Int32) : hM E yJ9_min_7cf53 ({ frames := 0, cells := 0, slots := 0, locals := 0 }) [.int a, .int b] G (hs_pu (some (.int (if a > b then b else a))) G) := by
  refine hs_ofWF (cc := cJ9_min_7cf53) (maxL := 2) (ret := (some .int)) (by decide +kernel) co_J9_min_7cf53 ?_
  intro p e s m args below meth c hC hlocks hr hin0 hnoh hW
  obtain ⟨hx, hb, hml, hown, hts, -⟩ := id hC
  have hE := hW
  have hL : ∀ q ∈ ([] : List Loc), (eH E).size ≤ q.base := fun q hq => nomatch hq
  have hl := lv_entry ([.int a, .int b] : List Value) (n := 2) (Nat.le_of_ble_eq_true rfl)
  rw [lg_entry_eq]
  generalize (lg_sl [.int a, .int b] ++ List.replicate (2 - (lg_sl [.int a, .int b]).length) Slot.unset).toArray = ls at hl ⊢
  have hl : lv_has ls 2 [(0, .int a), (1, .int b)] := hl
  refine lv_iload_n hx hb dJ9_min_7cf53_0 rfl (lv_at hl 0 rfl) ?_
  refine lv_iload_n hx hb dJ9_min_7cf53_1 rfl (lv_at hl 1 rfl) ?_
  refine lv_icmp_gt (tgt := 9) hx hb dJ9_min_7cf53_2 (by decide) (fun c2 => ?_) (fun c2 => ?_)
  · refine lv_iload_n hx hb dJ9_min_7cf53_9 rfl (lv_at hl 1 rfl) ?_
    exact hs_iret hC hW hL hr hlocks (by decide) (by decide) dJ9_min_7cf53_10 ⟨by first | rw [if_pos c2] | rw [if_neg c2], rfl, rfl, rfl⟩
  refine lv_iload_n hx hb dJ9_min_7cf53_5 rfl (lv_at hl 0 rfl) ?_
  refine lv_goto (tgt := 10) hx hb dJ9_min_7cf53_6 (by decide) ?_
  exact hs_iret hC hW hL hr hlocks (by decide) (by decide) dJ9_min_7cf53_10 ⟨by first | rw [if_pos c2] | rw [if_neg c2], rfl, rfl, rfl⟩
set_option maxHeartbeats 4000000 in
set_option maxRecDepth 100000 in
/-- Math.min -/
theorem ct_minl (E : hs_E) (G : hs_G) (a b : Int64) : hM E yJ9_min_f86c9 ({ frames := 0, cells := 0, slots := 0, locals := 0 }) [.long a, .long b] G (hs_pu (some (.long (if lg_cmp a b > 0 then b else a))) G) := by
  refine hs_ofWF (cc := cJ9_min_f86c9) (maxL := 4) (ret := (some .long)) (by decide +kernel) co_J9_min_f86c9 ?_
  intro p e s m args below meth c hC hlocks hr hin0 hnoh hW
  obtain ⟨hx, hb, hml, hown, hts, -⟩ := id hC
  have hE := hW
  have hL : ∀ q ∈ ([] : List Loc), (eH E).size ≤ q.base := fun q hq => nomatch hq
  have hl := lv_entry ([.long a, .long b] : List Value) (n := 4) (Nat.le_of_ble_eq_true rfl)
  rw [lg_entry_eq]
  generalize (lg_sl [.long a, .long b] ++ List.replicate (4 - (lg_sl [.long a, .long b]).length) Slot.unset).toArray = ls at hl ⊢
  have hl : lv_has ls 4 [(0, .long a), (2, .long b)] := hl
  refine lv_lload_n hx hb dJ9_min_f86c9_0 rfl (lv_at hl 0 rfl) ?_
  refine lv_lload_n hx hb dJ9_min_f86c9_1 rfl (lv_at hl 1 rfl) ?_
  refine W.lcmp hx hb dJ9_min_f86c9_2 ?_
  refine lv_if_gt (tgt := 10) hx hb dJ9_min_f86c9_3 (by decide) (fun c3 => ?_) (fun c3 => ?_)
  · refine lv_lload_n hx hb dJ9_min_f86c9_10 rfl (lv_at hl 1 rfl) ?_
    exact hs_lret hC hW hL hr hlocks (by decide) (by decide) dJ9_min_f86c9_11 ⟨by first | rw [if_pos c3] | rw [if_neg c3], rfl, rfl, rfl⟩
  refine lv_lload_n hx hb dJ9_min_f86c9_6 rfl (lv_at hl 0 rfl) ?_
  refine lv_goto (tgt := 11) hx hb dJ9_min_f86c9_7 (by decide) ?_
  exact hs_lret hC hW hL hr hlocks (by decide) (by decide) dJ9_min_f86c9_11 ⟨by first | rw [if_pos c3] | rw [if_neg c3], rfl, rfl, rfl⟩
set_option maxHeartbeats 4000000 in
set_option maxRecDepth 100000 in
/-- Preconditions.checkIndex -/
theorem ct_ci3 (E : hs_E) (G : hs_G) (j n : Nat) (hj : j < n) (hn : n < 2 ^ 31) : hM E yJ3_checkIndex_8e157 ({ frames := 0, cells := 0, slots := 0, locals := 0 }) [.int (nI j), .int (nI n), .null] G (hs_pu (some (.int (nI j))) G) := by
  refine hs_ofW (cc := cJ3_checkIndex_8e157) (maxL := 3) (ret := (some .int)) (by decide) co_J3_checkIndex_8e157 ?_
  intro p e s m args below meth c hC hlocks hr hin0 hnoh hW
  obtain ⟨hx, hb, hml, hown, hts, -⟩ := id hC
  have hE := hW
  have hL : ∀ q ∈ ([] : List Loc), (eH E).size ≤ q.base := fun q hq => nomatch hq
  have hl := lv_entry ([.int (nI j), .int (nI n), .null] : List Value) (n := 3) (Nat.le_of_ble_eq_true rfl)
  rw [lg_entry_eq]
  generalize (lg_sl [.int (nI j), .int (nI n), .null] ++ List.replicate (3 - (lg_sl [.int (nI j), .int (nI n), .null]).length) Slot.unset).toArray = ls at hl ⊢
  have hl : lv_has ls 3 [(0, .int (nI j)), (1, .int (nI n)), (2, .null)] := hl
  refine lv_iload_n hx hb dJ3_checkIndex_8e157_0 rfl (lv_at hl 0 rfl) ?_
  refine lv_if_lt (tgt := 9) hx hb dJ3_checkIndex_8e157_1 (by decide) (fun c1 => ?_) (fun c1 => ?_)
  · exact absurd c1 (al_nn (by omega))
  refine lv_iload_n hx hb dJ3_checkIndex_8e157_4 rfl (lv_at hl 0 rfl) ?_
  refine lv_iload_n hx hb dJ3_checkIndex_8e157_5 rfl (lv_at hl 1 rfl) ?_
  refine lv_icmp_lt (tgt := 16) hx hb dJ3_checkIndex_8e157_6 (by decide) (fun c6 => ?_) (fun c6 => ?_)
  · refine lv_iload_n hx hb dJ3_checkIndex_8e157_16 rfl (lv_at hl 0 rfl) ?_
    exact hs_iret hC hW hL hr hlocks (by decide) (by decide) dJ3_checkIndex_8e157_17 ⟨by rfl, rfl, rfl, rfl⟩
  exact absurd c6 (fun z => z ((nI_ltI (by omega) hn).mpr hj))
set_option maxHeartbeats 4000000 in
set_option maxRecDepth 100000 in
/-- Objects.checkIndex -/
theorem ct_ci (E : hs_E) (G : hs_G) (j n : Nat) (hj : j < n) (hn : n < 2 ^ 31) : hM E yJ15_checkIndex_7cf53 ({ frames := 1, cells := 0, slots := 0, locals := 30 }) [.int (nI j), .int (nI n)] G (hs_pu (some (.int (nI j))) G) := by
  refine hs_ofW (cc := cJ15_checkIndex_7cf53) (maxL := 2) (ret := (some .int)) (by decide) co_J15_checkIndex_7cf53 ?_
  intro p e s m args below meth c hC hlocks hr hin0 hnoh hW
  obtain ⟨hx, hb, hml, hown, hts, -⟩ := id hC
  have hE := hW
  have hL : ∀ q ∈ ([] : List Loc), (eH E).size ≤ q.base := fun q hq => nomatch hq
  have hl := lv_entry ([.int (nI j), .int (nI n)] : List Value) (n := 2) (Nat.le_of_ble_eq_true rfl)
  rw [lg_entry_eq]
  generalize (lg_sl [.int (nI j), .int (nI n)] ++ List.replicate (2 - (lg_sl [.int (nI j), .int (nI n)]).length) Slot.unset).toArray = ls at hl ⊢
  have hl : lv_has ls 2 [(0, .int (nI j)), (1, .int (nI n))] := hl
  refine lv_iload_n hx hb dJ15_checkIndex_7cf53_0 rfl (lv_at hl 0 rfl) ?_
  refine lv_iload_n hx hb dJ15_checkIndex_7cf53_1 rfl (lv_at hl 1 rfl) ?_
  refine lv_null hx hb dJ15_checkIndex_7cf53_2 ?_
  refine hs_callS hC hs_Tok hW hL (ct_ci3 E G j n hj hn) cw_J3_checkIndex_8e157 lk_J15_105 st_J3_checkIndex_8e157 hl.1 (by decide) (Nat.le_of_ble_eq_true rfl) dJ15_checkIndex_7cf53_3 (hs_kp1 (fun H locs hW hL => ?_))
  exact hs_iret hC hW hL hr hlocks (by decide) (by decide) dJ15_checkIndex_7cf53_6 ⟨by rfl, rfl, rfl, rfl⟩
set_option maxHeartbeats 4000000 in
set_option maxRecDepth 100000 in
/-- size -/
theorem ct_size (E : hs_E) (G : hs_G) (L A sz : Nat) (mc : Int32) (hG : G L = some (al_o mc A (nI sz))) : hM E yJx4a65c_size_8abf5 ({ frames := 0, cells := 0, slots := 0, locals := 0 }) [.ref L] G (hs_pu (some (.int (nI sz))) G) := by
  refine hs_ofW (cc := cJx4a65c_size_8abf5) (maxL := 1) (ret := (some .int)) (by decide) co_Jx4a65c_size_8abf5 ?_
  intro p e s m args below meth c hC hlocks hr hin0 hnoh hW
  obtain ⟨hx, hb, hml, hown, hts, -⟩ := id hC
  have hE := hW
  have hL : ∀ q ∈ ([] : List Loc), (eH E).size ≤ q.base := fun q hq => nomatch hq
  have hl := lv_entry ([.ref L] : List Value) (n := 1) (Nat.le_of_ble_eq_true rfl)
  rw [lg_entry_eq]
  generalize (lg_sl [.ref L] ++ List.replicate (1 - (lg_sl [.ref L]).length) Slot.unset).toArray = ls at hl ⊢
  have hl : lv_has ls 1 [(0, .ref L)] := hl
  refine lv_aload_n hx hb dJx4a65c_size_8abf5_0 rfl (lv_at hl 0 rfl) ?_
  refine hs_get hC hW hi_Jx4a65c rfl 2 (by decide) lk_Jx4a65c_48 rfl hG rfl dJx4a65c_size_8abf5_1 ?_
  exact hs_iret hC hW hL hr hlocks (by decide) (by decide) dJx4a65c_size_8abf5_4 ⟨by rfl, rfl, rfl, rfl⟩
set_option maxHeartbeats 4000000 in
set_option maxRecDepth 100000 in
/-- isEmpty -/
theorem ct_isEmpty (E : hs_E) (G : hs_G) (L A sz : Nat) (mc : Int32) (hG : G L = some (al_o mc A (nI sz))) : hM E yJx4a65c_isEmpty_aae02 ({ frames := 0, cells := 0, slots := 0, locals := 0 }) [.ref L] G (hs_pu (some (.int (if nI sz = 0 then 1 else 0))) G) := by
  refine hs_ofW (cc := cJx4a65c_isEmpty_aae02) (maxL := 1) (ret := (some .boolean)) (by decide) co_Jx4a65c_isEmpty_aae02 ?_
  intro p e s m args below meth c hC hlocks hr hin0 hnoh hW
  obtain ⟨hx, hb, hml, hown, hts, -⟩ := id hC
  have hE := hW
  have hL : ∀ q ∈ ([] : List Loc), (eH E).size ≤ q.base := fun q hq => nomatch hq
  have hl := lv_entry ([.ref L] : List Value) (n := 1) (Nat.le_of_ble_eq_true rfl)
  rw [lg_entry_eq]
  generalize (lg_sl [.ref L] ++ List.replicate (1 - (lg_sl [.ref L]).length) Slot.unset).toArray = ls at hl ⊢
  have hl : lv_has ls 1 [(0, .ref L)] := hl
  refine lv_aload_n hx hb dJx4a65c_isEmpty_aae02_0 rfl (lv_at hl 0 rfl) ?_
  refine hs_get hC hW hi_Jx4a65c rfl 2 (by decide) lk_Jx4a65c_48 rfl hG rfl dJx4a65c_isEmpty_aae02_1 ?_
  refine lv_if_ne (tgt := 11) hx hb dJx4a65c_isEmpty_aae02_4 (by decide) (fun c4 => ?_) (fun c4 => ?_)
  · refine lv_iconst (v := 0) hx hb dJx4a65c_isEmpty_aae02_11 (by decide) ?_
    exact hs_zret hC hW hL hr hlocks (by decide) (by decide) dJx4a65c_isEmpty_aae02_12 (by rfl) ⟨by first | rw [if_pos c4] | rw [if_neg c4], rfl, rfl, rfl⟩
  refine lv_iconst (v := 1) hx hb dJx4a65c_isEmpty_aae02_7 (by decide) ?_
  refine lv_goto (tgt := 12) hx hb dJx4a65c_isEmpty_aae02_8 (by decide) ?_
  exact hs_zret hC hW hL hr hlocks (by decide) (by decide) dJx4a65c_isEmpty_aae02_12 (by rfl) ⟨by first | rw [if_pos c4] | rw [if_neg c4], rfl, rfl, rfl⟩
set_option maxHeartbeats 4000000 in
set_option maxRecDepth 100000 in
/-- elementData -/
theorem ct_elementData (E : hs_E) (G : hs_G) (L A sz : Nat) (mc : Int32) (hG : G L = some (al_o mc A (nI sz))) (cp : Nat) (f : Nat → Option Nat) (hA : G A = some (al_a E cp f)) (hc : cp < 2 ^ 31) (j x : Nat) (hj : j < sz) (hsc : sz ≤ cp) (hfx : f j = some x) : hM E yJx4a65c_elementData_915e3 ({ frames := 0, cells := 0, slots := 0, locals := 0 }) [.ref L, .int (nI j)] G (hs_pu (some (.ref x)) G) := by
  refine hs_ofW (cc := cJx4a65c_elementData_915e3) (maxL := 2) (ret := (some (.object "java/lang/Object"))) (by decide) co_Jx4a65c_elementData_915e3 ?_
  intro p e s m args below meth c hC hlocks hr hin0 hnoh hW
  obtain ⟨hx, hb, hml, hown, hts, -⟩ := id hC
  have hE := hW
  have hL : ∀ q ∈ ([] : List Loc), (eH E).size ≤ q.base := fun q hq => nomatch hq
  have hl := lv_entry ([.ref L, .int (nI j)] : List Value) (n := 2) (Nat.le_of_ble_eq_true rfl)
  rw [lg_entry_eq]
  generalize (lg_sl [.ref L, .int (nI j)] ++ List.replicate (2 - (lg_sl [.ref L, .int (nI j)]).length) Slot.unset).toArray = ls at hl ⊢
  have hl : lv_has ls 2 [(0, .ref L), (1, .int (nI j))] := hl
  refine lv_aload_n hx hb dJx4a65c_elementData_915e3_0 rfl (lv_at hl 0 rfl) ?_
  refine hs_get hC hW hi_Jx4a65c rfl 1 (by decide) lk_Jx4a65c_9 rfl hG rfl dJx4a65c_elementData_915e3_1 ?_
  refine lv_iload_n hx hb dJx4a65c_elementData_915e3_4 rfl (lv_at hl 1 rfl) ?_
  refine hs_aald hC hW 4 (by decide) hA rfl (vp_in_nI (by omega) hc) dJx4a65c_elementData_915e3_5 ?_
  rw [show f (nI j).toNatClampNeg = some x by rw [nI_clamp (by omega)]; exact hfx]
  exact hs_aret hC hW hL hr (Or.inl ⟨_, rfl⟩) (Or.inr ⟨_, rfl⟩) hlocks (by decide) (by decide) dJx4a65c_elementData_915e3_6 ⟨rfl, rfl, rfl, rfl⟩
set_option maxHeartbeats 4000000 in
set_option maxRecDepth 100000 in
/-- get -/
theorem ct_get (E : hs_E) (G : hs_G) (L A sz : Nat) (mc : Int32) (hG : G L = some (al_o mc A (nI sz))) (cp : Nat) (f : Nat → Option Nat) (hA : G A = some (al_a E cp f)) (hc : cp < 2 ^ 31) (j x : Nat) (hj : j < sz) (hsc : sz ≤ cp) (hfx : f j = some x) : hM E yJx4a65c_get_915e3 ({ frames := 2, cells := 0, slots := 0, locals := 60 }) [.ref L, .int (nI j)] G (hs_pu (some (.ref x)) G) := by
  refine hs_ofW (cc := cJx4a65c_get_915e3) (maxL := 2) (ret := (some (.object "java/lang/Object"))) (by decide) co_Jx4a65c_get_915e3 ?_
  intro p e s m args below meth c hC hlocks hr hin0 hnoh hW
  obtain ⟨hx, hb, hml, hown, hts, -⟩ := id hC
  have hE := hW
  have hL : ∀ q ∈ ([] : List Loc), (eH E).size ≤ q.base := fun q hq => nomatch hq
  have hl := lv_entry ([.ref L, .int (nI j)] : List Value) (n := 2) (Nat.le_of_ble_eq_true rfl)
  rw [lg_entry_eq]
  generalize (lg_sl [.ref L, .int (nI j)] ++ List.replicate (2 - (lg_sl [.ref L, .int (nI j)]).length) Slot.unset).toArray = ls at hl ⊢
  have hl : lv_has ls 2 [(0, .ref L), (1, .int (nI j))] := hl
  refine lv_iload_n hx hb dJx4a65c_get_915e3_0 rfl (lv_at hl 1 rfl) ?_
  refine lv_aload_n hx hb dJx4a65c_get_915e3_1 rfl (lv_at hl 0 rfl) ?_
  refine hs_get hC hW hi_Jx4a65c rfl 2 (by decide) lk_Jx4a65c_48 rfl hG rfl dJx4a65c_get_915e3_2 ?_
  refine hs_callS hC hs_Tok hW hL (ct_ci E G j sz hj (by omega)) cw_J15_checkIndex_7cf53 lk_Jx4a65c_118 st_J15_checkIndex_7cf53 hl.1 (by decide) (Nat.le_of_ble_eq_true rfl) dJx4a65c_get_915e3_5 (hs_kp1 (fun H locs hW hL => ?_))
  refine lv_pop hx hb dJx4a65c_get_915e3_8 rfl ?_
  refine lv_aload_n hx hb dJx4a65c_get_915e3_9 rfl (lv_at hl 0 rfl) ?_
  refine lv_iload_n hx hb dJx4a65c_get_915e3_10 rfl (lv_at hl 1 rfl) ?_
  refine hs_callV hC hs_Tok hW hL (ct_elementData E G L A sz mc hG cp f hA hc j x hj hsc hfx) cw_Jx4a65c_elementData_915e3 lk_Jx4a65c_123 im_Jx4a65c_elementData_915e3 se_Jx4a65c_elementData_915e3 (hs_recv hC hW hG rfl) hl.1 (by decide) (Nat.le_of_ble_eq_true rfl) dJx4a65c_get_915e3_11 (hs_kp1 (fun H locs hW hL => ?_))
  exact hs_aret hC hW hL hr (Or.inl ⟨_, rfl⟩) (Or.inr ⟨_, rfl⟩) hlocks (by decide) (by decide) dJx4a65c_get_915e3_14 ⟨rfl, rfl, rfl, rfl⟩
set_option maxHeartbeats 4000000 in
set_option maxRecDepth 100000 in
/-- clear -/
theorem ct_clear (E : hs_E) (G : hs_G) (L A sz : Nat) (mc : Int32) (hG : G L = some (al_o mc A (nI sz))) (cp : Nat) (f : Nat → Option Nat) (hA : G A = some (al_a E cp f)) (hc : cp < 2 ^ 31) (hsc : sz ≤ cp) (hAn : 0 < sz → (eH E).size ≤ A) (hLn : (eH E).size ≤ L) : hM E yJx4a65c_clear_da8c8 ({ frames := 0, cells := 0, slots := 0, locals := 0 }) [.ref L] G (hs_V (fun G1 k n => k = 0 ∧ n = 0 ∧ ∃ f1, (sz = 0 → f1 = f) ∧ G1 = hs_up (hs_up G L (al_o (mc + 1) A 0)) A (al_a E cp f1))) := by
  refine hs_ofW (cc := cJx4a65c_clear_da8c8) (maxL := 4) (ret := none) (by decide) co_Jx4a65c_clear_da8c8 ?_
  intro p e s m args below meth c hC hlocks hr hin0 hnoh hW
  obtain ⟨hx, hb, hml, hown, hts, -⟩ := id hC
  have hE := hW
  have hL : ∀ q ∈ ([] : List Loc), (eH E).size ≤ q.base := fun q hq => nomatch hq
  have hl := lv_entry ([.ref L] : List Value) (n := 4) (Nat.le_of_ble_eq_true rfl)
  rw [lg_entry_eq]
  generalize (lg_sl [.ref L] ++ List.replicate (4 - (lg_sl [.ref L]).length) Slot.unset).toArray = ls at hl ⊢
  have hl : lv_has ls 4 [(0, .ref L)] := hl
  have hAL := al_ne hG hA
  refine lv_aload_n hx hb dJx4a65c_clear_da8c8_0 rfl (lv_at hl 0 rfl) ?_
  refine lv_dup hx hb dJx4a65c_clear_da8c8_1 rfl ?_
  refine hs_getS hC hW hi_Jx4a65c rfl 0 (by decide) lk_Jx4a65c_63 sf_mod hG rfl dJx4a65c_clear_da8c8_2 ?_
  refine lv_iconst (v := 1) hx hb dJx4a65c_clear_da8c8_5 (by decide) ?_
  refine lv_iadd hx hb dJx4a65c_clear_da8c8_6 ?_
  refine hs_putS hC hW hL hi_Jx4a65c tyJx4a65c tyJx4a65c_ok nmJx4a65c rfl 0 (by decide) lk_Jx4a65c_63 sf_mod rfl hG hLn rfl rfl (Nat.le_of_ble_eq_true rfl) dJx4a65c_clear_da8c8_7 (fun H locs hW hL => ?_)
  replace hW : hs_W (eD E) vwCl (eH E) (hs_up G L (al_o (mc + 1) A (nI sz))) H := hW
  refine lv_aload_n hx hb dJx4a65c_clear_da8c8_10 rfl (lv_at hl 0 rfl) ?_
  refine hs_get hC hW hi_Jx4a65c rfl 1 (by decide) lk_Jx4a65c_9 rfl (hs_up_eq _ _ _) rfl dJx4a65c_clear_da8c8_11 ?_
  refine lv_astore_n (lv' := [(1, .ref _), (0, .ref _)]) hx hb dJx4a65c_clear_da8c8_14 rfl hl (by decide) rfl (fun ls hl => ?_)
  refine lv_aload_n hx hb dJx4a65c_clear_da8c8_15 rfl (lv_at hl 1 rfl) ?_
  refine hs_get hC hW hi_Jx4a65c rfl 2 (by decide) lk_Jx4a65c_48 rfl (hs_up_eq _ _ _) rfl dJx4a65c_clear_da8c8_16 ?_
  refine lv_istore_n (lv' := [(2, .int _), (1, .ref _), (0, .ref _)]) hx hb dJx4a65c_clear_da8c8_19 rfl hl (by decide) rfl (fun ls hl => ?_)
  refine lv_aload_n hx hb dJx4a65c_clear_da8c8_20 rfl (lv_at hl 2 rfl) ?_
  refine lv_iconst (v := 0) hx hb dJx4a65c_clear_da8c8_21 (by decide) ?_
  refine lv_dup_x1 hx hb dJx4a65c_clear_da8c8_22 rfl rfl ?_
  refine hs_put hC hW hL hi_Jx4a65c tyJx4a65c tyJx4a65c_ok nmJx4a65c rfl 2 (by decide) lk_Jx4a65c_48 rfl rfl (hs_up_eq _ _ _) hLn rfl rfl (Nat.le_of_ble_eq_true rfl) dJx4a65c_clear_da8c8_23 (fun H locs hW hL => ?_)
  rw [hs_up_up] at hW
  replace hW : hs_W (eD E) vwCl (eH E) (hs_up G L (al_o (mc + 1) A 0)) H := hW
  refine lv_istore_n (lv' := [(3, .int _), (2, .int _), (1, .ref _), (0, .ref _)]) hx hb dJx4a65c_clear_da8c8_26 rfl hl (by decide) rfl (fun ls hl => ?_)
  rw [← hs_up_id (G := hs_up G L (al_o (mc + 1) A 0)) ((hs_up_ne _ _ hAL).trans hA)] at hW
  replace hW : hs_W (eD E) vwCl (eH E) (hs_up (hs_up G L (al_o (mc + 1) A 0)) A (al_a E cp f)) H := hW
  refine hs_loop (σ := Nat × (Nat → Option Nat)) (fun x => match x with | (i, f1) => sz - i) (fun x H locs ls => match x with | (i, f1) => (i ≤ sz ∧ (i = 0 → f1 = f)) ∧ hs_W (eD E) vwCl (eH E) (hs_up (hs_up G L (al_o (mc + 1) A 0)) A (al_a E cp f1)) H ∧ (∀ q ∈ locs, (eH E).size ≤ q.base) ∧ lv_has ls 4 [(0, .ref L), (1, .ref A), (2, .int (nI sz)), (3, .int (nI i))]) ?_ (0, f) _ _ _ ⟨⟨Nat.zero_le _, fun _ => rfl⟩, hW, hL, (lv_sub hl [3, 2, 1, 0] rfl)⟩
  rintro ⟨i, f1⟩ H locs ls ⟨hinv, hW, hL, hl⟩ ih
  replace hW : hs_W (eD E) vwCl (eH E) (hs_up (hs_up G L (al_o (mc + 1) A 0)) A (al_a E cp f1)) H := hW
  replace hl : lv_has ls 4 [(0, .ref L), (1, .ref A), (2, .int (nI sz)), (3, .int (nI i))] := hl
  refine lv_iload_n hx hb dJx4a65c_clear_da8c8_27 rfl (lv_at hl 3 rfl) ?_
  refine lv_iload_n hx hb dJx4a65c_clear_da8c8_28 rfl (lv_at hl 2 rfl) ?_
  refine lv_icmp_ge (tgt := 42) hx hb dJx4a65c_clear_da8c8_29 (by decide) (fun c29 => ?_) (fun c29 => ?_)
  · exact hs_vret hC hW hL hr hlocks (by decide) (by decide) dJx4a65c_clear_da8c8_42 ⟨rfl, rfl, rfl, _, (fun z => hinv.2 (by omega)), rfl⟩
  have hlt : i < sz := Nat.not_le.mp fun z => c29 ((nI_leI (by omega) (by omega)).mpr z)
  refine lv_aload_n hx hb dJx4a65c_clear_da8c8_32 rfl (lv_at hl 1 rfl) ?_
  refine lv_iload_n hx hb dJx4a65c_clear_da8c8_33 rfl (lv_at hl 3 rfl) ?_
  refine lv_null hx hb dJx4a65c_clear_da8c8_34 ?_
  refine hs_aastN hC hW hL 4 (hs_up_eq _ _ _) (hAn (by omega)) rfl (vp_in_nI (by omega) hc) dJx4a65c_clear_da8c8_35 (fun H locs hW hL => ?_)
  refine lv_iinc (lv' := [(3, .int _), (0, .ref _), (1, .ref _), (2, .int _)]) hx hb dJx4a65c_clear_da8c8_36 hl (k := 3) rfl rfl (by decide) rfl (fun ls hl => ?_)
  refine lv_goto (tgt := 27) hx hb dJx4a65c_clear_da8c8_39 (by decide) ?_
  rw [hs_inc] at hl
  rw [hs_up_up] at hW
  exact ih (i + 1, _) _ _ _ (by show sz - (i + 1) < sz - i; omega) ⟨⟨by omega, fun z => absurd z (by omega)⟩, hW, hL, (lv_sub hl [1, 2, 3, 0] rfl)⟩
theorem al_max {a b : Nat} (ha : a < 2 ^ 31) (hb : b < 2 ^ 31) : (if nI a < nI b then nI b else nI a) = nI (max a b) := by
  by_cases h : a < b
  · rw [if_pos ((nI_ltI ha hb).mpr h), Nat.max_eq_right (by omega)]
  · rw [if_neg (fun z => h ((nI_ltI ha hb).mp z)), Nat.max_eq_left (by omega)]
theorem al_min {a b : Nat} (ha : a < 2 ^ 31) (hb : b < 2 ^ 31) : (if nI a > nI b then nI b else nI a) = nI (min a b) := by
  by_cases h : b < a
  · rw [if_pos ((nI_ltI hb ha).mpr h), Nat.min_eq_right (by omega)]
  · rw [if_neg (fun z => h ((nI_ltI hb ha).mp z)), Nat.min_eq_left (by omega)]
theorem al_max10 {sz : Nat} (h : sz = 0) : (if (10 : Int32) < nI (sz + 1) then nI (sz + 1) else 10) = nI 10 := by
  subst h
  decide +kernel
theorem al_pos {k : Nat} (h0 : 0 < k) (h : k < 2 ^ 31) : ¬ (0 : Int32) ≥ nI k := by
  intro z
  have z1 := Int32.le_iff_toInt_le.mp z
  rw [nI_toInt h, Int32.toInt_zero] at z1
  omega
theorem al_soft {k : Nat} (h : k ≤ 100000) : ¬ nI k > 2147483639 := by
  intro z
  have z1 := Int32.lt_iff_toInt_lt.mp z
  rw [nI_toInt (by omega), show Int32.toInt 2147483639 = 2147483639 by decide] at z1
  omega
theorem al_gt0 {k : Nat} (h : k < 2 ^ 31) : (0 < nI k) = (0 < k) := by
  refine propext ⟨fun z => ?_, fun z => ?_⟩
  · have z1 := Int32.lt_iff_toInt_lt.mp z
    rw [nI_toInt h, Int32.toInt_zero] at z1
    omega
  · refine Int32.lt_iff_toInt_lt.mpr ?_
    rw [nI_toInt h, Int32.toInt_zero]
    omega
theorem al_shr1 {k : Nat} (h : k < 2 ^ 31) : nI k >>> ((1 : Int32) &&& 31) = nI (k / 2) := pk_shrN h _ 1 (by decide)
theorem al_c0 : Int32.toNatClampNeg 0 = 0 := by decide
/-- what the elements are -/
def al_el (ci : Nat) : Prop := ∃ r : vw_C, vwCl[ci]? = some r ∧ Cond.castable r.1 "java/lang/Object" ∈ hs_Ts ∧ ci ≠ 0
def al_E (G : hs_G) (ci sz : Nat) (f : Nat → Option Nat) : Prop := ∀ j y : Nat, j < sz → f j = some y → ∃ fs, G y = some (.inr (ci, fs))
theorem al_E.up {G : hs_G} {ci sz a : Nat} {f : Nat → Option Nat} {x : va_E} (h : al_E G ci sz f) (hx : ∀ fs, G a ≠ some (.inr (ci, fs))) : al_E (hs_up G a x) ci sz f := by
  intro j y hj hy
  obtain ⟨fs, h1⟩ := h j y hj hy
  have : y ≠ a := fun e => hx fs (e ▸ h1)
  exact ⟨fs, by rw [hs_up_ne _ _ this]; exact h1⟩
theorem al_cpy {f g : Nat → Option Nat} {n j : Nat} (h : j < n) : va_cpy f g (Int32.toNatClampNeg 0) (Int32.toNatClampNeg 0) n j = f j := by
  rw [al_c0]
  unfold va_cpy
  rw [if_pos ⟨Nat.zero_le _, by omega⟩]
  congr 1
  omega
theorem al_capE {cp : Nat} (h : 0 < cp) : cp + max 1 (cp / 2) = al_cap cp := by
  unfold al_cap
  rw [if_neg (by omega)]
set_option maxHeartbeats 4000000 in
set_option maxRecDepth 100000 in
/-- newLength -/
theorem ct_newLength (E : hs_E) (G : hs_G) (a b g : Nat) (ha : a ≤ 1000) (hb9 : b ≤ 1000) (hg : g ≤ 1000) (h0 : 0 < a) : hM E yJ8_newLength_cabcc ({ frames := 1, cells := 0, slots := 0, locals := 30 }) [.int (nI a), .int (nI b), .int (nI g)] G (hs_pu (some (.int (nI (a + max b g)))) G) := by
  refine hs_ofW (cc := cJ8_newLength_cabcc) (maxL := 4) (ret := (some .int)) (by decide) co_J8_newLength_cabcc ?_
  intro p e s m args below meth c hC hlocks hr hin0 hnoh hW
  obtain ⟨hx, hb, hml, hown, hts, -⟩ := id hC
  have hE := hW
  have hL : ∀ q ∈ ([] : List Loc), (eH E).size ≤ q.base := fun q hq => nomatch hq
  have hl := lv_entry ([.int (nI a), .int (nI b), .int (nI g)] : List Value) (n := 4) (Nat.le_of_ble_eq_true rfl)
  rw [lg_entry_eq]
  generalize (lg_sl [.int (nI a), .int (nI b), .int (nI g)] ++ List.replicate (4 - (lg_sl [.int (nI a), .int (nI b), .int (nI g)]).length) Slot.unset).toArray = ls at hl ⊢
  have hl : lv_has ls 4 [(0, .int (nI a)), (1, .int (nI b)), (2, .int (nI g))] := hl
  refine lv_iload_n hx hb dJ8_newLength_cabcc_0 rfl (lv_at hl 0 rfl) ?_
  refine lv_iload_n hx hb dJ8_newLength_cabcc_1 rfl (lv_at hl 1 rfl) ?_
  refine lv_iload_n hx hb dJ8_newLength_cabcc_2 rfl (lv_at hl 2 rfl) ?_
  refine hs_callS hC hs_Tok hW hL (ct_max E G _ _) cw_J9_max_7cf53 lk_J8_194 st_J9_max_7cf53 hl.1 (by decide) (Nat.le_of_ble_eq_true rfl) dJ8_newLength_cabcc_3 (hs_kp1 (fun H locs hW hL => ?_))
  rw [al_max (by omega) (by omega)]
  refine lv_iadd hx hb dJ8_newLength_cabcc_6 ?_
  rw [nI_add]
  refine lv_istore_n (lv' := [(3, .int _), (0, .int _), (1, .int _), (2, .int _)]) hx hb dJ8_newLength_cabcc_7 rfl hl (by decide) rfl (fun ls hl => ?_)
  refine lv_iconst (v := 0) hx hb dJ8_newLength_cabcc_8 (by decide) ?_
  refine lv_iload_n hx hb dJ8_newLength_cabcc_9 rfl (lv_at hl 0 rfl) ?_
  refine lv_icmp_ge (tgt := 21) hx hb dJ8_newLength_cabcc_10 (by decide) (fun c10 => ?_) (fun c10 => ?_)
  · exact absurd c10 (al_pos (by omega) (by omega))
  refine lv_iload_n hx hb dJ8_newLength_cabcc_13 rfl (lv_at hl 0 rfl) ?_
  refine lv_ldc hx hb hown (hts _ lk_J8_200) dJ8_newLength_cabcc_14 ?_
  refine lv_icmp_gt (tgt := 21) hx hb dJ8_newLength_cabcc_16 (by decide) (fun c16 => ?_) (fun c16 => ?_)
  · exact absurd c16 (al_soft (by omega))
  refine lv_iload_n hx hb dJ8_newLength_cabcc_19 rfl (lv_at hl 0 rfl) ?_
  exact hs_iret hC hW hL hr hlocks (by decide) (by decide) dJ8_newLength_cabcc_20 ⟨by rfl, rfl, rfl, rfl⟩
set_option maxHeartbeats 4000000 in
set_option maxRecDepth 100000 in
/-- Arrays.copyOf, with the class -/
theorem ct_copyOf3 (E : hs_E) (G : hs_G) (A cp c2 : Nat) (f : Nat → Option Nat) (hA : G A = some (al_a E cp f)) (hcc : cp ≤ c2) (hc2 : c2 ≤ 230) (ci : Nat) (hci : al_el ci) (hel : al_E G ci cp f) : hM E yJ7_copyOf_6403c ({ frames := 1, cells := 1, slots := 230, locals := 60 }) [.ref A, .int (nI c2), .ref ((eD E).1 77)] G (hs_O (fun q G1 k n => k = 1 ∧ n = c2 ∧ G q = none ∧ (eH E).size ≤ q ∧ ∃ f1 : Nat → Option Nat, (∀ j, j < cp → f1 j = f j) ∧ G1 = hs_up G q (al_a E c2 f1))) := by
  refine hs_ofW (cc := cJ7_copyOf_6403c) (maxL := 4) (ret := (some (.array (.object "java/lang/Object")))) (by decide) co_J7_copyOf_6403c ?_
  intro p e s m args below meth c hC hlocks hr hin0 hnoh hW
  obtain ⟨hx, hb, hml, hown, hts, -⟩ := id hC
  have hE := hW
  have hL : ∀ q ∈ ([] : List Loc), (eH E).size ≤ q.base := fun q hq => nomatch hq
  have hl := lv_entry ([.ref A, .int (nI c2), .ref ((eD E).1 77)] : List Value) (n := 4) (Nat.le_of_ble_eq_true rfl)
  rw [lg_entry_eq]
  generalize (lg_sl [.ref A, .int (nI c2), .ref ((eD E).1 77)] ++ List.replicate (4 - (lg_sl [.ref A, .int (nI c2), .ref ((eD E).1 77)]).length) Slot.unset).toArray = ls at hl ⊢
  have hl : lv_has ls 4 [(0, .ref A), (1, .int (nI c2)), (2, .ref ((eD E).1 77))] := hl
  obtain ⟨r9, h9, hca9, hci0⟩ := hci
  refine lv_aload_n hx hb dJ7_copyOf_6403c_0 rfl (lv_at hl 2 rfl) ?_
  refine hs_ldcC hC lk_J7_110 dJ7_copyOf_6403c_1 ?_
  refine lv_acmp_ne (rx := some _) (ry := some _) (tgt := 13) hx hb dJ7_copyOf_6403c_3 (by decide) (fun c3 => ?_) (fun c3 => ?_)
  · exact absurd c3 (fun z => z rfl)
  refine lv_iload_n hx hb dJ7_copyOf_6403c_6 rfl (lv_at hl 1 rfl) ?_
  refine hs_newq hC hW lk_J7_2 4 rfl (al_nn (by omega)) (nI_clamp (by omega)) (by omega) (by decide) (by show 0 + c2 ≤ 230; omega) dJ7_copyOf_6403c_7 (fun q H hqq hfq hW => ?_)
  have hAq : A ≠ q := fun z => by rw [z, hfq] at hA; cases hA
  refine lv_goto (tgt := 24) hx hb dJ7_copyOf_6403c_10 (by decide) ?_
  refine lv_astore_n (lv' := [(3, .ref _), (0, .ref _), (1, .int _), (2, .ref _)]) hx hb dJ7_copyOf_6403c_24 rfl hl (by decide) rfl (fun ls hl => ?_)
  refine lv_aload_n hx hb dJ7_copyOf_6403c_25 rfl (lv_at hl 1 rfl) ?_
  refine lv_iconst (v := 0) hx hb dJ7_copyOf_6403c_26 (by decide) ?_
  refine lv_aload_n hx hb dJ7_copyOf_6403c_27 rfl (lv_at hl 0 rfl) ?_
  refine lv_iconst (v := 0) hx hb dJ7_copyOf_6403c_28 (by decide) ?_
  refine lv_aload_n hx hb dJ7_copyOf_6403c_29 rfl (lv_at hl 1 rfl) ?_
  refine hs_alen (v := nI cp) hC hW 4 ((hs_up_ne _ _ hAq).trans hA) rfl rfl dJ7_copyOf_6403c_30 ?_
  refine lv_iload_n hx hb dJ7_copyOf_6403c_31 rfl (lv_at hl 2 rfl) ?_
  refine hs_callS hC hs_Tok hW hL (ct_min E _ _ _) cw_J9_min_7cf53 lk_J7_304 st_J9_min_7cf53 hl.1 (by refine ⟨by decide, by decide, by decide, ?_⟩; show 0 + c2 + 0 ≤ 230; omega) (Nat.le_of_ble_eq_true rfl) dJ7_copyOf_6403c_32 (hs_kp1 (fun H locs hW hL => ?_))
  rw [al_min (by omega) (by omega), Nat.min_eq_left hcc]
  refine hs_copyq hC hW hL lk_J7_150 na_arraycopy st_arraycopy ii_J10 4 ((hs_up_ne _ _ hAq).trans hA) (hs_up_eq _ _ _) hqq rfl hca9 (by decide) (by decide) (al_nn (by omega)) (by rw [nI_clamp (by omega), al_c0]; omega) (by rw [nI_clamp (by omega), al_c0]; omega) (fun i hi y hy => by
      rw [al_c0, Nat.zero_add] at hy
      rw [nI_clamp (by omega)] at hi
      obtain ⟨fs, z⟩ := hel.up (a := q) (x := al_a E c2 (fun _ => none)) (fun fs => by rw [hfq]; exact fun w => nomatch w) i y (by omega) hy
      exact ⟨ci, r9, fs, h9, rfl, z⟩) hl.1 (by decide) (Nat.le_of_ble_eq_true rfl) dJ7_copyOf_6403c_35 (fun H locs hW hL => ?_)
  rw [hs_up_up] at hW
  refine lv_aload_n hx hb dJ7_copyOf_6403c_38 rfl (lv_at hl 0 rfl) ?_
  exact hs_aret hC hW hL hr (Or.inr ⟨_, rfl⟩) (Or.inr ⟨_, rfl⟩) hlocks (by decide) (by show 0 + c2 ≤ 230; omega) dJ7_copyOf_6403c_39 ⟨q, rfl, rfl, Nat.zero_add _, hfq, hqq, _, (fun j hj => al_cpy (by rw [nI_clamp (by omega)]; exact hj)), rfl⟩
set_option maxHeartbeats 4000000 in
set_option maxRecDepth 100000 in
/-- Arrays.copyOf -/
theorem ct_copyOf (E : hs_E) (G : hs_G) (A cp c2 : Nat) (f : Nat → Option Nat) (hA : G A = some (al_a E cp f)) (hcc : cp ≤ c2) (hc2 : c2 ≤ 230) (ci : Nat) (hci : al_el ci) (hel : al_E G ci cp f) : hM E yJ7_copyOf_1904c ({ frames := 2, cells := 1, slots := 230, locals := 90 }) [.ref A, .int (nI c2)] G (hs_O (fun q G1 k n => k = 1 ∧ n = c2 ∧ G q = none ∧ (eH E).size ≤ q ∧ ∃ f1 : Nat → Option Nat, (∀ j, j < cp → f1 j = f j) ∧ G1 = hs_up G q (al_a E c2 f1))) := by
  refine hs_ofW (cc := cJ7_copyOf_1904c) (maxL := 2) (ret := (some (.array (.object "java/lang/Object")))) (by decide) co_J7_copyOf_1904c ?_
  intro p e s m args below meth c hC hlocks hr hin0 hnoh hW
  obtain ⟨hx, hb, hml, hown, hts, -⟩ := id hC
  have hE := hW
  have hL : ∀ q ∈ ([] : List Loc), (eH E).size ≤ q.base := fun q hq => nomatch hq
  have hl := lv_entry ([.ref A, .int (nI c2)] : List Value) (n := 2) (Nat.le_of_ble_eq_true rfl)
  rw [lg_entry_eq]
  generalize (lg_sl [.ref A, .int (nI c2)] ++ List.replicate (2 - (lg_sl [.ref A, .int (nI c2)]).length) Slot.unset).toArray = ls at hl ⊢
  have hl : lv_has ls 2 [(0, .ref A), (1, .int (nI c2))] := hl
  refine lv_aload_n hx hb dJ7_copyOf_1904c_0 rfl (lv_at hl 0 rfl) ?_
  refine lv_iload_n hx hb dJ7_copyOf_1904c_1 rfl (lv_at hl 1 rfl) ?_
  refine lv_aload_n hx hb dJ7_copyOf_1904c_2 rfl (lv_at hl 0 rfl) ?_
  refine hs_getC hC hW 4 hA rfl lk_J7_86 de_getClass se_getClass im_getClass na_getClass hl.1 (by decide) (Nat.le_of_ble_eq_true rfl) dJ7_copyOf_1904c_3 ?_
  refine hs_callS hC hs_Tok hW hL (ct_copyOf3 E G A cp c2 f hA hcc hc2 ci hci hel) cw_J7_copyOf_6403c lk_J7_300 st_J7_copyOf_6403c hl.1 (by decide) (Nat.le_of_ble_eq_true rfl) dJ7_copyOf_1904c_6 (hs_kO (fun q G1 k n H locs hI hk hn hW hL => ?_))
  replace hk : k ≤ 1 := hk
  replace hn : n ≤ 230 := hn
  exact hs_aret hC hW hL hr (Or.inr ⟨_, rfl⟩) (Or.inr ⟨_, rfl⟩) hlocks (by show 0 + k ≤ 1; omega) (by show 0 + n ≤ 230; omega) dJ7_copyOf_1904c_9 ⟨q, rfl, by rw [Nat.zero_add, Nat.zero_add]; exact hI⟩
set_option maxHeartbeats 4000000 in
set_option maxRecDepth 100000 in
/-- grow -/
theorem ct_growN (E : hs_E) (G : hs_G) (L A sz : Nat) (mc : Int32) (hG : G L = some (al_o mc A (nI sz))) (cp : Nat) (f : Nat → Option Nat) (hA : G A = some (al_a E cp f)) (hsc : sz = cp) (hc : cp ≤ 150) (hcap : cp = 0 → A = E.2.2.2.2.2.2) (hLn : (eH E).size ≤ L) (ci : Nat) (hci : al_el ci) (hel : al_E G ci cp f) : hM E yJx4a65c_grow_92f84 ({ frames := 3, cells := 1, slots := 230, locals := 120 }) [.ref L, .int (nI (sz + 1))] G (hs_O (fun q G1 k n => k = 1 ∧ n = al_cap cp ∧ G q = none ∧ (eH E).size ≤ q ∧ ∃ f1 : Nat → Option Nat, (∀ j, j < cp → f1 j = f j) ∧ G1 = hs_up (hs_up G q (al_a E (al_cap cp) f1)) L (al_o mc q (nI sz)))) := by
  refine hs_ofW (cc := cJx4a65c_grow_92f84) (maxL := 4) (ret := (some (.array (.object "java/lang/Object")))) (by decide) co_Jx4a65c_grow_92f84 ?_
  intro p e s m args below meth c hC hlocks hr hin0 hnoh hW
  obtain ⟨hx, hb, hml, hown, hts, -⟩ := id hC
  have hE := hW
  have hL : ∀ q ∈ ([] : List Loc), (eH E).size ≤ q.base := fun q hq => nomatch hq
  have hl := lv_entry ([.ref L, .int (nI (sz + 1))] : List Value) (n := 4) (Nat.le_of_ble_eq_true rfl)
  rw [lg_entry_eq]
  generalize (lg_sl [.ref L, .int (nI (sz + 1))] ++ List.replicate (4 - (lg_sl [.ref L, .int (nI (sz + 1))]).length) Slot.unset).toArray = ls at hl ⊢
  have hl : lv_has ls 4 [(0, .ref L), (1, .int (nI (sz + 1)))] := hl
  have hcb := al_cap_b hc
  refine lv_aload_n hx hb dJx4a65c_grow_92f84_0 rfl (lv_at hl 0 rfl) ?_
  refine hs_get hC hW hi_Jx4a65c rfl 1 (by decide) lk_Jx4a65c_9 rfl hG rfl dJx4a65c_grow_92f84_1 ?_
  refine hs_alen (v := nI cp) hC hW 4 hA rfl rfl dJx4a65c_grow_92f84_4 ?_
  refine lv_istore_n (lv' := [(2, .int _), (0, .ref _), (1, .int _)]) hx hb dJx4a65c_grow_92f84_5 rfl hl (by decide) rfl (fun ls hl => ?_)
  refine lv_iload_n hx hb dJx4a65c_grow_92f84_6 rfl (lv_at hl 0 rfl) ?_
  refine lv_if_gt (tgt := 20) hx hb dJx4a65c_grow_92f84_7 (by decide) (fun c7 => ?_) (fun c7 => ?_)
  · have hcp : 0 < cp := by rw [al_gt0 (by omega)] at c7; exact c7
    refine lv_iload_n hx hb dJx4a65c_grow_92f84_20 rfl (lv_at hl 0 rfl) ?_
    refine lv_iload_n hx hb dJx4a65c_grow_92f84_21 rfl (lv_at hl 2 rfl) ?_
    refine lv_iload_n hx hb dJx4a65c_grow_92f84_22 rfl (lv_at hl 0 rfl) ?_
    refine lv_isub hx hb dJx4a65c_grow_92f84_23 ?_
    rw [pk_sub (by omega), show sz + 1 - cp = 1 by omega]
    refine lv_iload_n hx hb dJx4a65c_grow_92f84_24 rfl (lv_at hl 0 rfl) ?_
    refine lv_iconst (v := 1) hx hb dJx4a65c_grow_92f84_25 (by decide) ?_
    refine lv_ishr hx hb dJx4a65c_grow_92f84_26 ?_
    rw [al_shr1 (by omega)]
    refine hs_callS hC hs_Tok hW hL (ct_newLength E G cp 1 (cp / 2) (by omega) (by omega) (by omega) hcp) cw_J8_newLength_cabcc lk_Jx4a65c_73 st_J8_newLength_cabcc hl.1 (by decide) (Nat.le_of_ble_eq_true rfl) dJx4a65c_grow_92f84_27 (hs_kp1 (fun H locs hW hL => ?_))
    rw [al_capE hcp]
    refine lv_istore_n (lv' := [(3, .int _), (2, .int _), (0, .ref _), (1, .int _)]) hx hb dJx4a65c_grow_92f84_30 rfl hl (by decide) rfl (fun ls hl => ?_)
    refine lv_aload_n hx hb dJx4a65c_grow_92f84_31 rfl (lv_at hl 2 rfl) ?_
    refine lv_aload_n hx hb dJx4a65c_grow_92f84_32 rfl (lv_at hl 2 rfl) ?_
    refine hs_get hC hW hi_Jx4a65c rfl 1 (by decide) lk_Jx4a65c_9 rfl hG rfl dJx4a65c_grow_92f84_33 ?_
    refine lv_iload_n hx hb dJx4a65c_grow_92f84_36 rfl (lv_at hl 0 rfl) ?_
    refine hs_callS hC hs_Tok hW hL (ct_copyOf E G A cp (al_cap cp) f hA (by omega) (by omega) ci hci hel) cw_J7_copyOf_1904c lk_Jx4a65c_66 st_J7_copyOf_1904c hl.1 (by decide) (Nat.le_of_ble_eq_true rfl) dJx4a65c_grow_92f84_37 (hs_kO (fun q G1 k n H locs hI hk hn hW hL => ?_))
    obtain ⟨rfl, rfl, hfq, hqq, f1, hf1, rfl⟩ := hI
    have hLq : L ≠ q := fun z => by rw [z, hfq] at hG; cases hG
    refine lv_dup_x1 hx hb dJx4a65c_grow_92f84_40 rfl rfl ?_
    refine hs_put hC hW hL hi_Jx4a65c tyJx4a65c tyJx4a65c_ok nmJx4a65c rfl 1 (by decide) lk_Jx4a65c_9 rfl rfl ((hs_up_ne _ _ hLq).trans hG) hLn rfl rfl (Nat.le_of_ble_eq_true rfl) dJx4a65c_grow_92f84_41 (fun H locs hW hL => ?_)
    exact hs_aret hC hW hL hr (Or.inr ⟨_, rfl⟩) (Or.inr ⟨_, rfl⟩) hlocks (by decide) (by show 0 + al_cap cp ≤ 230; omega) dJx4a65c_grow_92f84_44 ⟨q, rfl, rfl, Nat.zero_add _, hfq, hqq, f1, hf1, rfl⟩
  refine lv_aload_n hx hb dJx4a65c_grow_92f84_10 rfl (lv_at hl 1 rfl) ?_
  refine hs_get hC hW hi_Jx4a65c rfl 1 (by decide) lk_Jx4a65c_9 rfl hG rfl dJx4a65c_grow_92f84_11 ?_
  refine hs_gets hC hW (List.mem_cons_of_mem _ List.mem_cons_self) lk_Jx4a65c_39 dJx4a65c_grow_92f84_14 ?_
  refine lv_acmp_eq (rx := some _) (ry := some _) (tgt := 45) hx hb dJx4a65c_grow_92f84_17 (by decide) (fun c17 => ?_) (fun c17 => ?_)
  · have hcp : cp = 0 := by rw [al_gt0 (by omega)] at c7; omega
    have h10 : al_cap cp = 10 := by rw [hcp]; rfl
    refine lv_aload_n hx hb dJx4a65c_grow_92f84_45 rfl (lv_at hl 1 rfl) ?_
    refine lv_bipush (v := 10) hx hb dJx4a65c_grow_92f84_46 (by decide) ?_
    refine lv_iload_n hx hb dJx4a65c_grow_92f84_48 rfl (lv_at hl 2 rfl) ?_
    refine hs_callS hC hs_Tok hW hL (ct_max E G _ _) cw_J9_max_7cf53 lk_Jx4a65c_79 st_J9_max_7cf53 hl.1 (by decide) (Nat.le_of_ble_eq_true rfl) dJx4a65c_grow_92f84_49 (hs_kp1 (fun H locs hW hL => ?_))
    rw [al_max10 (by omega)]
    refine hs_newq hC hW lk_Jx4a65c_7 4 rfl (al_nn (by decide)) (nI_clamp (by decide)) (by decide) (by decide) (by decide) dJx4a65c_grow_92f84_52 (fun q H hqq hfq hW => ?_)
    have hLq : L ≠ q := fun z => by rw [z, hfq] at hG; cases hG
    refine lv_dup_x1 hx hb dJx4a65c_grow_92f84_55 rfl rfl ?_
    refine hs_put hC hW hL hi_Jx4a65c tyJx4a65c tyJx4a65c_ok nmJx4a65c rfl 1 (by decide) lk_Jx4a65c_9 rfl rfl ((hs_up_ne _ _ hLq).trans hG) hLn rfl rfl (Nat.le_of_ble_eq_true rfl) dJx4a65c_grow_92f84_56 (fun H locs hW hL => ?_)
    exact hs_aret hC hW hL hr (Or.inr ⟨_, rfl⟩) (Or.inr ⟨_, rfl⟩) hlocks (by decide) (by show 0 + 10 ≤ 230; decide) dJx4a65c_grow_92f84_59 ⟨q, rfl, rfl, (by rw [h10]), hfq, hqq, (fun _ => none), (fun j hj => absurd hj (by omega)), by rw [h10]; rfl⟩
  exact absurd c17 (fun z => z (congrArg some (hcap (by rw [al_gt0 (by omega)] at c7; omega))))
set_option maxHeartbeats 4000000 in
set_option maxRecDepth 100000 in
/-- grow -/
theorem ct_grow (E : hs_E) (G : hs_G) (L A sz : Nat) (mc : Int32) (hG : G L = some (al_o mc A (nI sz))) (cp : Nat) (f : Nat → Option Nat) (hA : G A = some (al_a E cp f)) (hsc : sz = cp) (hc : cp ≤ 150) (hcap : cp = 0 → A = E.2.2.2.2.2.2) (hLn : (eH E).size ≤ L) (ci : Nat) (hci : al_el ci) (hel : al_E G ci cp f) : hM E yJx4a65c_grow_d5877 ({ frames := 4, cells := 1, slots := 230, locals := 150 }) [.ref L] G (hs_O (fun q G1 k n => k = 1 ∧ n = al_cap cp ∧ G q = none ∧ (eH E).size ≤ q ∧ ∃ f1 : Nat → Option Nat, (∀ j, j < cp → f1 j = f j) ∧ G1 = hs_up (hs_up G q (al_a E (al_cap cp) f1)) L (al_o mc q (nI sz)))) := by
  refine hs_ofW (cc := cJx4a65c_grow_d5877) (maxL := 1) (ret := (some (.array (.object "java/lang/Object")))) (by decide) co_Jx4a65c_grow_d5877 ?_
  intro p e s m args below meth c hC hlocks hr hin0 hnoh hW
  obtain ⟨hx, hb, hml, hown, hts, -⟩ := id hC
  have hE := hW
  have hL : ∀ q ∈ ([] : List Loc), (eH E).size ≤ q.base := fun q hq => nomatch hq
  have hl := lv_entry ([.ref L] : List Value) (n := 1) (Nat.le_of_ble_eq_true rfl)
  rw [lg_entry_eq]
  generalize (lg_sl [.ref L] ++ List.replicate (1 - (lg_sl [.ref L]).length) Slot.unset).toArray = ls at hl ⊢
  have hl : lv_has ls 1 [(0, .ref L)] := hl
  refine lv_aload_n hx hb dJx4a65c_grow_d5877_0 rfl (lv_at hl 0 rfl) ?_
  refine lv_aload_n hx hb dJx4a65c_grow_d5877_1 rfl (lv_at hl 0 rfl) ?_
  refine hs_get hC hW hi_Jx4a65c rfl 2 (by decide) lk_Jx4a65c_48 rfl hG rfl dJx4a65c_grow_d5877_2 ?_
  refine lv_iconst (v := 1) hx hb dJx4a65c_grow_d5877_5 (by decide) ?_
  refine lv_iadd hx hb dJx4a65c_grow_d5877_6 ?_
  rw [nI_1]
  refine hs_callV hC hs_Tok hW hL (ct_growN E G L A sz mc hG cp f hA hsc hc hcap hLn ci hci hel) cw_Jx4a65c_grow_92f84 lk_Jx4a65c_69 im_Jx4a65c_grow_92f84 se_Jx4a65c_grow_92f84 (hs_recv hC hW hG rfl) hl.1 (by decide) (Nat.le_of_ble_eq_true rfl) dJx4a65c_grow_d5877_7 (hs_kO (fun q G1 k n H locs hI hk hn hW hL => ?_))
  replace hk : k ≤ 1 := hk
  replace hn : n ≤ 230 := hn
  exact hs_aret hC hW hL hr (Or.inr ⟨_, rfl⟩) (Or.inr ⟨_, rfl⟩) hlocks (by show 0 + k ≤ 1; omega) (by show 0 + n ≤ 230; omega) dJx4a65c_grow_d5877_10 ⟨q, rfl, by rw [Nat.zero_add, Nat.zero_add]; exact hI⟩
