/-! the class: constructors of Days and Journal -/
set_option maxHeartbeats 4000000 in
set_option maxRecDepth 100000 in
/-- Days -/
theorem ct_X0_init (E : hs_E) (G : hs_G) (q : Nat) (hG : G q = some (.inr (1, [.null, .int 0]))) (hq : (eH E).size ≤ q) : hM E yX0_init ({ frames := 1, cells := 1, slots := 626, locals := 30 }) [.ref q] G (hs_V (fun G1 k n => k = 1 ∧ n = 626 ∧ ∃ b : Nat, G b = none ∧ (eH E).size ≤ b ∧ b ≠ q ∧ G1 = hs_up (hs_up G b (.inl (eA E 0, 626, .inl (fun _ => 0)))) q (.inr (1, [.ref b, .int 0])))) := by
  refine hs_ofW (cc := cX0_init) (maxL := 1) (ret := none) (by decide) co_X0_init ?_
  intro p e s m args below meth c hC hlocks hr hin0 hnoh hW
  obtain ⟨hx, hb, hml, hown, hts, -⟩ := id hC
  have hE := hW
  have hL : ∀ q ∈ ([] : List Loc), (eH E).size ≤ q.base := fun q hq => nomatch hq
  have hl := lv_entry ([.ref q] : List Value) (n := 1) (Nat.le_of_ble_eq_true rfl)
  rw [lg_entry_eq]
  generalize (lg_sl [.ref q] ++ List.replicate (1 - (lg_sl [.ref q]).length) Slot.unset).toArray = ls at hl ⊢
  have hl : lv_has ls 1 [(0, .ref q)] := hl
  have hin := hin0 rfl
  refine lv_aload_n hx hb dX0_init_0 rfl (lv_at hl 0 rfl) ?_
  refine W.objInit hx hb hown (hts _ lk_X0_3) (hts _ im_objectInit) (hts _ co_objectInit) rfl (by rw [hml]; exact hl.1) rfl dX0_init_1 (by decide) (Nat.le_of_ble_eq_true rfl) ?_
  refine W.eq (g2 := F0 m 4 ls _) rfl ?_
  refine lv_aload_n hx hb dX0_init_4 rfl (lv_at hl 0 rfl) ?_
  refine lv_sipush (v := 626) hx hb dX0_init_5 (by decide) ?_
  refine hs_newa (atype := .int) (ty := .int) hC hW ac_int rfl 0 rfl (fun _ h => h) (N' := 626) (a0 := (626, .inl (fun _ => 0))) (fun cA => by rw [vp_cell_i]; rfl) (by decide) (by decide) (by decide) (by decide) (by decide) dX0_init_8 (fun b H hbs hfb hW => ?_)
  have hqb : q ≠ b := fun z => by rw [z, hfb] at hG; cases hG
  refine hs_putF hC hW hL hi_X0 tyX0 tyX0_ok nmX0 rfl 0 (by decide) lk_X0_9 rfl rfl hin rfl ((hs_up_ne _ _ hqb).trans hG) hq rfl rfl (Nat.le_of_ble_eq_true rfl) dX0_init_10 (fun H locs hW hL => ?_)
  refine lv_aload_n hx hb dX0_init_13 rfl (lv_at hl 0 rfl) ?_
  refine lv_iconst (v := 0) hx hb dX0_init_14 (by decide) ?_
  refine hs_put hC hW hL hi_X0 tyX0 tyX0_ok nmX0 rfl 1 (by decide) lk_X0_15 rfl rfl (hs_up_eq _ _ _) hq rfl rfl (Nat.le_of_ble_eq_true rfl) dX0_init_15 (fun H locs hW hL => ?_)
  rw [hs_up_up] at hW
  exact hs_vret hC hW hL hr hlocks (by decide) (by decide) dX0_init_18 ⟨rfl, rfl, rfl, b, hfb, hbs, hqb.symm, rfl⟩
set_option maxHeartbeats 4000000 in
set_option maxRecDepth 100000 in
/-- Journal -/
theorem ct_X2_init (E : hs_E) (G : hs_G) (q : Nat) (hG : G q = some (.inr (3, [.null, .int 0]))) (hq : (eH E).size ≤ q) : hM E yX2_init ({ frames := 1, cells := 1, slots := 6000, locals := 30 }) [.ref q] G (hs_V (fun G1 k n => k = 1 ∧ n = 6000 ∧ ∃ b : Nat, G b = none ∧ (eH E).size ≤ b ∧ b ≠ q ∧ G1 = hs_up (hs_up G b (.inl (eA E 0, 6000, .inl (fun _ => 0)))) q (.inr (3, [.ref b, .int 0])))) := by
  refine hs_ofW (cc := cX2_init) (maxL := 1) (ret := none) (by decide) co_X2_init ?_
  intro p e s m args below meth c hC hlocks hr hin0 hnoh hW
  obtain ⟨hx, hb, hml, hown, hts, -⟩ := id hC
  have hE := hW
  have hL : ∀ q ∈ ([] : List Loc), (eH E).size ≤ q.base := fun q hq => nomatch hq
  have hl := lv_entry ([.ref q] : List Value) (n := 1) (Nat.le_of_ble_eq_true rfl)
  rw [lg_entry_eq]
  generalize (lg_sl [.ref q] ++ List.replicate (1 - (lg_sl [.ref q]).length) Slot.unset).toArray = ls at hl ⊢
  have hl : lv_has ls 1 [(0, .ref q)] := hl
  have hin := hin0 rfl
  refine lv_aload_n hx hb dX2_init_0 rfl (lv_at hl 0 rfl) ?_
  refine W.objInit hx hb hown (hts _ lk_X2_3) (hts _ im_objectInit) (hts _ co_objectInit) rfl (by rw [hml]; exact hl.1) rfl dX2_init_1 (by decide) (Nat.le_of_ble_eq_true rfl) ?_
  refine W.eq (g2 := F0 m 4 ls _) rfl ?_
  refine lv_aload_n hx hb dX2_init_4 rfl (lv_at hl 0 rfl) ?_
  refine lv_sipush (v := 6000) hx hb dX2_init_5 (by decide) ?_
  refine hs_newa (atype := .int) (ty := .int) hC hW ac_int rfl 0 rfl (fun _ h => h) (N' := 6000) (a0 := (6000, .inl (fun _ => 0))) (fun cA => by rw [vp_cell_i]; rfl) (by decide) (by decide) (by decide) (by decide) (by decide) dX2_init_8 (fun b H hbs hfb hW => ?_)
  have hqb : q ≠ b := fun z => by rw [z, hfb] at hG; cases hG
  refine hs_putF hC hW hL hi_X2 tyX2 tyX2_ok nmX2 rfl 0 (by decide) lk_X2_11 rfl rfl hin rfl ((hs_up_ne _ _ hqb).trans hG) hq rfl rfl (Nat.le_of_ble_eq_true rfl) dX2_init_10 (fun H locs hW hL => ?_)
  refine lv_aload_n hx hb dX2_init_13 rfl (lv_at hl 0 rfl) ?_
  refine lv_iconst (v := 0) hx hb dX2_init_14 (by decide) ?_
  refine hs_put hC hW hL hi_X2 tyX2 tyX2_ok nmX2 rfl 1 (by decide) lk_X2_15 rfl rfl (hs_up_eq _ _ _) hq rfl rfl (Nat.le_of_ble_eq_true rfl) dX2_init_15 (fun H locs hW hL => ?_)
  rw [hs_up_up] at hW
  exact hs_vret hC hW hL hr hlocks (by decide) (by decide) dX2_init_18 ⟨rfl, rfl, rfl, b, hfb, hbs, hqb.symm, rfl⟩
