/-! the class: constructors; takeIn, absorb -/
set_option maxHeartbeats 4000000 in
set_option maxRecDepth 100000 in
/-- Side -/
theorem ct_X3_init (E : hs_E) (G : hs_G) (q : Nat) (u v : Int32) (hG : G q = some (.inr (4, [.int u, .int v]))) (hq : (eH E).size ≤ q) : hM E yX3_init ({ frames := 1, cells := 0, slots := 0, locals := 30 }) [.ref q] G (hs_V (fun G1 k n => k = 0 ∧ n = 0 ∧ G1 = hs_up G q (.inr (4, [.int 0, .int 0])))) := by
  refine hs_ofW (cc := cX3_init) (maxL := 1) (ret := none) (by decide) co_X3_init ?_
  intro p e s m args below meth c hC hlocks hr hin0 hnoh hW
  obtain ⟨hx, hb, hml, hown, hts, -⟩ := id hC
  have hE := hW
  have hL : ∀ q ∈ ([] : List Loc), (eH E).size ≤ q.base := fun q hq => nomatch hq
  have hl := lv_entry ([.ref q] : List Value) (n := 1) (Nat.le_of_ble_eq_true rfl)
  rw [lg_entry_eq]
  generalize (lg_sl [.ref q] ++ List.replicate (1 - (lg_sl [.ref q]).length) Slot.unset).toArray = ls at hl ⊢
  have hl : lv_has ls 1 [(0, .ref q)] := hl
  refine lv_aload_n hx hb dX3_init_0 rfl (lv_at hl 0 rfl) ?_
  refine W.objInit hx hb hown (hts _ lk_X3_1) (hts _ im_objectInit) (hts _ co_objectInit) rfl (by rw [hml]; exact hl.1) rfl dX3_init_1 (by decide) (Nat.le_of_ble_eq_true rfl) ?_
  refine W.eq (g2 := F0 m 4 ls _) rfl ?_
  refine lv_aload_n hx hb dX3_init_4 rfl (lv_at hl 0 rfl) ?_
  refine lv_iconst (v := 0) hx hb dX3_init_5 (by decide) ?_
  refine hs_put hC hW hL hi_X3 tyX3 tyX3_ok nmX3 rfl 0 (by decide) lk_X3_7 rfl rfl hG hq rfl rfl (Nat.le_of_ble_eq_true rfl) dX3_init_6 (fun H locs hW hL => ?_)
  refine lv_aload_n hx hb dX3_init_9 rfl (lv_at hl 0 rfl) ?_
  refine lv_iconst (v := 0) hx hb dX3_init_10 (by decide) ?_
  refine hs_put hC hW hL hi_X3 tyX3 tyX3_ok nmX3 rfl 1 (by decide) lk_X3_13 rfl rfl (hs_up_eq _ _ _) hq rfl rfl (Nat.le_of_ble_eq_true rfl) dX3_init_11 (fun H locs hW hL => ?_)
  rw [hs_up_up] at hW
  exact hs_vret hC hW hL hr hlocks (by decide) (by decide) dX3_init_14 ⟨rfl, rfl, rfl, rfl⟩
set_option maxHeartbeats 4000000 in
set_option maxRecDepth 100000 in
/-- Terms -/
theorem ct_X4_init (E : hs_E) (G : hs_G) (q : Nat) (v0 v1 v2 v3 v4 v5 v6 a b c9 d9 e9 f9 g9 : Int32) (hG : G q = some (.inr (5, [.int v0, .int v1, .int v2, .int v3, .int v4, .int v5, .int v6]))) (hq : (eH E).size ≤ q) : hM E yX4_init ({ frames := 1, cells := 0, slots := 0, locals := 30 }) [.ref q, .int a, .int b, .int c9, .int d9, .int e9, .int f9, .int g9] G (hs_V (fun G1 k n => k = 0 ∧ n = 0 ∧ G1 = hs_up G q (.inr (5, [.int a, .int b, .int c9, .int d9, .int e9, .int f9, .int g9])))) := by
  refine hs_ofW (cc := cX4_init) (maxL := 8) (ret := none) (by decide) co_X4_init ?_
  intro p e s m args below meth c hC hlocks hr hin0 hnoh hW
  obtain ⟨hx, hb, hml, hown, hts, -⟩ := id hC
  have hE := hW
  have hL : ∀ q ∈ ([] : List Loc), (eH E).size ≤ q.base := fun q hq => nomatch hq
  have hl := lv_entry ([.ref q, .int a, .int b, .int c9, .int d9, .int e9, .int f9, .int g9] : List Value) (n := 8) (Nat.le_of_ble_eq_true rfl)
  rw [lg_entry_eq]
  generalize (lg_sl [.ref q, .int a, .int b, .int c9, .int d9, .int e9, .int f9, .int g9] ++ List.replicate (8 - (lg_sl [.ref q, .int a, .int b, .int c9, .int d9, .int e9, .int f9, .int g9]).length) Slot.unset).toArray = ls at hl ⊢
  have hl : lv_has ls 8 [(0, .ref q), (1, .int a), (2, .int b), (3, .int c9), (4, .int d9), (5, .int e9), (6, .int f9), (7, .int g9)] := hl
  have hin := hin0 rfl
  refine lv_aload_n hx hb dX4_init_0 rfl (lv_at hl 0 rfl) ?_
  refine W.objInit hx hb hown (hts _ lk_X4_1) (hts _ im_objectInit) (hts _ co_objectInit) rfl (by rw [hml]; exact hl.1) rfl dX4_init_1 (by decide) (Nat.le_of_ble_eq_true rfl) ?_
  refine W.eq (g2 := F0 m 4 ls _) rfl ?_
  refine lv_aload_n hx hb dX4_init_4 rfl (lv_at hl 0 rfl) ?_
  refine lv_iload_n hx hb dX4_init_5 rfl (lv_at hl 1 rfl) ?_
  refine hs_putF hC hW hL hi_X4 tyX4 tyX4_ok nmX4 rfl 0 (by decide) lk_X4_7 rfl rfl hin rfl hG hq rfl rfl (Nat.le_of_ble_eq_true rfl) dX4_init_6 (fun H locs hW hL => ?_)
  refine lv_aload_n hx hb dX4_init_9 rfl (lv_at hl 0 rfl) ?_
  refine lv_iload_n hx hb dX4_init_10 rfl (lv_at hl 2 rfl) ?_
  refine hs_putF hC hW hL hi_X4 tyX4 tyX4_ok nmX4 rfl 1 (by decide) lk_X4_13 rfl rfl hin rfl (hs_up_eq _ _ _) hq rfl rfl (Nat.le_of_ble_eq_true rfl) dX4_init_11 (fun H locs hW hL => ?_)
  rw [hs_up_up] at hW
  refine lv_aload_n hx hb dX4_init_14 rfl (lv_at hl 0 rfl) ?_
  refine lv_iload_n hx hb dX4_init_15 rfl (lv_at hl 3 rfl) ?_
  refine hs_putF hC hW hL hi_X4 tyX4 tyX4_ok nmX4 rfl 2 (by decide) lk_X4_16 rfl rfl hin rfl (hs_up_eq _ _ _) hq rfl rfl (Nat.le_of_ble_eq_true rfl) dX4_init_16 (fun H locs hW hL => ?_)
  rw [hs_up_up] at hW
  refine lv_aload_n hx hb dX4_init_19 rfl (lv_at hl 0 rfl) ?_
  refine lv_iload hx hb dX4_init_20 (lv_at hl 4 rfl) ?_
  refine hs_putF hC hW hL hi_X4 tyX4 tyX4_ok nmX4 rfl 3 (by decide) lk_X4_19 rfl rfl hin rfl (hs_up_eq _ _ _) hq rfl rfl (Nat.le_of_ble_eq_true rfl) dX4_init_22 (fun H locs hW hL => ?_)
  rw [hs_up_up] at hW
  refine lv_aload_n hx hb dX4_init_25 rfl (lv_at hl 0 rfl) ?_
  refine lv_iload hx hb dX4_init_26 (lv_at hl 5 rfl) ?_
  refine hs_putF hC hW hL hi_X4 tyX4 tyX4_ok nmX4 rfl 4 (by decide) lk_X4_22 rfl rfl hin rfl (hs_up_eq _ _ _) hq rfl rfl (Nat.le_of_ble_eq_true rfl) dX4_init_28 (fun H locs hW hL => ?_)
  rw [hs_up_up] at hW
  refine lv_aload_n hx hb dX4_init_31 rfl (lv_at hl 0 rfl) ?_
  refine lv_iload hx hb dX4_init_32 (lv_at hl 6 rfl) ?_
  refine hs_putF hC hW hL hi_X4 tyX4 tyX4_ok nmX4 rfl 5 (by decide) lk_X4_25 rfl rfl hin rfl (hs_up_eq _ _ _) hq rfl rfl (Nat.le_of_ble_eq_true rfl) dX4_init_34 (fun H locs hW hL => ?_)
  rw [hs_up_up] at hW
  refine lv_aload_n hx hb dX4_init_37 rfl (lv_at hl 0 rfl) ?_
  refine lv_iload hx hb dX4_init_38 (lv_at hl 7 rfl) ?_
  refine hs_putF hC hW hL hi_X4 tyX4 tyX4_ok nmX4 rfl 6 (by decide) lk_X4_28 rfl rfl hin rfl (hs_up_eq _ _ _) hq rfl rfl (Nat.le_of_ble_eq_true rfl) dX4_init_40 (fun H locs hW hL => ?_)
  rw [hs_up_up] at hW
  exact hs_vret hC hW hL hr hlocks (by decide) (by decide) dX4_init_43 ⟨rfl, rfl, rfl, rfl⟩
set_option maxHeartbeats 4000000 in
set_option maxRecDepth 100000 in
/-- Trade -/
theorem ct_X5_init (E : hs_E) (G : hs_G) (q te1 : Nat) (nu te : Int32) (de re se : Nat) (qu am : Int32) (dy lg : Nat) (hG : G q = some (.inr (6, [.int 0, .int 0, .null, .null, .null, .int 0, .int 0, .int 0, .int 0, .int 0, .int 0, .int 0, .null]))) (hq : (eH E).size ≤ q) (hTe : G te1 = some (cl_te de re se qu am dy lg)) : hM E yX5_init ({ frames := 2, cells := 2, slots := 4, locals := 60 }) [.ref q, .int nu, .int te, .ref te1] G (hs_V (fun G1 k n => k = 2 ∧ n = 4 ∧ ∃ q1 q2 : Nat, G q1 = none ∧ (eH E).size ≤ q1 ∧ G q2 = none ∧ (eH E).size ≤ q2 ∧ q1 ≠ q2 ∧ q1 ≠ q ∧ q2 ≠ q ∧ G1 = hs_up (hs_up (hs_up G q1 (.inr (4, [.int 0, .int 0]))) q2 (.inr (4, [.int 0, .int 0]))) q (cl_tr nu te te1 q1 q2 0 (-1) qu am 0 1 0 .null))) := by
  refine hs_ofW (cc := cX5_init) (maxL := 4) (ret := none) (by decide) co_X5_init ?_
  intro p e s m args below meth c hC hlocks hr hin0 hnoh hW
  obtain ⟨hx, hb, hml, hown, hts, -⟩ := id hC
  have hE := hW
  have hL : ∀ q ∈ ([] : List Loc), (eH E).size ≤ q.base := fun q hq => nomatch hq
  have hl := lv_entry ([.ref q, .int nu, .int te, .ref te1] : List Value) (n := 4) (Nat.le_of_ble_eq_true rfl)
  rw [lg_entry_eq]
  generalize (lg_sl [.ref q, .int nu, .int te, .ref te1] ++ List.replicate (4 - (lg_sl [.ref q, .int nu, .int te, .ref te1]).length) Slot.unset).toArray = ls at hl ⊢
  have hl : lv_has ls 4 [(0, .ref q), (1, .int nu), (2, .int te), (3, .ref te1)] := hl
  have hin := hin0 rfl
  have htq : te1 ≠ q := fun z => by rw [z, hG] at hTe; cases hTe
  refine lv_aload_n hx hb dX5_init_0 rfl (lv_at hl 0 rfl) ?_
  refine W.objInit hx hb hown (hts _ lk_X5_3) (hts _ im_objectInit) (hts _ co_objectInit) rfl (by rw [hml]; exact hl.1) rfl dX5_init_1 (by decide) (Nat.le_of_ble_eq_true rfl) ?_
  refine W.eq (g2 := F0 m 4 ls _) rfl ?_
  refine lv_aload_n hx hb dX5_init_4 rfl (lv_at hl 0 rfl) ?_
  refine hs_new (ci := 4) hC hW hi_X3 tyX3 tyX3_ok lk_X5_9 ib_X3 ii_X3 rfl (fs := [.int 0, .int 0]) (by decide) (by decide) (by decide) dX5_init_5 (fun q1 H hq1s hfq1 hW => ?_)
  have hqq1 : q ≠ q1 := fun z => by rw [z, hfq1] at hG; cases hG
  refine lv_dup hx hb dX5_init_8 rfl ?_
  refine hs_callIN hC hs_Tok hW hL (ct_X3_init E _ q1 0 0 (hs_up_eq _ _ _) hq1s) cw_X3_init lk_X5_11 im_X3_init rfl hl.1 (by decide) (Nat.le_of_ble_eq_true rfl) dX5_init_9 (hs_kV (fun G1 k n H locs hI hk hn hW hL => ?_))
  obtain ⟨rfl, rfl, rfl⟩ := hI
  rw [hs_up_up] at hW
  refine hs_putF hC hW hL hi_X5 tyX5 tyX5_ok nmX5 rfl 3 (by decide) lk_X5_12 rfl rfl hin rfl ((hs_up_ne _ _ hqq1).trans hG) hq rfl rfl (Nat.le_of_ble_eq_true rfl) dX5_init_12 (fun H locs hW hL => ?_)
  replace hW : hs_W (eD E) vwCl (eH E) (hs_up (hs_up G q1 (.inr (4, [.int 0, .int 0]))) q (.inr (6, [.int 0, .int 0, .null, .ref q1, .null, .int 0, .int 0, .int 0, .int 0, .int 0, .int 0, .int 0, .null]))) H := hW
  refine lv_aload_n hx hb dX5_init_15 rfl (lv_at hl 0 rfl) ?_
  refine hs_new (ci := 4) hC hW hi_X3 tyX3 tyX3_ok lk_X5_9 ib_X3 ii_X3 rfl (fs := [.int 0, .int 0]) (by decide) (by decide) (by decide) dX5_init_16 (fun q2 H hq2s hfq2 hW => ?_)
  have hqq2 : q ≠ q2 := fun z => by rw [← z, hs_up_eq] at hfq2; cases hfq2
  have hq12 : q1 ≠ q2 := fun z => by rw [← z, hs_up_ne _ _ hqq1.symm, hs_up_eq] at hfq2; cases hfq2
  have hfq2b : G q2 = none := by rw [hs_up_ne _ _ hqq2.symm, hs_up_ne _ _ hq12.symm] at hfq2; exact hfq2
  refine lv_dup hx hb dX5_init_19 rfl ?_
  refine hs_callIN hC hs_Tok hW hL (ct_X3_init E _ q2 0 0 (hs_up_eq _ _ _) hq2s) cw_X3_init lk_X5_11 im_X3_init rfl hl.1 (by decide) (Nat.le_of_ble_eq_true rfl) dX5_init_20 (hs_kV (fun G1 k n H locs hI hk hn hW hL => ?_))
  obtain ⟨rfl, rfl, rfl⟩ := hI
  rw [hs_up_up, hs_up_sw _ hqq2] at hW
  refine hs_putF hC hW hL hi_X5 tyX5 tyX5_ok nmX5 rfl 4 (by decide) lk_X5_18 rfl rfl hin rfl (hs_up_eq _ _ _) hq rfl rfl (Nat.le_of_ble_eq_true rfl) dX5_init_23 (fun H locs hW hL => ?_)
  rw [hs_up_up] at hW
  refine lv_aload_n hx hb dX5_init_26 rfl (lv_at hl 0 rfl) ?_
  refine lv_iconst (v := 0) hx hb dX5_init_27 (by decide) ?_
  refine hs_put hC hW hL hi_X5 tyX5 tyX5_ok nmX5 rfl 5 (by decide) lk_X5_21 rfl rfl (hs_up_eq _ _ _) hq rfl rfl (Nat.le_of_ble_eq_true rfl) dX5_init_28 (fun H locs hW hL => ?_)
  rw [hs_up_up] at hW
  refine lv_aload_n hx hb dX5_init_31 rfl (lv_at hl 0 rfl) ?_
  refine lv_iconst (v := (-1)) hx hb dX5_init_32 (by decide) ?_
  refine hs_put hC hW hL hi_X5 tyX5 tyX5_ok nmX5 rfl 6 (by decide) lk_X5_25 rfl rfl (hs_up_eq _ _ _) hq rfl rfl (Nat.le_of_ble_eq_true rfl) dX5_init_33 (fun H locs hW hL => ?_)
  rw [hs_up_up] at hW
  refine lv_aload_n hx hb dX5_init_36 rfl (lv_at hl 0 rfl) ?_
  refine lv_iconst (v := 0) hx hb dX5_init_37 (by decide) ?_
  refine hs_put hC hW hL hi_X5 tyX5 tyX5_ok nmX5 rfl 9 (by decide) lk_X5_28 rfl rfl (hs_up_eq _ _ _) hq rfl rfl (Nat.le_of_ble_eq_true rfl) dX5_init_38 (fun H locs hW hL => ?_)
  rw [hs_up_up] at hW
  refine lv_aload_n hx hb dX5_init_41 rfl (lv_at hl 0 rfl) ?_
  refine lv_iconst (v := 1) hx hb dX5_init_42 (by decide) ?_
  refine hs_put hC hW hL hi_X5 tyX5 tyX5_ok nmX5 rfl 10 (by decide) lk_X5_31 rfl rfl (hs_up_eq _ _ _) hq rfl rfl (Nat.le_of_ble_eq_true rfl) dX5_init_43 (fun H locs hW hL => ?_)
  rw [hs_up_up] at hW
  refine lv_aload_n hx hb dX5_init_46 rfl (lv_at hl 0 rfl) ?_
  refine lv_iconst (v := 0) hx hb dX5_init_47 (by decide) ?_
  refine hs_put hC hW hL hi_X5 tyX5 tyX5_ok nmX5 rfl 11 (by decide) lk_X5_34 rfl rfl (hs_up_eq _ _ _) hq rfl rfl (Nat.le_of_ble_eq_true rfl) dX5_init_48 (fun H locs hW hL => ?_)
  rw [hs_up_up] at hW
  refine lv_aload_n hx hb dX5_init_51 rfl (lv_at hl 0 rfl) ?_
  refine lv_null hx hb dX5_init_52 ?_
  refine hs_put hC hW hL hi_X5 tyX5 tyX5_ok nmX5 rfl 12 (by decide) lk_X5_38 rfl rfl (hs_up_eq _ _ _) hq rfl rfl (Nat.le_of_ble_eq_true rfl) dX5_init_53 (fun H locs hW hL => ?_)
  rw [hs_up_up] at hW
  refine lv_aload_n hx hb dX5_init_56 rfl (lv_at hl 0 rfl) ?_
  refine lv_iload_n hx hb dX5_init_57 rfl (lv_at hl 1 rfl) ?_
  refine hs_putF hC hW hL hi_X5 tyX5 tyX5_ok nmX5 rfl 0 (by decide) lk_X5_42 rfl rfl hin rfl (hs_up_eq _ _ _) hq rfl rfl (Nat.le_of_ble_eq_true rfl) dX5_init_58 (fun H locs hW hL => ?_)
  rw [hs_up_up] at hW
  refine lv_aload_n hx hb dX5_init_61 rfl (lv_at hl 0 rfl) ?_
  refine lv_iload_n hx hb dX5_init_62 rfl (lv_at hl 2 rfl) ?_
  refine hs_putF hC hW hL hi_X5 tyX5 tyX5_ok nmX5 rfl 1 (by decide) lk_X5_45 rfl rfl hin rfl (hs_up_eq _ _ _) hq rfl rfl (Nat.le_of_ble_eq_true rfl) dX5_init_63 (fun H locs hW hL => ?_)
  rw [hs_up_up] at hW
  refine lv_aload_n hx hb dX5_init_66 rfl (lv_at hl 0 rfl) ?_
  refine lv_aload_n hx hb dX5_init_67 rfl (lv_at hl 3 rfl) ?_
  refine hs_putF hC hW hL hi_X5 tyX5 tyX5_ok nmX5 rfl 2 (by decide) lk_X5_48 rfl rfl hin rfl (hs_up_eq _ _ _) hq rfl rfl (Nat.le_of_ble_eq_true rfl) dX5_init_68 (fun H locs hW hL => ?_)
  rw [hs_up_up] at hW
  refine lv_aload_n hx hb dX5_init_71 rfl (lv_at hl 0 rfl) ?_
  refine lv_aload_n hx hb dX5_init_72 rfl (lv_at hl 3 rfl) ?_
  have ht1 : te1 ≠ q1 := fun z => by rw [z, hfq1] at hTe; cases hTe
  have ht2 : te1 ≠ q2 := fun z => by rw [z, hfq2b] at hTe; cases hTe
  refine hs_getN hC hW hi_X4 rfl 3 (by decide) lk_X5_52 rfl ((hs_up_ne _ _ htq).trans ((hs_up_ne _ _ ht2).trans ((hs_up_ne _ _ ht1).trans hTe))) rfl dX5_init_73 ?_
  refine hs_put hC hW hL hi_X5 tyX5 tyX5_ok nmX5 rfl 7 (by decide) lk_X5_57 rfl rfl (hs_up_eq _ _ _) hq rfl rfl (Nat.le_of_ble_eq_true rfl) dX5_init_76 (fun H locs hW hL => ?_)
  rw [hs_up_up] at hW
  refine lv_aload_n hx hb dX5_init_79 rfl (lv_at hl 0 rfl) ?_
  refine lv_aload_n hx hb dX5_init_80 rfl (lv_at hl 3 rfl) ?_
  refine hs_getN hC hW hi_X4 rfl 4 (by decide) lk_X5_60 rfl ((hs_up_ne _ _ htq).trans ((hs_up_ne _ _ ht2).trans ((hs_up_ne _ _ ht1).trans hTe))) rfl dX5_init_81 ?_
  refine hs_put hC hW hL hi_X5 tyX5 tyX5_ok nmX5 rfl 8 (by decide) lk_X5_63 rfl rfl (hs_up_eq _ _ _) hq rfl rfl (Nat.le_of_ble_eq_true rfl) dX5_init_84 (fun H locs hW hL => ?_)
  rw [hs_up_up] at hW
  exact hs_vret hC hW hL hr hlocks (by decide) (by decide) dX5_init_87 ⟨rfl, rfl, rfl, q1, q2, hfq1, hq1s, hfq2b, hq2s, hq12, hqq1.symm, hqq2.symm, rfl⟩
set_option maxHeartbeats 4000000 in
set_option maxRecDepth 100000 in
/-- Group -/
theorem ct_X1_init (E : hs_E) (G : hs_G) (q : Nat) (hG : G q = some (.inr (2, [.null]))) (hq : (eH E).size ≤ q) : hM E yX1_init ({ frames := 4, cells := 1, slots := 3, locals := 120 }) [.ref q] G (hs_V (fun G1 k n => k = 1 ∧ n = 3 ∧ ∃ L : Nat, G L = none ∧ (eH E).size ≤ L ∧ L ≠ q ∧ G1 = hs_up (hs_up G L (al_o 0 (eE E) (nI 0))) q (.inr (2, [.ref L])))) := by
  refine hs_ofW (cc := cX1_init) (maxL := 1) (ret := none) (by decide) co_X1_init ?_
  intro p e s m args below meth c hC hlocks hr hin0 hnoh hW
  obtain ⟨hx, hb, hml, hown, hts, -⟩ := id hC
  have hE := hW
  have hL : ∀ q ∈ ([] : List Loc), (eH E).size ≤ q.base := fun q hq => nomatch hq
  have hl := lv_entry ([.ref q] : List Value) (n := 1) (Nat.le_of_ble_eq_true rfl)
  rw [lg_entry_eq]
  generalize (lg_sl [.ref q] ++ List.replicate (1 - (lg_sl [.ref q]).length) Slot.unset).toArray = ls at hl ⊢
  have hl : lv_has ls 1 [(0, .ref q)] := hl
  have hin := hin0 rfl
  refine lv_aload_n hx hb dX1_init_0 rfl (lv_at hl 0 rfl) ?_
  refine W.objInit hx hb hown (hts _ lk_X1_1) (hts _ im_objectInit) (hts _ co_objectInit) rfl (by rw [hml]; exact hl.1) rfl dX1_init_1 (by decide) (Nat.le_of_ble_eq_true rfl) ?_
  refine W.eq (g2 := F0 m 4 ls _) rfl ?_
  refine lv_aload_n hx hb dX1_init_4 rfl (lv_at hl 0 rfl) ?_
  refine hs_new (ci := 0) hC hW hi_Jx4a65c tyJx4a65c tyJx4a65c_ok lk_X1_7 ib_Jx4a65c ii_Jx4a65c rfl (fs := [.int 0, .null, .int 0]) (by decide) (by decide) (by decide) dX1_init_5 (fun L9 H hL9s hfL9 hW => ?_)
  have hqL : q ≠ L9 := fun z => by rw [z, hfL9] at hG; cases hG
  refine lv_dup hx hb dX1_init_8 rfl ?_
  refine hs_callI hC hs_Tok hW hL (ct_alInit E _ L9 (hs_up_eq _ _ _) hL9s) cw_Jx4a65c_init_da8c8 lk_X1_9 im_Jx4a65c_init_da8c8 rfl hl.1 (by decide) (Nat.le_of_ble_eq_true rfl) dX1_init_9 (hs_kV (fun G1 k n H locs hI hk hn hW hL => ?_))
  obtain ⟨rfl, rfl, rfl⟩ := hI
  rw [hs_up_up] at hW
  refine hs_putF hC hW hL hi_X1 tyX1 tyX1_ok nmX1 rfl 0 (by decide) lk_X1_10 rfl rfl hin rfl ((hs_up_ne _ _ hqL).trans hG) hq rfl rfl (Nat.le_of_ble_eq_true rfl) dX1_init_12 (fun H locs hW hL => ?_)
  exact hs_vret hC hW hL hr hlocks (by decide) (by decide) dX1_init_15 ⟨rfl, rfl, rfl, L9, hfL9, hL9s, hqL.symm, rfl⟩
