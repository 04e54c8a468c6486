/-! the reference is made -/
theorem mi_all : ∀ k, mo_arr k = true ↔ k ∈ ([31, 30, 29, 27, 26, 25, 24, 22, 21, 20, 19, 18, 17, 16, 15, 14, 13, 12, 11, 10, 9, 8, 7, 6, 5, 3, 2] : List Nat) := by
  have h : ∀ k, k < 32 → (mo_arr k = true ↔ k ∈ ([31, 30, 29, 27, 26, 25, 24, 22, 21, 20, 19, 18, 17, 16, 15, 14, 13, 12, 11, 10, 9, 8, 7, 6, 5, 3, 2] : List Nat)) := by decide
  intro k
  rcases Nat.lt_or_ge k 32 with z | z
  · exact h k z
  · refine ⟨fun q => ?_, fun q => ?_⟩
    · simp only [mo_arr, Bool.and_eq_true, decide_eq_true_eq] at q
      omega
    · simp only [List.mem_cons, List.not_mem_nil, or_false] at q
      omega
theorem mi_0 {E : hs_E} {m : Nat} {fs : List Value} {G : hs_G} : hs_up G m (.inr (9, fs)) = mi_S E m [] fs G := by
  funext a
  by_cases e : a = m
  · subst e
    rw [hs_up_eq]
    simp [mi_S]
  · rw [hs_up_ne _ _ e]
    simp [mi_S, mi_x, e]
set_option maxHeartbeats 4000000 in
set_option maxRecDepth 100000 in
/-- Model -/
theorem ct_X8_init (E : hs_E) (mo : Nat) (G : hs_G) (hmn : (eH E).size ≤ mo) : hM E yX8_init ({ frames := 1, cells := 27, slots := 31146, locals := 30 }) [.ref mo] (mi_S E mo [] [.int 0, .int 0, .null, .null, .int 0, .null, .null, .null, .null, .null, .null, .null, .null, .null, .null, .null, .null, .null, .null, .null, .null, .null, .null, .int 0, .null, .null, .null, .null, .int 0, .null, .null, .null] G) (hs_V (fun G1 k n => k = 27 ∧ n = 31146 ∧ ∃ (ar : Nat → Nat) (ix : Nat → Option Nat), mo_ok E mo ar ix ∧ (∀ k, mo_arr k = true → G (ar k) = none) ∧ G1 = mo_W E mo ar ix (fun _ => 0) (fun _ _ => 0) (fun _ _ => 0) G)) := by
  refine hs_ofW (cc := cX8_init) (maxL := 1) (ret := none) (by decide) co_X8_init ?_
  intro p e s m args below meth c hC hlocks hr hin0 hnoh hW
  obtain ⟨hx, hb, hml, hown, hts, -⟩ := id hC
  have hE := hW
  have hL : ∀ q ∈ ([] : List Loc), (eH E).size ≤ q.base := fun q hq => nomatch hq
  have hl := lv_entry ([.ref mo] : List Value) (n := 1) (Nat.le_of_ble_eq_true rfl)
  rw [lg_entry_eq]
  generalize (lg_sl [.ref mo] ++ List.replicate (1 - (lg_sl [.ref mo]).length) Slot.unset).toArray = ls at hl ⊢
  have hl : lv_has ls 1 [(0, .ref mo)] := hl
  have hin := hin0 rfl
  have hok0 : mi_ok E mo [] G := ⟨List.nodup_nil, fun x hx => nomatch hx⟩
  refine lv_aload_n hx hb dX8_init_0 rfl (lv_at hl 0 rfl) ?_
  refine W.objInit hx hb hown (hts _ lk_X8_1) (hts _ im_objectInit) (hts _ co_objectInit) rfl (by rw [hml]; exact hl.1) rfl dX8_init_1 (by decide) (Nat.le_of_ble_eq_true rfl) ?_
  refine W.eq (g2 := F0 m 4 ls _) rfl ?_
  refine lv_aload_n hx hb dX8_init_4 rfl (lv_at hl 0 rfl) ?_
  refine lv_sipush (v := 20001) hx hb dX8_init_5 (by decide) ?_
  refine hs_newa (atype := .boolean) (ty := .boolean) hC hW ac_boolean rfl 2 rfl (fun _ h => h) (N' := 20001) (a0 := (20001, .inl (fun _ => 0))) (fun cA => by rw [vp_cell_i]; rfl) (by decide) (by decide) (by decide) (by decide) (by decide) dX8_init_8 (fun q2 H hs2 hf2 hW => ?_)
  have hok1 := hok0.cons 2 hf2 hs2
  replace hW : hs_W (eD E) vwCl (eH E) (hs_up (mi_S E mo [] [.int 0, .int 0, .null, .null, .int 0, .null, .null, .null, .null, .null, .null, .null, .null, .null, .null, .null, .null, .null, .null, .null, .null, .null, .null, .int 0, .null, .null, .null, .null, .int 0, .null, .null, .null] G) q2 (mo_cell E (fun _ _ => 0) (fun _ _ => 0) 2)) H := hW
  rw [mi_new 2 hf2] at hW
  refine hs_putF hC hW hL hi_X8 tyX8 tyX8_ok nmX8 rfl 2 (by decide) lk_X8_7 rfl rfl hin rfl mi_obj hmn rfl rfl (Nat.le_of_ble_eq_true rfl) dX8_init_10 (fun H locs hW hL => ?_)
  rw [mi_put] at hW
  replace hW : hs_W (eD E) vwCl (eH E) (mi_S E mo [(q2, 2)] [.int 0, .int 0, .ref q2, .null, .int 0, .null, .null, .null, .null, .null, .null, .null, .null, .null, .null, .null, .null, .null, .null, .null, .null, .null, .null, .int 0, .null, .null, .null, .null, .int 0, .null, .null, .null] G) H := hW
  refine lv_aload_n hx hb dX8_init_13 rfl (lv_at hl 0 rfl) ?_
  refine lv_sipush (v := 144) hx hb dX8_init_14 (by decide) ?_
  refine hs_newa (atype := .long) (ty := .long) hC hW ac_long rfl 1 rfl (fun _ h => h) (N' := 144) (a0 := (144, .inr (.inl (fun _ => 0)))) (fun cA => by rw [vp_cell_l]; rfl) (by decide) (by decide) (by decide) (by decide) (by decide) dX8_init_17 (fun q3 H hs3 hf3 hW => ?_)
  have hok2 := hok1.cons 3 hf3 hs3
  replace hW : hs_W (eD E) vwCl (eH E) (hs_up (mi_S E mo [(q2, 2)] [.int 0, .int 0, .ref q2, .null, .int 0, .null, .null, .null, .null, .null, .null, .null, .null, .null, .null, .null, .null, .null, .null, .null, .null, .null, .null, .int 0, .null, .null, .null, .null, .int 0, .null, .null, .null] G) q3 (mo_cell E (fun _ _ => 0) (fun _ _ => 0) 3)) H := hW
  rw [mi_new 3 hf3] at hW
  refine hs_putF hC hW hL hi_X8 tyX8 tyX8_ok nmX8 rfl 3 (by decide) lk_X8_13 rfl rfl hin rfl mi_obj hmn rfl rfl (Nat.le_of_ble_eq_true rfl) dX8_init_19 (fun H locs hW hL => ?_)
  rw [mi_put] at hW
  replace hW : hs_W (eD E) vwCl (eH E) (mi_S E mo [(q3, 3), (q2, 2)] [.int 0, .int 0, .ref q2, .ref q3, .int 0, .null, .null, .null, .null, .null, .null, .null, .null, .null, .null, .null, .null, .null, .null, .null, .null, .null, .null, .int 0, .null, .null, .null, .null, .int 0, .null, .null, .null] G) H := hW
  refine lv_aload_n hx hb dX8_init_22 rfl (lv_at hl 0 rfl) ?_
  refine lv_sipush (v := 150) hx hb dX8_init_23 (by decide) ?_
  refine hs_newa (atype := .int) (ty := .int) hC hW ac_int rfl 0 rfl (fun _ h => h) (N' := 150) (a0 := (150, .inl (fun _ => 0))) (fun cA => by rw [vp_cell_i]; rfl) (by decide) (by decide) (by decide) (by decide) (by decide) dX8_init_26 (fun q5 H hs5 hf5 hW => ?_)
  have hok3 := hok2.cons 5 hf5 hs5
  replace hW : hs_W (eD E) vwCl (eH E) (hs_up (mi_S E mo [(q3, 3), (q2, 2)] [.int 0, .int 0, .ref q2, .ref q3, .int 0, .null, .null, .null, .null, .null, .null, .null, .null, .null, .null, .null, .null, .null, .null, .null, .null, .null, .null, .int 0, .null, .null, .null, .null, .int 0, .null, .null, .null] G) q5 (mo_cell E (fun _ _ => 0) (fun _ _ => 0) 5)) H := hW
  rw [mi_new 5 hf5] at hW
  refine hs_putF hC hW hL hi_X8 tyX8 tyX8_ok nmX8 rfl 5 (by decide) lk_X8_17 rfl rfl hin rfl mi_obj hmn rfl rfl (Nat.le_of_ble_eq_true rfl) dX8_init_28 (fun H locs hW hL => ?_)
  rw [mi_put] at hW
  replace hW : hs_W (eD E) vwCl (eH E) (mi_S E mo [(q5, 5), (q3, 3), (q2, 2)] [.int 0, .int 0, .ref q2, .ref q3, .int 0, .ref q5, .null, .null, .null, .null, .null, .null, .null, .null, .null, .null, .null, .null, .null, .null, .null, .null, .null, .int 0, .null, .null, .null, .null, .int 0, .null, .null, .null] G) H := hW
  refine lv_aload_n hx hb dX8_init_31 rfl (lv_at hl 0 rfl) ?_
  refine lv_sipush (v := 150) hx hb dX8_init_32 (by decide) ?_
  refine hs_newa (atype := .int) (ty := .int) hC hW ac_int rfl 0 rfl (fun _ h => h) (N' := 150) (a0 := (150, .inl (fun _ => 0))) (fun cA => by rw [vp_cell_i]; rfl) (by decide) (by decide) (by decide) (by decide) (by decide) dX8_init_35 (fun q6 H hs6 hf6 hW => ?_)
  have hok4 := hok3.cons 6 hf6 hs6
  replace hW : hs_W (eD E) vwCl (eH E) (hs_up (mi_S E mo [(q5, 5), (q3, 3), (q2, 2)] [.int 0, .int 0, .ref q2, .ref q3, .int 0, .ref q5, .null, .null, .null, .null, .null, .null, .null, .null, .null, .null, .null, .null, .null, .null, .null, .null, .null, .int 0, .null, .null, .null, .null, .int 0, .null, .null, .null] G) q6 (mo_cell E (fun _ _ => 0) (fun _ _ => 0) 6)) H := hW
  rw [mi_new 6 hf6] at hW
  refine hs_putF hC hW hL hi_X8 tyX8 tyX8_ok nmX8 rfl 6 (by decide) lk_X8_21 rfl rfl hin rfl mi_obj hmn rfl rfl (Nat.le_of_ble_eq_true rfl) dX8_init_37 (fun H locs hW hL => ?_)
  rw [mi_put] at hW
  replace hW : hs_W (eD E) vwCl (eH E) (mi_S E mo [(q6, 6), (q5, 5), (q3, 3), (q2, 2)] [.int 0, .int 0, .ref q2, .ref q3, .int 0, .ref q5, .ref q6, .null, .null, .null, .null, .null, .null, .null, .null, .null, .null, .null, .null, .null, .null, .null, .null, .int 0, .null, .null, .null, .null, .int 0, .null, .null, .null] G) H := hW
  refine lv_aload_n hx hb dX8_init_40 rfl (lv_at hl 0 rfl) ?_
  refine lv_sipush (v := 150) hx hb dX8_init_41 (by decide) ?_
  refine hs_newa (atype := .int) (ty := .int) hC hW ac_int rfl 0 rfl (fun _ h => h) (N' := 150) (a0 := (150, .inl (fun _ => 0))) (fun cA => by rw [vp_cell_i]; rfl) (by decide) (by decide) (by decide) (by decide) (by decide) dX8_init_44 (fun q7 H hs7 hf7 hW => ?_)
  have hok5 := hok4.cons 7 hf7 hs7
  replace hW : hs_W (eD E) vwCl (eH E) (hs_up (mi_S E mo [(q6, 6), (q5, 5), (q3, 3), (q2, 2)] [.int 0, .int 0, .ref q2, .ref q3, .int 0, .ref q5, .ref q6, .null, .null, .null, .null, .null, .null, .null, .null, .null, .null, .null, .null, .null, .null, .null, .null, .int 0, .null, .null, .null, .null, .int 0, .null, .null, .null] G) q7 (mo_cell E (fun _ _ => 0) (fun _ _ => 0) 7)) H := hW
  rw [mi_new 7 hf7] at hW
  refine hs_putF hC hW hL hi_X8 tyX8 tyX8_ok nmX8 rfl 7 (by decide) lk_X8_24 rfl rfl hin rfl mi_obj hmn rfl rfl (Nat.le_of_ble_eq_true rfl) dX8_init_46 (fun H locs hW hL => ?_)
  rw [mi_put] at hW
  replace hW : hs_W (eD E) vwCl (eH E) (mi_S E mo [(q7, 7), (q6, 6), (q5, 5), (q3, 3), (q2, 2)] [.int 0, .int 0, .ref q2, .ref q3, .int 0, .ref q5, .ref q6, .ref q7, .null, .null, .null, .null, .null, .null, .null, .null, .null, .null, .null, .null, .null, .null, .null, .int 0, .null, .null, .null, .null, .int 0, .null, .null, .null] G) H := hW
  refine lv_aload_n hx hb dX8_init_49 rfl (lv_at hl 0 rfl) ?_
  refine lv_sipush (v := 150) hx hb dX8_init_50 (by decide) ?_
  refine hs_newa (atype := .int) (ty := .int) hC hW ac_int rfl 0 rfl (fun _ h => h) (N' := 150) (a0 := (150, .inl (fun _ => 0))) (fun cA => by rw [vp_cell_i]; rfl) (by decide) (by decide) (by decide) (by decide) (by decide) dX8_init_53 (fun q8 H hs8 hf8 hW => ?_)
  have hok6 := hok5.cons 8 hf8 hs8
  replace hW : hs_W (eD E) vwCl (eH E) (hs_up (mi_S E mo [(q7, 7), (q6, 6), (q5, 5), (q3, 3), (q2, 2)] [.int 0, .int 0, .ref q2, .ref q3, .int 0, .ref q5, .ref q6, .ref q7, .null, .null, .null, .null, .null, .null, .null, .null, .null, .null, .null, .null, .null, .null, .null, .int 0, .null, .null, .null, .null, .int 0, .null, .null, .null] G) q8 (mo_cell E (fun _ _ => 0) (fun _ _ => 0) 8)) H := hW
  rw [mi_new 8 hf8] at hW
  refine hs_putF hC hW hL hi_X8 tyX8 tyX8_ok nmX8 rfl 8 (by decide) lk_X8_27 rfl rfl hin rfl mi_obj hmn rfl rfl (Nat.le_of_ble_eq_true rfl) dX8_init_55 (fun H locs hW hL => ?_)
  rw [mi_put] at hW
  replace hW : hs_W (eD E) vwCl (eH E) (mi_S E mo [(q8, 8), (q7, 7), (q6, 6), (q5, 5), (q3, 3), (q2, 2)] [.int 0, .int 0, .ref q2, .ref q3, .int 0, .ref q5, .ref q6, .ref q7, .ref q8, .null, .null, .null, .null, .null, .null, .null, .null, .null, .null, .null, .null, .null, .null, .int 0, .null, .null, .null, .null, .int 0, .null, .null, .null] G) H := hW
  refine lv_aload_n hx hb dX8_init_58 rfl (lv_at hl 0 rfl) ?_
  refine lv_sipush (v := 150) hx hb dX8_init_59 (by decide) ?_
  refine hs_newa (atype := .int) (ty := .int) hC hW ac_int rfl 0 rfl (fun _ h => h) (N' := 150) (a0 := (150, .inl (fun _ => 0))) (fun cA => by rw [vp_cell_i]; rfl) (by decide) (by decide) (by decide) (by decide) (by decide) dX8_init_62 (fun q9 H hs9 hf9 hW => ?_)
  have hok7 := hok6.cons 9 hf9 hs9
  replace hW : hs_W (eD E) vwCl (eH E) (hs_up (mi_S E mo [(q8, 8), (q7, 7), (q6, 6), (q5, 5), (q3, 3), (q2, 2)] [.int 0, .int 0, .ref q2, .ref q3, .int 0, .ref q5, .ref q6, .ref q7, .ref q8, .null, .null, .null, .null, .null, .null, .null, .null, .null, .null, .null, .null, .null, .null, .int 0, .null, .null, .null, .null, .int 0, .null, .null, .null] G) q9 (mo_cell E (fun _ _ => 0) (fun _ _ => 0) 9)) H := hW
  rw [mi_new 9 hf9] at hW
  refine hs_putF hC hW hL hi_X8 tyX8 tyX8_ok nmX8 rfl 9 (by decide) lk_X8_30 rfl rfl hin rfl mi_obj hmn rfl rfl (Nat.le_of_ble_eq_true rfl) dX8_init_64 (fun H locs hW hL => ?_)
  rw [mi_put] at hW
  replace hW : hs_W (eD E) vwCl (eH E) (mi_S E mo [(q9, 9), (q8, 8), (q7, 7), (q6, 6), (q5, 5), (q3, 3), (q2, 2)] [.int 0, .int 0, .ref q2, .ref q3, .int 0, .ref q5, .ref q6, .ref q7, .ref q8, .ref q9, .null, .null, .null, .null, .null, .null, .null, .null, .null, .null, .null, .null, .null, .int 0, .null, .null, .null, .null, .int 0, .null, .null, .null] G) H := hW
  refine lv_aload_n hx hb dX8_init_67 rfl (lv_at hl 0 rfl) ?_
  refine lv_sipush (v := 150) hx hb dX8_init_68 (by decide) ?_
  refine hs_newa (atype := .int) (ty := .int) hC hW ac_int rfl 0 rfl (fun _ h => h) (N' := 150) (a0 := (150, .inl (fun _ => 0))) (fun cA => by rw [vp_cell_i]; rfl) (by decide) (by decide) (by decide) (by decide) (by decide) dX8_init_71 (fun q10 H hs10 hf10 hW => ?_)
  have hok8 := hok7.cons 10 hf10 hs10
  replace hW : hs_W (eD E) vwCl (eH E) (hs_up (mi_S E mo [(q9, 9), (q8, 8), (q7, 7), (q6, 6), (q5, 5), (q3, 3), (q2, 2)] [.int 0, .int 0, .ref q2, .ref q3, .int 0, .ref q5, .ref q6, .ref q7, .ref q8, .ref q9, .null, .null, .null, .null, .null, .null, .null, .null, .null, .null, .null, .null, .null, .int 0, .null, .null, .null, .null, .int 0, .null, .null, .null] G) q10 (mo_cell E (fun _ _ => 0) (fun _ _ => 0) 10)) H := hW
  rw [mi_new 10 hf10] at hW
  refine hs_putF hC hW hL hi_X8 tyX8 tyX8_ok nmX8 rfl 10 (by decide) lk_X8_33 rfl rfl hin rfl mi_obj hmn rfl rfl (Nat.le_of_ble_eq_true rfl) dX8_init_73 (fun H locs hW hL => ?_)
  rw [mi_put] at hW
  replace hW : hs_W (eD E) vwCl (eH E) (mi_S E mo [(q10, 10), (q9, 9), (q8, 8), (q7, 7), (q6, 6), (q5, 5), (q3, 3), (q2, 2)] [.int 0, .int 0, .ref q2, .ref q3, .int 0, .ref q5, .ref q6, .ref q7, .ref q8, .ref q9, .ref q10, .null, .null, .null, .null, .null, .null, .null, .null, .null, .null, .null, .null, .int 0, .null, .null, .null, .null, .int 0, .null, .null, .null] G) H := hW
  refine lv_aload_n hx hb dX8_init_76 rfl (lv_at hl 0 rfl) ?_
  refine lv_sipush (v := 150) hx hb dX8_init_77 (by decide) ?_
  refine hs_newa (atype := .int) (ty := .int) hC hW ac_int rfl 0 rfl (fun _ h => h) (N' := 150) (a0 := (150, .inl (fun _ => 0))) (fun cA => by rw [vp_cell_i]; rfl) (by decide) (by decide) (by decide) (by decide) (by decide) dX8_init_80 (fun q11 H hs11 hf11 hW => ?_)
  have hok9 := hok8.cons 11 hf11 hs11
  replace hW : hs_W (eD E) vwCl (eH E) (hs_up (mi_S E mo [(q10, 10), (q9, 9), (q8, 8), (q7, 7), (q6, 6), (q5, 5), (q3, 3), (q2, 2)] [.int 0, .int 0, .ref q2, .ref q3, .int 0, .ref q5, .ref q6, .ref q7, .ref q8, .ref q9, .ref q10, .null, .null, .null, .null, .null, .null, .null, .null, .null, .null, .null, .null, .int 0, .null, .null, .null, .null, .int 0, .null, .null, .null] G) q11 (mo_cell E (fun _ _ => 0) (fun _ _ => 0) 11)) H := hW
  rw [mi_new 11 hf11] at hW
  refine hs_putF hC hW hL hi_X8 tyX8 tyX8_ok nmX8 rfl 11 (by decide) lk_X8_36 rfl rfl hin rfl mi_obj hmn rfl rfl (Nat.le_of_ble_eq_true rfl) dX8_init_82 (fun H locs hW hL => ?_)
  rw [mi_put] at hW
  replace hW : hs_W (eD E) vwCl (eH E) (mi_S E mo [(q11, 11), (q10, 10), (q9, 9), (q8, 8), (q7, 7), (q6, 6), (q5, 5), (q3, 3), (q2, 2)] [.int 0, .int 0, .ref q2, .ref q3, .int 0, .ref q5, .ref q6, .ref q7, .ref q8, .ref q9, .ref q10, .ref q11, .null, .null, .null, .null, .null, .null, .null, .null, .null, .null, .null, .int 0, .null, .null, .null, .null, .int 0, .null, .null, .null] G) H := hW
  refine lv_aload_n hx hb dX8_init_85 rfl (lv_at hl 0 rfl) ?_
  refine lv_sipush (v := 150) hx hb dX8_init_86 (by decide) ?_
  refine hs_newa (atype := .int) (ty := .int) hC hW ac_int rfl 0 rfl (fun _ h => h) (N' := 150) (a0 := (150, .inl (fun _ => 0))) (fun cA => by rw [vp_cell_i]; rfl) (by decide) (by decide) (by decide) (by decide) (by decide) dX8_init_89 (fun q12 H hs12 hf12 hW => ?_)
  have hok10 := hok9.cons 12 hf12 hs12
  replace hW : hs_W (eD E) vwCl (eH E) (hs_up (mi_S E mo [(q11, 11), (q10, 10), (q9, 9), (q8, 8), (q7, 7), (q6, 6), (q5, 5), (q3, 3), (q2, 2)] [.int 0, .int 0, .ref q2, .ref q3, .int 0, .ref q5, .ref q6, .ref q7, .ref q8, .ref q9, .ref q10, .ref q11, .null, .null, .null, .null, .null, .null, .null, .null, .null, .null, .null, .int 0, .null, .null, .null, .null, .int 0, .null, .null, .null] G) q12 (mo_cell E (fun _ _ => 0) (fun _ _ => 0) 12)) H := hW
  rw [mi_new 12 hf12] at hW
  refine hs_putF hC hW hL hi_X8 tyX8 tyX8_ok nmX8 rfl 12 (by decide) lk_X8_39 rfl rfl hin rfl mi_obj hmn rfl rfl (Nat.le_of_ble_eq_true rfl) dX8_init_91 (fun H locs hW hL => ?_)
  rw [mi_put] at hW
  replace hW : hs_W (eD E) vwCl (eH E) (mi_S E mo [(q12, 12), (q11, 11), (q10, 10), (q9, 9), (q8, 8), (q7, 7), (q6, 6), (q5, 5), (q3, 3), (q2, 2)] [.int 0, .int 0, .ref q2, .ref q3, .int 0, .ref q5, .ref q6, .ref q7, .ref q8, .ref q9, .ref q10, .ref q11, .ref q12, .null, .null, .null, .null, .null, .null, .null, .null, .null, .null, .int 0, .null, .null, .null, .null, .int 0, .null, .null, .null] G) H := hW
  refine lv_aload_n hx hb dX8_init_94 rfl (lv_at hl 0 rfl) ?_
  refine lv_sipush (v := 150) hx hb dX8_init_95 (by decide) ?_
  refine hs_newa (atype := .int) (ty := .int) hC hW ac_int rfl 0 rfl (fun _ h => h) (N' := 150) (a0 := (150, .inl (fun _ => 0))) (fun cA => by rw [vp_cell_i]; rfl) (by decide) (by decide) (by decide) (by decide) (by decide) dX8_init_98 (fun q13 H hs13 hf13 hW => ?_)
  have hok11 := hok10.cons 13 hf13 hs13
  replace hW : hs_W (eD E) vwCl (eH E) (hs_up (mi_S E mo [(q12, 12), (q11, 11), (q10, 10), (q9, 9), (q8, 8), (q7, 7), (q6, 6), (q5, 5), (q3, 3), (q2, 2)] [.int 0, .int 0, .ref q2, .ref q3, .int 0, .ref q5, .ref q6, .ref q7, .ref q8, .ref q9, .ref q10, .ref q11, .ref q12, .null, .null, .null, .null, .null, .null, .null, .null, .null, .null, .int 0, .null, .null, .null, .null, .int 0, .null, .null, .null] G) q13 (mo_cell E (fun _ _ => 0) (fun _ _ => 0) 13)) H := hW
  rw [mi_new 13 hf13] at hW
  refine hs_putF hC hW hL hi_X8 tyX8 tyX8_ok nmX8 rfl 13 (by decide) lk_X8_42 rfl rfl hin rfl mi_obj hmn rfl rfl (Nat.le_of_ble_eq_true rfl) dX8_init_100 (fun H locs hW hL => ?_)
  rw [mi_put] at hW
  replace hW : hs_W (eD E) vwCl (eH E) (mi_S E mo [(q13, 13), (q12, 12), (q11, 11), (q10, 10), (q9, 9), (q8, 8), (q7, 7), (q6, 6), (q5, 5), (q3, 3), (q2, 2)] [.int 0, .int 0, .ref q2, .ref q3, .int 0, .ref q5, .ref q6, .ref q7, .ref q8, .ref q9, .ref q10, .ref q11, .ref q12, .ref q13, .null, .null, .null, .null, .null, .null, .null, .null, .null, .int 0, .null, .null, .null, .null, .int 0, .null, .null, .null] G) H := hW
  refine lv_aload_n hx hb dX8_init_103 rfl (lv_at hl 0 rfl) ?_
  refine lv_sipush (v := 150) hx hb dX8_init_104 (by decide) ?_
  refine hs_newa (atype := .int) (ty := .int) hC hW ac_int rfl 0 rfl (fun _ h => h) (N' := 150) (a0 := (150, .inl (fun _ => 0))) (fun cA => by rw [vp_cell_i]; rfl) (by decide) (by decide) (by decide) (by decide) (by decide) dX8_init_107 (fun q14 H hs14 hf14 hW => ?_)
  have hok12 := hok11.cons 14 hf14 hs14
  replace hW : hs_W (eD E) vwCl (eH E) (hs_up (mi_S E mo [(q13, 13), (q12, 12), (q11, 11), (q10, 10), (q9, 9), (q8, 8), (q7, 7), (q6, 6), (q5, 5), (q3, 3), (q2, 2)] [.int 0, .int 0, .ref q2, .ref q3, .int 0, .ref q5, .ref q6, .ref q7, .ref q8, .ref q9, .ref q10, .ref q11, .ref q12, .ref q13, .null, .null, .null, .null, .null, .null, .null, .null, .null, .int 0, .null, .null, .null, .null, .int 0, .null, .null, .null] G) q14 (mo_cell E (fun _ _ => 0) (fun _ _ => 0) 14)) H := hW
  rw [mi_new 14 hf14] at hW
  refine hs_putF hC hW hL hi_X8 tyX8 tyX8_ok nmX8 rfl 14 (by decide) lk_X8_45 rfl rfl hin rfl mi_obj hmn rfl rfl (Nat.le_of_ble_eq_true rfl) dX8_init_109 (fun H locs hW hL => ?_)
  rw [mi_put] at hW
  replace hW : hs_W (eD E) vwCl (eH E) (mi_S E mo [(q14, 14), (q13, 13), (q12, 12), (q11, 11), (q10, 10), (q9, 9), (q8, 8), (q7, 7), (q6, 6), (q5, 5), (q3, 3), (q2, 2)] [.int 0, .int 0, .ref q2, .ref q3, .int 0, .ref q5, .ref q6, .ref q7, .ref q8, .ref q9, .ref q10, .ref q11, .ref q12, .ref q13, .ref q14, .null, .null, .null, .null, .null, .null, .null, .null, .int 0, .null, .null, .null, .null, .int 0, .null, .null, .null] G) H := hW
  refine lv_aload_n hx hb dX8_init_112 rfl (lv_at hl 0 rfl) ?_
  refine lv_sipush (v := 150) hx hb dX8_init_113 (by decide) ?_
  refine hs_newa (atype := .int) (ty := .int) hC hW ac_int rfl 0 rfl (fun _ h => h) (N' := 150) (a0 := (150, .inl (fun _ => 0))) (fun cA => by rw [vp_cell_i]; rfl) (by decide) (by decide) (by decide) (by decide) (by decide) dX8_init_116 (fun q15 H hs15 hf15 hW => ?_)
  have hok13 := hok12.cons 15 hf15 hs15
  replace hW : hs_W (eD E) vwCl (eH E) (hs_up (mi_S E mo [(q14, 14), (q13, 13), (q12, 12), (q11, 11), (q10, 10), (q9, 9), (q8, 8), (q7, 7), (q6, 6), (q5, 5), (q3, 3), (q2, 2)] [.int 0, .int 0, .ref q2, .ref q3, .int 0, .ref q5, .ref q6, .ref q7, .ref q8, .ref q9, .ref q10, .ref q11, .ref q12, .ref q13, .ref q14, .null, .null, .null, .null, .null, .null, .null, .null, .int 0, .null, .null, .null, .null, .int 0, .null, .null, .null] G) q15 (mo_cell E (fun _ _ => 0) (fun _ _ => 0) 15)) H := hW
  rw [mi_new 15 hf15] at hW
  refine hs_putF hC hW hL hi_X8 tyX8 tyX8_ok nmX8 rfl 15 (by decide) lk_X8_48 rfl rfl hin rfl mi_obj hmn rfl rfl (Nat.le_of_ble_eq_true rfl) dX8_init_118 (fun H locs hW hL => ?_)
  rw [mi_put] at hW
  replace hW : hs_W (eD E) vwCl (eH E) (mi_S E mo [(q15, 15), (q14, 14), (q13, 13), (q12, 12), (q11, 11), (q10, 10), (q9, 9), (q8, 8), (q7, 7), (q6, 6), (q5, 5), (q3, 3), (q2, 2)] [.int 0, .int 0, .ref q2, .ref q3, .int 0, .ref q5, .ref q6, .ref q7, .ref q8, .ref q9, .ref q10, .ref q11, .ref q12, .ref q13, .ref q14, .ref q15, .null, .null, .null, .null, .null, .null, .null, .int 0, .null, .null, .null, .null, .int 0, .null, .null, .null] G) H := hW
  refine lv_aload_n hx hb dX8_init_121 rfl (lv_at hl 0 rfl) ?_
  refine lv_sipush (v := 150) hx hb dX8_init_122 (by decide) ?_
  refine hs_newa (atype := .int) (ty := .int) hC hW ac_int rfl 0 rfl (fun _ h => h) (N' := 150) (a0 := (150, .inl (fun _ => 0))) (fun cA => by rw [vp_cell_i]; rfl) (by decide) (by decide) (by decide) (by decide) (by decide) dX8_init_125 (fun q16 H hs16 hf16 hW => ?_)
  have hok14 := hok13.cons 16 hf16 hs16
  replace hW : hs_W (eD E) vwCl (eH E) (hs_up (mi_S E mo [(q15, 15), (q14, 14), (q13, 13), (q12, 12), (q11, 11), (q10, 10), (q9, 9), (q8, 8), (q7, 7), (q6, 6), (q5, 5), (q3, 3), (q2, 2)] [.int 0, .int 0, .ref q2, .ref q3, .int 0, .ref q5, .ref q6, .ref q7, .ref q8, .ref q9, .ref q10, .ref q11, .ref q12, .ref q13, .ref q14, .ref q15, .null, .null, .null, .null, .null, .null, .null, .int 0, .null, .null, .null, .null, .int 0, .null, .null, .null] G) q16 (mo_cell E (fun _ _ => 0) (fun _ _ => 0) 16)) H := hW
  rw [mi_new 16 hf16] at hW
  refine hs_putF hC hW hL hi_X8 tyX8 tyX8_ok nmX8 rfl 16 (by decide) lk_X8_51 rfl rfl hin rfl mi_obj hmn rfl rfl (Nat.le_of_ble_eq_true rfl) dX8_init_127 (fun H locs hW hL => ?_)
  rw [mi_put] at hW
  replace hW : hs_W (eD E) vwCl (eH E) (mi_S E mo [(q16, 16), (q15, 15), (q14, 14), (q13, 13), (q12, 12), (q11, 11), (q10, 10), (q9, 9), (q8, 8), (q7, 7), (q6, 6), (q5, 5), (q3, 3), (q2, 2)] [.int 0, .int 0, .ref q2, .ref q3, .int 0, .ref q5, .ref q6, .ref q7, .ref q8, .ref q9, .ref q10, .ref q11, .ref q12, .ref q13, .ref q14, .ref q15, .ref q16, .null, .null, .null, .null, .null, .null, .int 0, .null, .null, .null, .null, .int 0, .null, .null, .null] G) H := hW
  refine lv_aload_n hx hb dX8_init_130 rfl (lv_at hl 0 rfl) ?_
  refine lv_sipush (v := 150) hx hb dX8_init_131 (by decide) ?_
  refine hs_newa (atype := .int) (ty := .int) hC hW ac_int rfl 0 rfl (fun _ h => h) (N' := 150) (a0 := (150, .inl (fun _ => 0))) (fun cA => by rw [vp_cell_i]; rfl) (by decide) (by decide) (by decide) (by decide) (by decide) dX8_init_134 (fun q17 H hs17 hf17 hW => ?_)
  have hok15 := hok14.cons 17 hf17 hs17
  replace hW : hs_W (eD E) vwCl (eH E) (hs_up (mi_S E mo [(q16, 16), (q15, 15), (q14, 14), (q13, 13), (q12, 12), (q11, 11), (q10, 10), (q9, 9), (q8, 8), (q7, 7), (q6, 6), (q5, 5), (q3, 3), (q2, 2)] [.int 0, .int 0, .ref q2, .ref q3, .int 0, .ref q5, .ref q6, .ref q7, .ref q8, .ref q9, .ref q10, .ref q11, .ref q12, .ref q13, .ref q14, .ref q15, .ref q16, .null, .null, .null, .null, .null, .null, .int 0, .null, .null, .null, .null, .int 0, .null, .null, .null] G) q17 (mo_cell E (fun _ _ => 0) (fun _ _ => 0) 17)) H := hW
  rw [mi_new 17 hf17] at hW
  refine hs_putF hC hW hL hi_X8 tyX8 tyX8_ok nmX8 rfl 17 (by decide) lk_X8_54 rfl rfl hin rfl mi_obj hmn rfl rfl (Nat.le_of_ble_eq_true rfl) dX8_init_136 (fun H locs hW hL => ?_)
  rw [mi_put] at hW
  replace hW : hs_W (eD E) vwCl (eH E) (mi_S E mo [(q17, 17), (q16, 16), (q15, 15), (q14, 14), (q13, 13), (q12, 12), (q11, 11), (q10, 10), (q9, 9), (q8, 8), (q7, 7), (q6, 6), (q5, 5), (q3, 3), (q2, 2)] [.int 0, .int 0, .ref q2, .ref q3, .int 0, .ref q5, .ref q6, .ref q7, .ref q8, .ref q9, .ref q10, .ref q11, .ref q12, .ref q13, .ref q14, .ref q15, .ref q16, .ref q17, .null, .null, .null, .null, .null, .int 0, .null, .null, .null, .null, .int 0, .null, .null, .null] G) H := hW
  refine lv_aload_n hx hb dX8_init_139 rfl (lv_at hl 0 rfl) ?_
  refine lv_sipush (v := 150) hx hb dX8_init_140 (by decide) ?_
  refine hs_newa (atype := .int) (ty := .int) hC hW ac_int rfl 0 rfl (fun _ h => h) (N' := 150) (a0 := (150, .inl (fun _ => 0))) (fun cA => by rw [vp_cell_i]; rfl) (by decide) (by decide) (by decide) (by decide) (by decide) dX8_init_143 (fun q18 H hs18 hf18 hW => ?_)
  have hok16 := hok15.cons 18 hf18 hs18
  replace hW : hs_W (eD E) vwCl (eH E) (hs_up (mi_S E mo [(q17, 17), (q16, 16), (q15, 15), (q14, 14), (q13, 13), (q12, 12), (q11, 11), (q10, 10), (q9, 9), (q8, 8), (q7, 7), (q6, 6), (q5, 5), (q3, 3), (q2, 2)] [.int 0, .int 0, .ref q2, .ref q3, .int 0, .ref q5, .ref q6, .ref q7, .ref q8, .ref q9, .ref q10, .ref q11, .ref q12, .ref q13, .ref q14, .ref q15, .ref q16, .ref q17, .null, .null, .null, .null, .null, .int 0, .null, .null, .null, .null, .int 0, .null, .null, .null] G) q18 (mo_cell E (fun _ _ => 0) (fun _ _ => 0) 18)) H := hW
  rw [mi_new 18 hf18] at hW
  refine hs_putF hC hW hL hi_X8 tyX8 tyX8_ok nmX8 rfl 18 (by decide) lk_X8_57 rfl rfl hin rfl mi_obj hmn rfl rfl (Nat.le_of_ble_eq_true rfl) dX8_init_145 (fun H locs hW hL => ?_)
  rw [mi_put] at hW
  replace hW : hs_W (eD E) vwCl (eH E) (mi_S E mo [(q18, 18), (q17, 17), (q16, 16), (q15, 15), (q14, 14), (q13, 13), (q12, 12), (q11, 11), (q10, 10), (q9, 9), (q8, 8), (q7, 7), (q6, 6), (q5, 5), (q3, 3), (q2, 2)] [.int 0, .int 0, .ref q2, .ref q3, .int 0, .ref q5, .ref q6, .ref q7, .ref q8, .ref q9, .ref q10, .ref q11, .ref q12, .ref q13, .ref q14, .ref q15, .ref q16, .ref q17, .ref q18, .null, .null, .null, .null, .int 0, .null, .null, .null, .null, .int 0, .null, .null, .null] G) H := hW
  refine lv_aload_n hx hb dX8_init_148 rfl (lv_at hl 0 rfl) ?_
  refine lv_sipush (v := 150) hx hb dX8_init_149 (by decide) ?_
  refine hs_newa (atype := .int) (ty := .int) hC hW ac_int rfl 0 rfl (fun _ h => h) (N' := 150) (a0 := (150, .inl (fun _ => 0))) (fun cA => by rw [vp_cell_i]; rfl) (by decide) (by decide) (by decide) (by decide) (by decide) dX8_init_152 (fun q19 H hs19 hf19 hW => ?_)
  have hok17 := hok16.cons 19 hf19 hs19
  replace hW : hs_W (eD E) vwCl (eH E) (hs_up (mi_S E mo [(q18, 18), (q17, 17), (q16, 16), (q15, 15), (q14, 14), (q13, 13), (q12, 12), (q11, 11), (q10, 10), (q9, 9), (q8, 8), (q7, 7), (q6, 6), (q5, 5), (q3, 3), (q2, 2)] [.int 0, .int 0, .ref q2, .ref q3, .int 0, .ref q5, .ref q6, .ref q7, .ref q8, .ref q9, .ref q10, .ref q11, .ref q12, .ref q13, .ref q14, .ref q15, .ref q16, .ref q17, .ref q18, .null, .null, .null, .null, .int 0, .null, .null, .null, .null, .int 0, .null, .null, .null] G) q19 (mo_cell E (fun _ _ => 0) (fun _ _ => 0) 19)) H := hW
  rw [mi_new 19 hf19] at hW
  refine hs_putF hC hW hL hi_X8 tyX8 tyX8_ok nmX8 rfl 19 (by decide) lk_X8_60 rfl rfl hin rfl mi_obj hmn rfl rfl (Nat.le_of_ble_eq_true rfl) dX8_init_154 (fun H locs hW hL => ?_)
  rw [mi_put] at hW
  replace hW : hs_W (eD E) vwCl (eH E) (mi_S E mo [(q19, 19), (q18, 18), (q17, 17), (q16, 16), (q15, 15), (q14, 14), (q13, 13), (q12, 12), (q11, 11), (q10, 10), (q9, 9), (q8, 8), (q7, 7), (q6, 6), (q5, 5), (q3, 3), (q2, 2)] [.int 0, .int 0, .ref q2, .ref q3, .int 0, .ref q5, .ref q6, .ref q7, .ref q8, .ref q9, .ref q10, .ref q11, .ref q12, .ref q13, .ref q14, .ref q15, .ref q16, .ref q17, .ref q18, .ref q19, .null, .null, .null, .int 0, .null, .null, .null, .null, .int 0, .null, .null, .null] G) H := hW
  refine lv_aload_n hx hb dX8_init_157 rfl (lv_at hl 0 rfl) ?_
  refine lv_sipush (v := 150) hx hb dX8_init_158 (by decide) ?_
  refine hs_newa (atype := .boolean) (ty := .boolean) hC hW ac_boolean rfl 2 rfl (fun _ h => h) (N' := 150) (a0 := (150, .inl (fun _ => 0))) (fun cA => by rw [vp_cell_i]; rfl) (by decide) (by decide) (by decide) (by decide) (by decide) dX8_init_161 (fun q20 H hs20 hf20 hW => ?_)
  have hok18 := hok17.cons 20 hf20 hs20
  replace hW : hs_W (eD E) vwCl (eH E) (hs_up (mi_S E mo [(q19, 19), (q18, 18), (q17, 17), (q16, 16), (q15, 15), (q14, 14), (q13, 13), (q12, 12), (q11, 11), (q10, 10), (q9, 9), (q8, 8), (q7, 7), (q6, 6), (q5, 5), (q3, 3), (q2, 2)] [.int 0, .int 0, .ref q2, .ref q3, .int 0, .ref q5, .ref q6, .ref q7, .ref q8, .ref q9, .ref q10, .ref q11, .ref q12, .ref q13, .ref q14, .ref q15, .ref q16, .ref q17, .ref q18, .ref q19, .null, .null, .null, .int 0, .null, .null, .null, .null, .int 0, .null, .null, .null] G) q20 (mo_cell E (fun _ _ => 0) (fun _ _ => 0) 20)) H := hW
  rw [mi_new 20 hf20] at hW
  refine hs_putF hC hW hL hi_X8 tyX8 tyX8_ok nmX8 rfl 20 (by decide) lk_X8_63 rfl rfl hin rfl mi_obj hmn rfl rfl (Nat.le_of_ble_eq_true rfl) dX8_init_163 (fun H locs hW hL => ?_)
  rw [mi_put] at hW
  replace hW : hs_W (eD E) vwCl (eH E) (mi_S E mo [(q20, 20), (q19, 19), (q18, 18), (q17, 17), (q16, 16), (q15, 15), (q14, 14), (q13, 13), (q12, 12), (q11, 11), (q10, 10), (q9, 9), (q8, 8), (q7, 7), (q6, 6), (q5, 5), (q3, 3), (q2, 2)] [.int 0, .int 0, .ref q2, .ref q3, .int 0, .ref q5, .ref q6, .ref q7, .ref q8, .ref q9, .ref q10, .ref q11, .ref q12, .ref q13, .ref q14, .ref q15, .ref q16, .ref q17, .ref q18, .ref q19, .ref q20, .null, .null, .int 0, .null, .null, .null, .null, .int 0, .null, .null, .null] G) H := hW
  refine lv_aload_n hx hb dX8_init_166 rfl (lv_at hl 0 rfl) ?_
  refine lv_sipush (v := 150) hx hb dX8_init_167 (by decide) ?_
  refine hs_newa (atype := .int) (ty := .int) hC hW ac_int rfl 0 rfl (fun _ h => h) (N' := 150) (a0 := (150, .inl (fun _ => 0))) (fun cA => by rw [vp_cell_i]; rfl) (by decide) (by decide) (by decide) (by decide) (by decide) dX8_init_170 (fun q21 H hs21 hf21 hW => ?_)
  have hok19 := hok18.cons 21 hf21 hs21
  replace hW : hs_W (eD E) vwCl (eH E) (hs_up (mi_S E mo [(q20, 20), (q19, 19), (q18, 18), (q17, 17), (q16, 16), (q15, 15), (q14, 14), (q13, 13), (q12, 12), (q11, 11), (q10, 10), (q9, 9), (q8, 8), (q7, 7), (q6, 6), (q5, 5), (q3, 3), (q2, 2)] [.int 0, .int 0, .ref q2, .ref q3, .int 0, .ref q5, .ref q6, .ref q7, .ref q8, .ref q9, .ref q10, .ref q11, .ref q12, .ref q13, .ref q14, .ref q15, .ref q16, .ref q17, .ref q18, .ref q19, .ref q20, .null, .null, .int 0, .null, .null, .null, .null, .int 0, .null, .null, .null] G) q21 (mo_cell E (fun _ _ => 0) (fun _ _ => 0) 21)) H := hW
  rw [mi_new 21 hf21] at hW
  refine hs_putF hC hW hL hi_X8 tyX8 tyX8_ok nmX8 rfl 21 (by decide) lk_X8_66 rfl rfl hin rfl mi_obj hmn rfl rfl (Nat.le_of_ble_eq_true rfl) dX8_init_172 (fun H locs hW hL => ?_)
  rw [mi_put] at hW
  replace hW : hs_W (eD E) vwCl (eH E) (mi_S E mo [(q21, 21), (q20, 20), (q19, 19), (q18, 18), (q17, 17), (q16, 16), (q15, 15), (q14, 14), (q13, 13), (q12, 12), (q11, 11), (q10, 10), (q9, 9), (q8, 8), (q7, 7), (q6, 6), (q5, 5), (q3, 3), (q2, 2)] [.int 0, .int 0, .ref q2, .ref q3, .int 0, .ref q5, .ref q6, .ref q7, .ref q8, .ref q9, .ref q10, .ref q11, .ref q12, .ref q13, .ref q14, .ref q15, .ref q16, .ref q17, .ref q18, .ref q19, .ref q20, .ref q21, .null, .int 0, .null, .null, .null, .null, .int 0, .null, .null, .null] G) H := hW
  refine lv_aload_n hx hb dX8_init_175 rfl (lv_at hl 0 rfl) ?_
  refine lv_sipush (v := 150) hx hb dX8_init_176 (by decide) ?_
  refine hs_newa (atype := .int) (ty := .int) hC hW ac_int rfl 0 rfl (fun _ h => h) (N' := 150) (a0 := (150, .inl (fun _ => 0))) (fun cA => by rw [vp_cell_i]; rfl) (by decide) (by decide) (by decide) (by decide) (by decide) dX8_init_179 (fun q22 H hs22 hf22 hW => ?_)
  have hok20 := hok19.cons 22 hf22 hs22
  replace hW : hs_W (eD E) vwCl (eH E) (hs_up (mi_S E mo [(q21, 21), (q20, 20), (q19, 19), (q18, 18), (q17, 17), (q16, 16), (q15, 15), (q14, 14), (q13, 13), (q12, 12), (q11, 11), (q10, 10), (q9, 9), (q8, 8), (q7, 7), (q6, 6), (q5, 5), (q3, 3), (q2, 2)] [.int 0, .int 0, .ref q2, .ref q3, .int 0, .ref q5, .ref q6, .ref q7, .ref q8, .ref q9, .ref q10, .ref q11, .ref q12, .ref q13, .ref q14, .ref q15, .ref q16, .ref q17, .ref q18, .ref q19, .ref q20, .ref q21, .null, .int 0, .null, .null, .null, .null, .int 0, .null, .null, .null] G) q22 (mo_cell E (fun _ _ => 0) (fun _ _ => 0) 22)) H := hW
  rw [mi_new 22 hf22] at hW
  refine hs_putF hC hW hL hi_X8 tyX8 tyX8_ok nmX8 rfl 22 (by decide) lk_X8_69 rfl rfl hin rfl mi_obj hmn rfl rfl (Nat.le_of_ble_eq_true rfl) dX8_init_181 (fun H locs hW hL => ?_)
  rw [mi_put] at hW
  replace hW : hs_W (eD E) vwCl (eH E) (mi_S E mo [(q22, 22), (q21, 21), (q20, 20), (q19, 19), (q18, 18), (q17, 17), (q16, 16), (q15, 15), (q14, 14), (q13, 13), (q12, 12), (q11, 11), (q10, 10), (q9, 9), (q8, 8), (q7, 7), (q6, 6), (q5, 5), (q3, 3), (q2, 2)] [.int 0, .int 0, .ref q2, .ref q3, .int 0, .ref q5, .ref q6, .ref q7, .ref q8, .ref q9, .ref q10, .ref q11, .ref q12, .ref q13, .ref q14, .ref q15, .ref q16, .ref q17, .ref q18, .ref q19, .ref q20, .ref q21, .ref q22, .int 0, .null, .null, .null, .null, .int 0, .null, .null, .null] G) H := hW
  refine lv_aload_n hx hb dX8_init_184 rfl (lv_at hl 0 rfl) ?_
  refine lv_sipush (v := 2000) hx hb dX8_init_185 (by decide) ?_
  refine hs_newa (atype := .int) (ty := .int) hC hW ac_int rfl 0 rfl (fun _ h => h) (N' := 2000) (a0 := (2000, .inl (fun _ => 0))) (fun cA => by rw [vp_cell_i]; rfl) (by decide) (by decide) (by decide) (by decide) (by decide) dX8_init_188 (fun q24 H hs24 hf24 hW => ?_)
  have hok21 := hok20.cons 24 hf24 hs24
  replace hW : hs_W (eD E) vwCl (eH E) (hs_up (mi_S E mo [(q22, 22), (q21, 21), (q20, 20), (q19, 19), (q18, 18), (q17, 17), (q16, 16), (q15, 15), (q14, 14), (q13, 13), (q12, 12), (q11, 11), (q10, 10), (q9, 9), (q8, 8), (q7, 7), (q6, 6), (q5, 5), (q3, 3), (q2, 2)] [.int 0, .int 0, .ref q2, .ref q3, .int 0, .ref q5, .ref q6, .ref q7, .ref q8, .ref q9, .ref q10, .ref q11, .ref q12, .ref q13, .ref q14, .ref q15, .ref q16, .ref q17, .ref q18, .ref q19, .ref q20, .ref q21, .ref q22, .int 0, .null, .null, .null, .null, .int 0, .null, .null, .null] G) q24 (mo_cell E (fun _ _ => 0) (fun _ _ => 0) 24)) H := hW
  rw [mi_new 24 hf24] at hW
  refine hs_putF hC hW hL hi_X8 tyX8 tyX8_ok nmX8 rfl 24 (by decide) lk_X8_72 rfl rfl hin rfl mi_obj hmn rfl rfl (Nat.le_of_ble_eq_true rfl) dX8_init_190 (fun H locs hW hL => ?_)
  rw [mi_put] at hW
  replace hW : hs_W (eD E) vwCl (eH E) (mi_S E mo [(q24, 24), (q22, 22), (q21, 21), (q20, 20), (q19, 19), (q18, 18), (q17, 17), (q16, 16), (q15, 15), (q14, 14), (q13, 13), (q12, 12), (q11, 11), (q10, 10), (q9, 9), (q8, 8), (q7, 7), (q6, 6), (q5, 5), (q3, 3), (q2, 2)] [.int 0, .int 0, .ref q2, .ref q3, .int 0, .ref q5, .ref q6, .ref q7, .ref q8, .ref q9, .ref q10, .ref q11, .ref q12, .ref q13, .ref q14, .ref q15, .ref q16, .ref q17, .ref q18, .ref q19, .ref q20, .ref q21, .ref q22, .int 0, .ref q24, .null, .null, .null, .int 0, .null, .null, .null] G) H := hW
  refine lv_aload_n hx hb dX8_init_193 rfl (lv_at hl 0 rfl) ?_
  refine lv_sipush (v := 2000) hx hb dX8_init_194 (by decide) ?_
  refine hs_newa (atype := .int) (ty := .int) hC hW ac_int rfl 0 rfl (fun _ h => h) (N' := 2000) (a0 := (2000, .inl (fun _ => 0))) (fun cA => by rw [vp_cell_i]; rfl) (by decide) (by decide) (by decide) (by decide) (by decide) dX8_init_197 (fun q25 H hs25 hf25 hW => ?_)
  have hok22 := hok21.cons 25 hf25 hs25
  replace hW : hs_W (eD E) vwCl (eH E) (hs_up (mi_S E mo [(q24, 24), (q22, 22), (q21, 21), (q20, 20), (q19, 19), (q18, 18), (q17, 17), (q16, 16), (q15, 15), (q14, 14), (q13, 13), (q12, 12), (q11, 11), (q10, 10), (q9, 9), (q8, 8), (q7, 7), (q6, 6), (q5, 5), (q3, 3), (q2, 2)] [.int 0, .int 0, .ref q2, .ref q3, .int 0, .ref q5, .ref q6, .ref q7, .ref q8, .ref q9, .ref q10, .ref q11, .ref q12, .ref q13, .ref q14, .ref q15, .ref q16, .ref q17, .ref q18, .ref q19, .ref q20, .ref q21, .ref q22, .int 0, .ref q24, .null, .null, .null, .int 0, .null, .null, .null] G) q25 (mo_cell E (fun _ _ => 0) (fun _ _ => 0) 25)) H := hW
  rw [mi_new 25 hf25] at hW
  refine hs_putF hC hW hL hi_X8 tyX8 tyX8_ok nmX8 rfl 25 (by decide) lk_X8_75 rfl rfl hin rfl mi_obj hmn rfl rfl (Nat.le_of_ble_eq_true rfl) dX8_init_199 (fun H locs hW hL => ?_)
  rw [mi_put] at hW
  replace hW : hs_W (eD E) vwCl (eH E) (mi_S E mo [(q25, 25), (q24, 24), (q22, 22), (q21, 21), (q20, 20), (q19, 19), (q18, 18), (q17, 17), (q16, 16), (q15, 15), (q14, 14), (q13, 13), (q12, 12), (q11, 11), (q10, 10), (q9, 9), (q8, 8), (q7, 7), (q6, 6), (q5, 5), (q3, 3), (q2, 2)] [.int 0, .int 0, .ref q2, .ref q3, .int 0, .ref q5, .ref q6, .ref q7, .ref q8, .ref q9, .ref q10, .ref q11, .ref q12, .ref q13, .ref q14, .ref q15, .ref q16, .ref q17, .ref q18, .ref q19, .ref q20, .ref q21, .ref q22, .int 0, .ref q24, .ref q25, .null, .null, .int 0, .null, .null, .null] G) H := hW
  refine lv_aload_n hx hb dX8_init_202 rfl (lv_at hl 0 rfl) ?_
  refine lv_sipush (v := 2000) hx hb dX8_init_203 (by decide) ?_
  refine hs_newa (atype := .int) (ty := .int) hC hW ac_int rfl 0 rfl (fun _ h => h) (N' := 2000) (a0 := (2000, .inl (fun _ => 0))) (fun cA => by rw [vp_cell_i]; rfl) (by decide) (by decide) (by decide) (by decide) (by decide) dX8_init_206 (fun q26 H hs26 hf26 hW => ?_)
  have hok23 := hok22.cons 26 hf26 hs26
  replace hW : hs_W (eD E) vwCl (eH E) (hs_up (mi_S E mo [(q25, 25), (q24, 24), (q22, 22), (q21, 21), (q20, 20), (q19, 19), (q18, 18), (q17, 17), (q16, 16), (q15, 15), (q14, 14), (q13, 13), (q12, 12), (q11, 11), (q10, 10), (q9, 9), (q8, 8), (q7, 7), (q6, 6), (q5, 5), (q3, 3), (q2, 2)] [.int 0, .int 0, .ref q2, .ref q3, .int 0, .ref q5, .ref q6, .ref q7, .ref q8, .ref q9, .ref q10, .ref q11, .ref q12, .ref q13, .ref q14, .ref q15, .ref q16, .ref q17, .ref q18, .ref q19, .ref q20, .ref q21, .ref q22, .int 0, .ref q24, .ref q25, .null, .null, .int 0, .null, .null, .null] G) q26 (mo_cell E (fun _ _ => 0) (fun _ _ => 0) 26)) H := hW
  rw [mi_new 26 hf26] at hW
  refine hs_putF hC hW hL hi_X8 tyX8 tyX8_ok nmX8 rfl 26 (by decide) lk_X8_78 rfl rfl hin rfl mi_obj hmn rfl rfl (Nat.le_of_ble_eq_true rfl) dX8_init_208 (fun H locs hW hL => ?_)
  rw [mi_put] at hW
  replace hW : hs_W (eD E) vwCl (eH E) (mi_S E mo [(q26, 26), (q25, 25), (q24, 24), (q22, 22), (q21, 21), (q20, 20), (q19, 19), (q18, 18), (q17, 17), (q16, 16), (q15, 15), (q14, 14), (q13, 13), (q12, 12), (q11, 11), (q10, 10), (q9, 9), (q8, 8), (q7, 7), (q6, 6), (q5, 5), (q3, 3), (q2, 2)] [.int 0, .int 0, .ref q2, .ref q3, .int 0, .ref q5, .ref q6, .ref q7, .ref q8, .ref q9, .ref q10, .ref q11, .ref q12, .ref q13, .ref q14, .ref q15, .ref q16, .ref q17, .ref q18, .ref q19, .ref q20, .ref q21, .ref q22, .int 0, .ref q24, .ref q25, .ref q26, .null, .int 0, .null, .null, .null] G) H := hW
  refine lv_aload_n hx hb dX8_init_211 rfl (lv_at hl 0 rfl) ?_
  refine lv_sipush (v := 2000) hx hb dX8_init_212 (by decide) ?_
  refine hs_newa (atype := .int) (ty := .int) hC hW ac_int rfl 0 rfl (fun _ h => h) (N' := 2000) (a0 := (2000, .inl (fun _ => 0))) (fun cA => by rw [vp_cell_i]; rfl) (by decide) (by decide) (by decide) (by decide) (by decide) dX8_init_215 (fun q27 H hs27 hf27 hW => ?_)
  have hok24 := hok23.cons 27 hf27 hs27
  replace hW : hs_W (eD E) vwCl (eH E) (hs_up (mi_S E mo [(q26, 26), (q25, 25), (q24, 24), (q22, 22), (q21, 21), (q20, 20), (q19, 19), (q18, 18), (q17, 17), (q16, 16), (q15, 15), (q14, 14), (q13, 13), (q12, 12), (q11, 11), (q10, 10), (q9, 9), (q8, 8), (q7, 7), (q6, 6), (q5, 5), (q3, 3), (q2, 2)] [.int 0, .int 0, .ref q2, .ref q3, .int 0, .ref q5, .ref q6, .ref q7, .ref q8, .ref q9, .ref q10, .ref q11, .ref q12, .ref q13, .ref q14, .ref q15, .ref q16, .ref q17, .ref q18, .ref q19, .ref q20, .ref q21, .ref q22, .int 0, .ref q24, .ref q25, .ref q26, .null, .int 0, .null, .null, .null] G) q27 (mo_cell E (fun _ _ => 0) (fun _ _ => 0) 27)) H := hW
  rw [mi_new 27 hf27] at hW
  refine hs_putF hC hW hL hi_X8 tyX8 tyX8_ok nmX8 rfl 27 (by decide) lk_X8_81 rfl rfl hin rfl mi_obj hmn rfl rfl (Nat.le_of_ble_eq_true rfl) dX8_init_217 (fun H locs hW hL => ?_)
  rw [mi_put] at hW
  replace hW : hs_W (eD E) vwCl (eH E) (mi_S E mo [(q27, 27), (q26, 26), (q25, 25), (q24, 24), (q22, 22), (q21, 21), (q20, 20), (q19, 19), (q18, 18), (q17, 17), (q16, 16), (q15, 15), (q14, 14), (q13, 13), (q12, 12), (q11, 11), (q10, 10), (q9, 9), (q8, 8), (q7, 7), (q6, 6), (q5, 5), (q3, 3), (q2, 2)] [.int 0, .int 0, .ref q2, .ref q3, .int 0, .ref q5, .ref q6, .ref q7, .ref q8, .ref q9, .ref q10, .ref q11, .ref q12, .ref q13, .ref q14, .ref q15, .ref q16, .ref q17, .ref q18, .ref q19, .ref q20, .ref q21, .ref q22, .int 0, .ref q24, .ref q25, .ref q26, .ref q27, .int 0, .null, .null, .null] G) H := hW
  refine lv_aload_n hx hb dX8_init_220 rfl (lv_at hl 0 rfl) ?_
  refine lv_sipush (v := 150) hx hb dX8_init_221 (by decide) ?_
  refine hs_newa (atype := .int) (ty := .int) hC hW ac_int rfl 0 rfl (fun _ h => h) (N' := 150) (a0 := (150, .inl (fun _ => 0))) (fun cA => by rw [vp_cell_i]; rfl) (by decide) (by decide) (by decide) (by decide) (by decide) dX8_init_224 (fun q29 H hs29 hf29 hW => ?_)
  have hok25 := hok24.cons 29 hf29 hs29
  replace hW : hs_W (eD E) vwCl (eH E) (hs_up (mi_S E mo [(q27, 27), (q26, 26), (q25, 25), (q24, 24), (q22, 22), (q21, 21), (q20, 20), (q19, 19), (q18, 18), (q17, 17), (q16, 16), (q15, 15), (q14, 14), (q13, 13), (q12, 12), (q11, 11), (q10, 10), (q9, 9), (q8, 8), (q7, 7), (q6, 6), (q5, 5), (q3, 3), (q2, 2)] [.int 0, .int 0, .ref q2, .ref q3, .int 0, .ref q5, .ref q6, .ref q7, .ref q8, .ref q9, .ref q10, .ref q11, .ref q12, .ref q13, .ref q14, .ref q15, .ref q16, .ref q17, .ref q18, .ref q19, .ref q20, .ref q21, .ref q22, .int 0, .ref q24, .ref q25, .ref q26, .ref q27, .int 0, .null, .null, .null] G) q29 (mo_cell E (fun _ _ => 0) (fun _ _ => 0) 29)) H := hW
  rw [mi_new 29 hf29] at hW
  refine hs_putF hC hW hL hi_X8 tyX8 tyX8_ok nmX8 rfl 29 (by decide) lk_X8_84 rfl rfl hin rfl mi_obj hmn rfl rfl (Nat.le_of_ble_eq_true rfl) dX8_init_226 (fun H locs hW hL => ?_)
  rw [mi_put] at hW
  replace hW : hs_W (eD E) vwCl (eH E) (mi_S E mo [(q29, 29), (q27, 27), (q26, 26), (q25, 25), (q24, 24), (q22, 22), (q21, 21), (q20, 20), (q19, 19), (q18, 18), (q17, 17), (q16, 16), (q15, 15), (q14, 14), (q13, 13), (q12, 12), (q11, 11), (q10, 10), (q9, 9), (q8, 8), (q7, 7), (q6, 6), (q5, 5), (q3, 3), (q2, 2)] [.int 0, .int 0, .ref q2, .ref q3, .int 0, .ref q5, .ref q6, .ref q7, .ref q8, .ref q9, .ref q10, .ref q11, .ref q12, .ref q13, .ref q14, .ref q15, .ref q16, .ref q17, .ref q18, .ref q19, .ref q20, .ref q21, .ref q22, .int 0, .ref q24, .ref q25, .ref q26, .ref q27, .int 0, .ref q29, .null, .null] G) H := hW
  refine lv_aload_n hx hb dX8_init_229 rfl (lv_at hl 0 rfl) ?_
  refine lv_sipush (v := 144) hx hb dX8_init_230 (by decide) ?_
  refine hs_newa (atype := .long) (ty := .long) hC hW ac_long rfl 1 rfl (fun _ h => h) (N' := 144) (a0 := (144, .inr (.inl (fun _ => 0)))) (fun cA => by rw [vp_cell_l]; rfl) (by decide) (by decide) (by decide) (by decide) (by decide) dX8_init_233 (fun q30 H hs30 hf30 hW => ?_)
  have hok26 := hok25.cons 30 hf30 hs30
  replace hW : hs_W (eD E) vwCl (eH E) (hs_up (mi_S E mo [(q29, 29), (q27, 27), (q26, 26), (q25, 25), (q24, 24), (q22, 22), (q21, 21), (q20, 20), (q19, 19), (q18, 18), (q17, 17), (q16, 16), (q15, 15), (q14, 14), (q13, 13), (q12, 12), (q11, 11), (q10, 10), (q9, 9), (q8, 8), (q7, 7), (q6, 6), (q5, 5), (q3, 3), (q2, 2)] [.int 0, .int 0, .ref q2, .ref q3, .int 0, .ref q5, .ref q6, .ref q7, .ref q8, .ref q9, .ref q10, .ref q11, .ref q12, .ref q13, .ref q14, .ref q15, .ref q16, .ref q17, .ref q18, .ref q19, .ref q20, .ref q21, .ref q22, .int 0, .ref q24, .ref q25, .ref q26, .ref q27, .int 0, .ref q29, .null, .null] G) q30 (mo_cell E (fun _ _ => 0) (fun _ _ => 0) 30)) H := hW
  rw [mi_new 30 hf30] at hW
  refine hs_putF hC hW hL hi_X8 tyX8 tyX8_ok nmX8 rfl 30 (by decide) lk_X8_87 rfl rfl hin rfl mi_obj hmn rfl rfl (Nat.le_of_ble_eq_true rfl) dX8_init_235 (fun H locs hW hL => ?_)
  rw [mi_put] at hW
  replace hW : hs_W (eD E) vwCl (eH E) (mi_S E mo [(q30, 30), (q29, 29), (q27, 27), (q26, 26), (q25, 25), (q24, 24), (q22, 22), (q21, 21), (q20, 20), (q19, 19), (q18, 18), (q17, 17), (q16, 16), (q15, 15), (q14, 14), (q13, 13), (q12, 12), (q11, 11), (q10, 10), (q9, 9), (q8, 8), (q7, 7), (q6, 6), (q5, 5), (q3, 3), (q2, 2)] [.int 0, .int 0, .ref q2, .ref q3, .int 0, .ref q5, .ref q6, .ref q7, .ref q8, .ref q9, .ref q10, .ref q11, .ref q12, .ref q13, .ref q14, .ref q15, .ref q16, .ref q17, .ref q18, .ref q19, .ref q20, .ref q21, .ref q22, .int 0, .ref q24, .ref q25, .ref q26, .ref q27, .int 0, .ref q29, .ref q30, .null] G) H := hW
  refine lv_aload_n hx hb dX8_init_238 rfl (lv_at hl 0 rfl) ?_
  refine lv_bipush (v := 7) hx hb dX8_init_239 (by decide) ?_
  refine hs_newa (atype := .int) (ty := .int) hC hW ac_int rfl 0 rfl (fun _ h => h) (N' := 7) (a0 := (7, .inl (fun _ => 0))) (fun cA => by rw [vp_cell_i]; rfl) (by decide) (by decide) (by decide) (by decide) (by decide) dX8_init_241 (fun q31 H hs31 hf31 hW => ?_)
  have hok27 := hok26.cons 31 hf31 hs31
  replace hW : hs_W (eD E) vwCl (eH E) (hs_up (mi_S E mo [(q30, 30), (q29, 29), (q27, 27), (q26, 26), (q25, 25), (q24, 24), (q22, 22), (q21, 21), (q20, 20), (q19, 19), (q18, 18), (q17, 17), (q16, 16), (q15, 15), (q14, 14), (q13, 13), (q12, 12), (q11, 11), (q10, 10), (q9, 9), (q8, 8), (q7, 7), (q6, 6), (q5, 5), (q3, 3), (q2, 2)] [.int 0, .int 0, .ref q2, .ref q3, .int 0, .ref q5, .ref q6, .ref q7, .ref q8, .ref q9, .ref q10, .ref q11, .ref q12, .ref q13, .ref q14, .ref q15, .ref q16, .ref q17, .ref q18, .ref q19, .ref q20, .ref q21, .ref q22, .int 0, .ref q24, .ref q25, .ref q26, .ref q27, .int 0, .ref q29, .ref q30, .null] G) q31 (mo_cell E (fun _ _ => 0) (fun _ _ => 0) 31)) H := hW
  rw [mi_new 31 hf31] at hW
  refine hs_putF hC hW hL hi_X8 tyX8 tyX8_ok nmX8 rfl 31 (by decide) lk_X8_90 rfl rfl hin rfl mi_obj hmn rfl rfl (Nat.le_of_ble_eq_true rfl) dX8_init_243 (fun H locs hW hL => ?_)
  rw [mi_put] at hW
  replace hW : hs_W (eD E) vwCl (eH E) (mi_S E mo [(q31, 31), (q30, 30), (q29, 29), (q27, 27), (q26, 26), (q25, 25), (q24, 24), (q22, 22), (q21, 21), (q20, 20), (q19, 19), (q18, 18), (q17, 17), (q16, 16), (q15, 15), (q14, 14), (q13, 13), (q12, 12), (q11, 11), (q10, 10), (q9, 9), (q8, 8), (q7, 7), (q6, 6), (q5, 5), (q3, 3), (q2, 2)] [.int 0, .int 0, .ref q2, .ref q3, .int 0, .ref q5, .ref q6, .ref q7, .ref q8, .ref q9, .ref q10, .ref q11, .ref q12, .ref q13, .ref q14, .ref q15, .ref q16, .ref q17, .ref q18, .ref q19, .ref q20, .ref q21, .ref q22, .int 0, .ref q24, .ref q25, .ref q26, .ref q27, .int 0, .ref q29, .ref q30, .ref q31] G) H := hW
  exact hs_vret hC hW hL hr hlocks (by decide) (by decide) dX8_init_246 ⟨rfl, rfl, rfl, mi_a [(q31, 31), (q30, 30), (q29, 29), (q27, 27), (q26, 26), (q25, 25), (q24, 24), (q22, 22), (q21, 21), (q20, 20), (q19, 19), (q18, 18), (q17, 17), (q16, 16), (q15, 15), (q14, 14), (q13, 13), (q12, 12), (q11, 11), (q10, 10), (q9, 9), (q8, 8), (q7, 7), (q6, 6), (q5, 5), (q3, 3), (q2, 2)], mi_x [(q31, 31), (q30, 30), (q29, 29), (q27, 27), (q26, 26), (q25, 25), (q24, 24), (q22, 22), (q21, 21), (q20, 20), (q19, 19), (q18, 18), (q17, 17), (q16, 16), (q15, 15), (q14, 14), (q13, 13), (q12, 12), (q11, 11), (q10, 10), (q9, 9), (q8, 8), (q7, 7), (q6, 6), (q5, 5), (q3, 3), (q2, 2)], (mi_at hmn hok27 (show ([31, 30, 29, 27, 26, 25, 24, 22, 21, 20, 19, 18, 17, 16, 15, 14, 13, 12, 11, 10, 9, 8, 7, 6, 5, 3, 2] : List Nat).Nodup by decide) mi_all).1, (mi_at hmn hok27 (show ([31, 30, 29, 27, 26, 25, 24, 22, 21, 20, 19, 18, 17, 16, 15, 14, 13, 12, 11, 10, 9, 8, 7, 6, 5, 3, 2] : List Nat).Nodup by decide) mi_all).2, rfl⟩
