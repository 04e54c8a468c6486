/-! the class: a day passes -/
set_option maxHeartbeats 4000000 in
set_option maxRecDepth 100000 in
/-- gatherReadyGroups -/
theorem ct_X7_gatherReadyGroups (E : hs_E) (t : cl_t) (cap X : Nat → Nat) (d : Nat) (G : hs_G) (hT : cl_T E t cap X d G) : hM E yX7_gatherReadyGroups ({ frames := 7, cells := 230, slots := 1130, locals := 250 }) [.ref (X 0)] G (hs_V (cl_M E t cap X d G 0 0)) := by
  refine hs_ofW (cc := cX7_gatherReadyGroups) (maxL := 3) (ret := none) (by decide) co_X7_gatherReadyGroups ?_
  intro p e s m args below meth c hC hlocks hr hin0 hnoh hW
  obtain ⟨hx, hb, hml, hown, hts, -⟩ := id hC
  have hE := hW
  have hL : ∀ q ∈ ([] : List Loc), (eH E).size ≤ q.base := fun q hq => nomatch hq
  have hl := lv_entry ([.ref (X 0)] : List Value) (n := 3) (Nat.le_of_ble_eq_true rfl)
  rw [lg_entry_eq]
  generalize (lg_sl [.ref (X 0)] ++ List.replicate (3 - (lg_sl [.ref (X 0)]).length) Slot.unset).toArray = ls at hl ⊢
  have hl : lv_has ls 3 [(0, .ref (X 0))] := hl
  obtain ⟨mc9, A9, sz9, f9, hLo, hLa, hsc, hmx, hcp, hel, hAA⟩ := hT.l9
  refine lv_aload_n hx hb dX7_gatherReadyGroups_0 rfl (lv_at hl 0 rfl) ?_
  refine hs_get hC hW hi_X7 rfl 4 (by decide) lk_X7_37 rfl hT.house rfl dX7_gatherReadyGroups_1 ?_
  refine hs_callV hC hs_Tok hW hL (ct_clear E G (X 9) A9 sz9 mc9 hLo (cap (X 9)) f9 hLa (by omega) hsc (fun z => hT.sz (hAA.resolve_left (fun w => by omega)).1) (hT.szX 9 (by decide))) cw_Jx4a65c_clear_da8c8 lk_X7_251 im_Jx4a65c_clear_da8c8 se_Jx4a65c_clear_da8c8 (hs_recv hC hW hLo rfl) hl.1 (by decide) (Nat.le_of_ble_eq_true rfl) dX7_gatherReadyGroups_4 (hs_kV (fun G2 k2 n2 H locs hI hk hn hW hL => ?_))
  obtain ⟨rfl, rfl, f1, hf1, rfl⟩ := hI
  have hT0 := hT.clear (hT.tag 9 (by decide)) (Or.inr (Or.inl ⟨rfl, rfl, rfl⟩)) hLo hLa hsc hcp hAA hf1
  have hL0 : (hs_up (hs_up G (X 9) (al_o (mc9 + 1) A9 0)) A9 (al_a E (cap (X 9)) f1)) (X 9) = some (al_o (mc9 + 1) A9 (nI 0)) := by rw [hs_up_ne _ _ (al_ne hLo hLa).symm, hs_up_eq]; rfl
  refine lv_iconst (v := 0) hx hb dX7_gatherReadyGroups_7 (by decide) ?_
  refine lv_istore_n (lv' := [(1, .int _), (0, .ref _)]) hx hb dX7_gatherReadyGroups_8 rfl hl (by decide) rfl (fun ls hl => ?_)
  refine hs_loopC (σ := Nat × Nat × cl_t × (Nat → Nat) × hs_G × Int32 × Nat) (fun x => match x with | (i, s1, t1, cap1, G1, mc1, A1) => 150 - i) (fun x kk nn H locs ls => match x with | (i, s1, t1, cap1, G1, mc1, A1) => (i ≤ 150 ∧ s1 ≤ i ∧ G1 (X 9) = some (al_o mc1 A1 (nI s1)) ∧ cl_T E t1 cap1 X d G1 ∧ cl_F t G t1 G1 ∧ cap (X 9) ≤ cap1 (X 9) ∧ kk ≤ cap1 (X 9) - cap (X 9) ∧ nn ≤ 4 * (cap1 (X 9) - cap (X 9))) ∧ hs_W (eD E) vwCl (eH E) (G1) H ∧ (∀ q ∈ locs, (eH E).size ≤ q.base) ∧ lv_has ls 3 [(0, .ref (X 0)), (1, .int (nI i))]) ?_ (0, 0, t, cap, _, mc9 + 1, A9) _ _ _ _ _ ⟨⟨by omega, by omega, hL0, hT0.1, hT0.2, by omega, by omega, by omega⟩, hW, hL, (lv_sub hl [1, 0] rfl)⟩
  rintro ⟨i, s1, t1, cap1, G1, mc1, A1⟩ kk nn H locs ls ⟨⟨j1, j2, j3, j4, j5, j6, j7, j8⟩, hW, hL, hl⟩ ih
  replace hW : hs_W (eD E) vwCl (eH E) (G1) H := hW
  replace hl : lv_has ls 3 [(0, .ref (X 0)), (1, .int (nI i))] := hl
  obtain ⟨f5, q1, q2, q3, hcp9, -⟩ := j4.l9.at j3 (by omega)
  obtain ⟨mc9, A9, sz9, f9, hLo, hLa, hsc, hmx, hcp, hel, hAA⟩ := j4.l8
  refine lv_iload_n hx hb dX7_gatherReadyGroups_9 rfl (lv_at hl 1 rfl) ?_
  refine lv_aload_n hx hb dX7_gatherReadyGroups_10 rfl (lv_at hl 0 rfl) ?_
  refine hs_get hC hW hi_X7 rfl 3 (by decide) lk_X7_33 rfl j4.house rfl dX7_gatherReadyGroups_11 ?_
  refine hs_callV hC hs_Tok hW hL (ct_size E G1 (X 8) A9 sz9 mc9 hLo) cw_Jx4a65c_size_8abf5 lk_X7_81 im_Jx4a65c_size_8abf5 se_Jx4a65c_size_8abf5 (hs_recv hC hW hLo rfl) hl.1 (by refine ⟨by decide, by decide, ?_, ?_⟩ <;> dsimp only <;> omega) (Nat.le_of_ble_eq_true rfl) dX7_gatherReadyGroups_14 (hs_kp1 (fun H locs hW hL => ?_))
  refine lv_icmp_ge (tgt := 81) hx hb dX7_gatherReadyGroups_17 (by decide) (fun c17 => ?_) (fun c17 => ?_)
  · exact hs_vret hC hW hL hr hlocks (by show kk ≤ 230; omega) (by show nn ≤ 1130; omega) dX7_gatherReadyGroups_81 ⟨rfl, t1, cap1, j4, j5, j6, by omega, by omega⟩
  have hlt : i < sz9 := Nat.not_le.mp fun z => c17 ((nI_leI (by omega) (by omega)).mpr z)
  obtain ⟨x9, hfx, htx⟩ := hel i hlt
  obtain ⟨nu9, te9, t9, s8, s9, st9, du9, ql9, am9, fa9, pr9, ip9, g9, hX, ht1, ht2, ht3, hg9⟩ := j4.tr htx
  refine lv_aload_n hx hb dX7_gatherReadyGroups_20 rfl (lv_at hl 0 rfl) ?_
  refine hs_get hC hW hi_X7 rfl 3 (by decide) lk_X7_33 rfl j4.house rfl dX7_gatherReadyGroups_21 ?_
  refine lv_iload_n hx hb dX7_gatherReadyGroups_24 rfl (lv_at hl 1 rfl) ?_
  refine hs_callV hC hs_Tok hW hL (ct_get E G1 (X 8) A9 sz9 mc9 hLo (cap1 (X 8)) f9 hLa (by omega) i x9 hlt hsc hfx) cw_Jx4a65c_get_915e3 lk_X7_202 im_Jx4a65c_get_915e3 se_Jx4a65c_get_915e3 (hs_recv hC hW hLo rfl) hl.1 (by refine ⟨by decide, by decide, ?_, ?_⟩ <;> dsimp only <;> omega) (Nat.le_of_ble_eq_true rfl) dX7_gatherReadyGroups_25 (hs_kp1 (fun H locs hW hL => ?_))
  refine hs_cast hC hW lk_X7_99 ca_X5_X5 hX rfl dX7_gatherReadyGroups_28 ?_
  refine lv_astore_n (lv' := [(2, .ref _), (0, .ref _), (1, .int _)]) hx hb dX7_gatherReadyGroups_31 rfl hl (by decide) rfl (fun ls hl => ?_)
  rcases hg9 with rfl | ⟨y9, rfl, hy9⟩
  · refine lv_aload_n hx hb dX7_gatherReadyGroups_32 rfl (lv_at hl 0 rfl) ?_
    refine hs_getN hC hW hi_X5 rfl 12 (by decide) lk_X7_134 rfl hX rfl dX7_gatherReadyGroups_33 ?_
    refine lv_ifnullN (tgt := 75) hx hb dX7_gatherReadyGroups_36 (by decide) ?_
    refine lv_iinc (lv' := [(1, .int _), (2, .ref _), (0, .ref _)]) hx hb dX7_gatherReadyGroups_75 hl (k := 2) rfl rfl (by decide) rfl (fun ls hl => ?_)
    refine lv_goto (tgt := 9) hx hb dX7_gatherReadyGroups_78 (by decide) ?_
    rw [hs_inc] at hl
    exact ih (i + 1, s1, t1, cap1, G1, mc1, A1) kk nn _ _ _ (by show 150 - (i + 1) < 150 - i; omega) ⟨⟨by omega, by omega, j3, j4, j5, j6, j7, j8⟩, hW, hL, (lv_sub hl [2, 0] rfl)⟩
  · refine lv_aload_n hx hb dX7_gatherReadyGroups_32 rfl (lv_at hl 0 rfl) ?_
    refine hs_getN hC hW hi_X5 rfl 12 (by decide) lk_X7_134 rfl hX rfl dX7_gatherReadyGroups_33 ?_
    refine lv_ifnull hx hb dX7_gatherReadyGroups_36 ?_
    obtain ⟨Ly, hGy, -⟩ := j4.gr hy9
    refine lv_aload_n hx hb dX7_gatherReadyGroups_39 rfl (lv_at hl 0 rfl) ?_
    refine hs_getN hC hW hi_X5 rfl 12 (by decide) lk_X7_134 rfl hX rfl dX7_gatherReadyGroups_40 ?_
    refine lv_aload_n hx hb dX7_gatherReadyGroups_43 rfl (lv_at hl 0 rfl) ?_
    refine hs_callVN hC hs_Tok hW hL (ct_X1_isLedBy E t1 cap1 X d G1 j4 y9 hy9 _) cw_X1_isLedBy lk_X7_254 im_X1_isLedBy se_X1_isLedBy (hs_recv hC hW hGy rfl) hl.1 (by refine ⟨by decide, by decide, ?_, ?_⟩ <;> dsimp only <;> omega) (Nat.le_of_ble_eq_true rfl) dX7_gatherReadyGroups_44 (hs_ke (fun x H locs hJ hW hL => ?_))
    refine lv_if_eq (tgt := 75) hx hb dX7_gatherReadyGroups_47 (by decide) (fun c47 => ?_) (fun c47 => ?_)
    · refine lv_iinc (lv' := [(1, .int _), (2, .ref _), (0, .ref _)]) hx hb dX7_gatherReadyGroups_75 hl (k := 2) rfl rfl (by decide) rfl (fun ls hl => ?_)
      refine lv_goto (tgt := 9) hx hb dX7_gatherReadyGroups_78 (by decide) ?_
      rw [hs_inc] at hl
      exact ih (i + 1, s1, t1, cap1, G1, mc1, A1) kk nn _ _ _ (by show 150 - (i + 1) < 150 - i; omega) ⟨⟨by omega, by omega, j3, j4, j5, j6, j7, j8⟩, hW, hL, (lv_sub hl [2, 0] rfl)⟩
    refine lv_aload_n hx hb dX7_gatherReadyGroups_50 rfl (lv_at hl 0 rfl) ?_
    refine hs_getN hC hW hi_X5 rfl 12 (by decide) lk_X7_134 rfl hX rfl dX7_gatherReadyGroups_51 ?_
    refine lv_aload_n hx hb dX7_gatherReadyGroups_54 rfl (lv_at hl 1 rfl) ?_
    refine hs_get hC hW hi_X7 rfl 0 (by decide) lk_X7_12 rfl j4.house rfl dX7_gatherReadyGroups_55 ?_
    refine hs_getN hC hW hi_X0 rfl 1 (by decide) lk_X7_69 rfl j4.days rfl dX7_gatherReadyGroups_58 ?_
    refine hs_callVN hC hs_Tok hW hL (ct_X1_isReady E t1 cap1 X d G1 j4 y9 hy9 _) cw_X1_isReady lk_X7_258 im_X1_isReady se_X1_isReady (hs_recv hC hW hGy rfl) hl.1 (by refine ⟨by decide, by decide, ?_, ?_⟩ <;> dsimp only <;> omega) (Nat.le_of_ble_eq_true rfl) dX7_gatherReadyGroups_61 (hs_ke (fun y H locs hJy hW hL => ?_))
    refine lv_if_eq (tgt := 75) hx hb dX7_gatherReadyGroups_64 (by decide) (fun c64 => ?_) (fun c64 => ?_)
    · refine lv_iinc (lv' := [(1, .int _), (2, .ref _), (0, .ref _)]) hx hb dX7_gatherReadyGroups_75 hl (k := 2) rfl rfl (by decide) rfl (fun ls hl => ?_)
      refine lv_goto (tgt := 9) hx hb dX7_gatherReadyGroups_78 (by decide) ?_
      rw [hs_inc] at hl
      exact ih (i + 1, s1, t1, cap1, G1, mc1, A1) kk nn _ _ _ (by show 150 - (i + 1) < 150 - i; omega) ⟨⟨by omega, by omega, j3, j4, j5, j6, j7, j8⟩, hW, hL, (lv_sub hl [2, 0] rfl)⟩
    refine lv_aload_n hx hb dX7_gatherReadyGroups_67 rfl (lv_at hl 1 rfl) ?_
    refine lv_aload_n hx hb dX7_gatherReadyGroups_68 rfl (lv_at hl 0 rfl) ?_
    refine hs_getN hC hW hi_X5 rfl 12 (by decide) lk_X7_134 rfl hX rfl dX7_gatherReadyGroups_69 ?_
    refine hs_callV hC hs_Tok hW hL (ct_X7_putInOrder E t1 cap1 X d G1 j4 y9 hy9 A1 s1 mc1 j3 (by omega)) cw_X7_putInOrder lk_X7_261 im_X7_putInOrder se_X7_putInOrder (hs_recv hC hW j4.house rfl) hl.1 (by refine ⟨by decide, by decide, ?_, ?_⟩ <;> dsimp only <;> omega) (Nat.le_of_ble_eq_true rfl) dX7_gatherReadyGroups_72 (hs_kV (fun G2 k2 n2 H locs hI hk hn hW hL => ?_))
    obtain ⟨t2, cap2, mc2, A2, hT2, hF2, hL2, hc2, hk2, hn2⟩ := hI
    refine lv_iinc (lv' := [(1, .int _), (2, .ref _), (0, .ref _)]) hx hb dX7_gatherReadyGroups_75 hl (k := 2) rfl rfl (by decide) rfl (fun ls hl => ?_)
    refine lv_goto (tgt := 9) hx hb dX7_gatherReadyGroups_78 (by decide) ?_
    rw [hs_inc] at hl
    exact ih (i + 1, s1 + 1, t2, cap2, G2, mc2, A2) (kk + k2) (nn + n2) _ _ _ (by show 150 - (i + 1) < 150 - i; omega) ⟨⟨by omega, by omega, hL2, hT2, j5.tr hF2, by omega, by omega, by omega⟩, hW, hL, (lv_sub hl [2, 0] rfl)⟩
set_option maxHeartbeats 4000000 in
set_option maxRecDepth 100000 in
/-- runCycle -/
theorem ct_X7_runCycle (E : hs_E) (t : cl_t) (cap X : Nat → Nat) (d : Nat) (G : hs_G) (hT : cl_T E t cap X d G) (h99 : X 99 = 0) (hJ : vJ X) (hB : X 97 ≤ 1152921504606846976) : hM E yX7_runCycle ({ frames := 8, cells := 230, slots := 1130, locals := 290 }) [.ref (X 0)] G (hs_I (fun _ G1 k n => cl_MY E t cap X d G 0 0 G1 k n)) := by
  refine hs_ofW (cc := cX7_runCycle) (maxL := 4) (ret := (some .int)) (by decide) co_X7_runCycle ?_
  intro p e s m args below meth c hC hlocks hr hin0 hnoh hW
  obtain ⟨hx, hb, hml, hown, hts, -⟩ := id hC
  have hE := hW
  have hL : ∀ q ∈ ([] : List Loc), (eH E).size ≤ q.base := fun q hq => nomatch hq
  have hl := lv_entry ([.ref (X 0)] : List Value) (n := 4) (Nat.le_of_ble_eq_true rfl)
  rw [lg_entry_eq]
  generalize (lg_sl [.ref (X 0)] ++ List.replicate (4 - (lg_sl [.ref (X 0)]).length) Slot.unset).toArray = ls at hl ⊢
  have hl : lv_has ls 4 [(0, .ref (X 0))] := hl
  refine lv_aload_n hx hb dX7_runCycle_0 rfl (lv_at hl 0 rfl) ?_
  refine hs_callV hC hs_Tok hW hL (ct_X7_gatherReadyGroups E t cap X d G hT) cw_X7_gatherReadyGroups lk_X7_239 im_X7_gatherReadyGroups se_X7_gatherReadyGroups (hs_recv hC hW hT.house rfl) hl.1 (by decide) (Nat.le_of_ble_eq_true rfl) dX7_runCycle_1 (hs_kV (fun G1 k n H locs hI hk hn hW hL => ?_))
  obtain ⟨t1, cap1, hT1, hF1, hc1, hk1, hn1⟩ := hI
  replace hk : k ≤ 230 := hk
  replace hn : n ≤ 1130 := hn
  refine lv_iconst (v := 0) hx hb dX7_runCycle_4 (by decide) ?_
  refine lv_istore_n (lv' := [(1, .int _), (0, .ref _)]) hx hb dX7_runCycle_5 rfl hl (by decide) rfl (fun ls hl => ?_)
  refine lv_iconst (v := 0) hx hb dX7_runCycle_6 (by decide) ?_
  refine lv_istore_n (lv' := [(2, .int _), (1, .int _), (0, .ref _)]) hx hb dX7_runCycle_7 rfl hl (by decide) rfl (fun ls hl => ?_)
  refine hs_loop (σ := Nat × Int32 × hs_G × (Nat → Nat)) (fun x => match x with | (j, ac, G2, Y) => 151 - j) (fun x H locs ls => match x with | (j, ac, G2, Y) => (j ≤ 151 ∧ cl_T E t1 cap1 Y d G2 ∧ cl_F t1 G1 t1 G2 ∧ (∀ n, n < 100 → Y n = X n) ∧ vJ Y) ∧ hs_W (eD E) vwCl (eH E) (G2) H ∧ (∀ q ∈ locs, (eH E).size ≤ q.base) ∧ lv_has ls 4 [(0, .ref (X 0)), (1, .int ac), (2, .int (nI j))]) ?_ (0, _, G1, X) _ _ _ ⟨⟨Nat.zero_le _, hT1, cl_F.rf, fun _ _ => rfl, hJ⟩, hW, hL, (lv_sub hl [2, 1, 0] rfl)⟩
  rintro ⟨j, ac, G2, Y⟩ H locs ls ⟨hinv, hW, hL, hl⟩ ih
  replace hW : hs_W (eD E) vwCl (eH E) (G2) H := hW
  replace hl : lv_has ls 4 [(0, .ref (X 0)), (1, .int ac), (2, .int (nI j))] := hl
  obtain ⟨hj8, hTY, hFY, hY, hJY⟩ := hinv
  refine lv_iload_n hx hb dX7_runCycle_8 rfl (lv_at hl 2 rfl) ?_
  refine lv_sipush (v := 150) hx hb dX7_runCycle_9 (by decide) ?_
  refine lv_icmp_gt (tgt := 37) hx hb dX7_runCycle_12 (by decide) (fun c12 => ?_) (fun c12 => ?_)
  · obtain ⟨Z, hTx, hFx, hZ, hJZ⟩ : ∃ Z : Nat → Nat, cl_T E t1 cap1 Z d G2 ∧ cl_F t1 G1 t1 G2 ∧ (∀ n, n < 100 → Z n = X n) ∧ vJ Z := ⟨Y, hTY, hFY, hY, hJY⟩
    have hsp := ct_X7_settleParts E t1 cap1 Z d _ hTx ((hZ 99 (by decide)).trans h99) hJZ (by rw [hZ 97 (by decide)]; exact hB)
    rw [hZ 0 (by decide)] at hsp
    have hHx := hTx.houseY hZ
    refine lv_aload_n hx hb dX7_runCycle_37 rfl (lv_at hl 0 rfl) ?_
    refine hs_callV hC hs_Tok hW hL hsp cw_X7_settleParts lk_X7_245 im_X7_settleParts se_X7_settleParts (hs_recv hC hW hHx rfl) hl.1 (by refine ⟨by decide, by decide, ?_, ?_⟩ <;> dsimp only <;> omega) (Nat.le_of_ble_eq_true rfl) dX7_runCycle_38 (hs_kV (fun G4 k3 n3 H locs hI hk3 hn3 hW hL => ?_))
    obtain ⟨rfl, rfl, ⟨V, hT4, hV1, hJ4⟩, hF4⟩ := hI
    have hV : ∀ n, n < 100 → V n = X n := fun n hn => (hV1 n hn).trans (hZ n hn)
    have hfd := ct_X7_failDueTrades E t1 cap1 V d _ hT4 ((hV 99 (by decide)).trans h99)
    rw [hV 0 (by decide)] at hfd
    refine lv_aload_n hx hb dX7_runCycle_41 rfl (lv_at hl 0 rfl) ?_
    refine hs_callV hC hs_Tok hW hL hfd cw_X7_failDueTrades lk_X7_248 im_X7_failDueTrades se_X7_failDueTrades (hs_recv hC hW (hT4.houseY hV) rfl) hl.1 (by refine ⟨by decide, by decide, ?_, ?_⟩ <;> dsimp only <;> omega) (Nat.le_of_ble_eq_true rfl) dX7_runCycle_42 (hs_kV (fun G5 k3 n3 H locs hI hk3 hn3 hW hL => ?_))
    obtain ⟨rfl, rfl, hT5, hF5⟩ := hI
    refine lv_iload_n hx hb dX7_runCycle_45 rfl (lv_at hl 1 rfl) ?_
    exact hs_iret hC hW hL hr hlocks (by show _ ≤ 230; omega) (by show _ ≤ 1130; omega) dX7_runCycle_46 ⟨_, rfl, t1, cap1, ⟨V, hT5, hV, hJ4⟩, ((hF1.tr hFx).tr hF4).tr hF5, hc1, by omega, by omega⟩
  have hj9 : j ≤ 150 := Nat.not_lt.mp fun z => c12 (by rw [show (150 : Int32) = nI 150 by decide +kernel]; exact (nI_ltI (by omega) (by omega)).mpr z)
  have hsc := ct_X7_settleCoveredGroups E t1 cap1 Y d G2 hTY ((hY 99 (by decide)).trans h99) hJY (by rw [hY 97 (by decide)]; exact hB)
  rw [hY 0 (by decide)] at hsc
  have hHy := hTY.houseY hY
  refine lv_aload_n hx hb dX7_runCycle_15 rfl (lv_at hl 0 rfl) ?_
  refine hs_callV hC hs_Tok hW hL hsc cw_X7_settleCoveredGroups lk_X7_242 im_X7_settleCoveredGroups se_X7_settleCoveredGroups (hs_recv hC hW hHy rfl) hl.1 (by refine ⟨by decide, by decide, ?_, ?_⟩ <;> dsimp only <;> omega) (Nat.le_of_ble_eq_true rfl) dX7_runCycle_16 (hs_kI (fun z G3 k3 n3 H locs hI hk3 hn3 hW hL => ?_))
  obtain ⟨rfl, rfl, ⟨Y2, hT3, hY2, hJ3⟩, hF3⟩ := hI
  have hY3 : ∀ n, n < 100 → Y2 n = X n := fun n hn => (hY2 n hn).trans (hY n hn)
  refine lv_istore_n (lv' := [(3, .int _), (0, .ref _), (1, .int _), (2, .int _)]) hx hb dX7_runCycle_19 rfl hl (by decide) rfl (fun ls hl => ?_)
  refine lv_iload_n hx hb dX7_runCycle_20 rfl (lv_at hl 0 rfl) ?_
  refine lv_if_ne (tgt := 27) hx hb dX7_runCycle_21 (by decide) (fun c21 => ?_) (fun c21 => ?_)
  · refine lv_iload_n hx hb dX7_runCycle_27 rfl (lv_at hl 2 rfl) ?_
    refine lv_iload_n hx hb dX7_runCycle_28 rfl (lv_at hl 0 rfl) ?_
    refine lv_iadd hx hb dX7_runCycle_29 ?_
    refine lv_istore_n (lv' := [(1, .int _), (3, .int _), (0, .ref _), (2, .int _)]) hx hb dX7_runCycle_30 rfl hl (by decide) rfl (fun ls hl => ?_)
    refine lv_iinc (lv' := [(2, .int _), (1, .int _), (3, .int _), (0, .ref _)]) hx hb dX7_runCycle_31 hl (k := 3) rfl rfl (by decide) rfl (fun ls hl => ?_)
    refine lv_goto (tgt := 8) hx hb dX7_runCycle_34 (by decide) ?_
    rw [hs_inc] at hl
    exact ih (j + 1, _, G3, Y2) _ _ _ (by show 151 - (j + 1) < 151 - j; omega) ⟨⟨by omega, hT3, hFY.tr hF3, hY3, hJ3⟩, hW, hL, (lv_sub hl [3, 1, 0] rfl)⟩
  refine lv_goto (tgt := 37) hx hb dX7_runCycle_24 (by decide) ?_
  obtain ⟨Z, hTx, hFx, hZ, hJZ⟩ : ∃ Z : Nat → Nat, cl_T E t1 cap1 Z d G3 ∧ cl_F t1 G1 t1 G3 ∧ (∀ n, n < 100 → Z n = X n) ∧ vJ Z := ⟨Y2, hT3, hFY.tr hF3, hY3, hJ3⟩
  have hsp := ct_X7_settleParts E t1 cap1 Z d _ hTx ((hZ 99 (by decide)).trans h99) hJZ (by rw [hZ 97 (by decide)]; exact hB)
  rw [hZ 0 (by decide)] at hsp
  have hHx := hTx.houseY hZ
  refine lv_aload_n hx hb dX7_runCycle_37 rfl (lv_at hl 1 rfl) ?_
  refine hs_callV hC hs_Tok hW hL hsp cw_X7_settleParts lk_X7_245 im_X7_settleParts se_X7_settleParts (hs_recv hC hW hHx rfl) hl.1 (by refine ⟨by decide, by decide, ?_, ?_⟩ <;> dsimp only <;> omega) (Nat.le_of_ble_eq_true rfl) dX7_runCycle_38 (hs_kV (fun G4 k3 n3 H locs hI hk3 hn3 hW hL => ?_))
  obtain ⟨rfl, rfl, ⟨V, hT4, hV1, hJ4⟩, hF4⟩ := hI
  have hV : ∀ n, n < 100 → V n = X n := fun n hn => (hV1 n hn).trans (hZ n hn)
  have hfd := ct_X7_failDueTrades E t1 cap1 V d _ hT4 ((hV 99 (by decide)).trans h99)
  rw [hV 0 (by decide)] at hfd
  refine lv_aload_n hx hb dX7_runCycle_41 rfl (lv_at hl 1 rfl) ?_
  refine hs_callV hC hs_Tok hW hL hfd cw_X7_failDueTrades lk_X7_248 im_X7_failDueTrades se_X7_failDueTrades (hs_recv hC hW (hT4.houseY hV) rfl) hl.1 (by refine ⟨by decide, by decide, ?_, ?_⟩ <;> dsimp only <;> omega) (Nat.le_of_ble_eq_true rfl) dX7_runCycle_42 (hs_kV (fun G5 k3 n3 H locs hI hk3 hn3 hW hL => ?_))
  obtain ⟨rfl, rfl, hT5, hF5⟩ := hI
  refine lv_iload_n hx hb dX7_runCycle_45 rfl (lv_at hl 2 rfl) ?_
  exact hs_iret hC hW hL hr hlocks (by show _ ≤ 230; omega) (by show _ ≤ 1130; omega) dX7_runCycle_46 ⟨_, rfl, t1, cap1, ⟨V, hT5, hV, hJ4⟩, ((hF1.tr hFx).tr hF4).tr hF5, hc1, by omega, by omega⟩
set_option maxHeartbeats 4000000 in
set_option maxRecDepth 100000 in
/-- passToNextDay -/
theorem ct_X7_passToNextDay (E : hs_E) (t : cl_t) (cap X : Nat → Nat) (d : Nat) (G : hs_G) (hT : cl_T E t cap X d G) (h99 : X 99 = 0) (hJ : vJ X) (hB : X 97 ≤ 1152921504606846976) (hd : d < 20000) : hM E yX7_passToNextDay ({ frames := 9, cells := 230, slots := 1130, locals := 320 }) [.ref (X 0)] G (hs_I (fun _ G1 k n => cl_MY E t cap X (d + 1) G 0 0 G1 k n)) := by
  refine hs_ofW (cc := cX7_passToNextDay) (maxL := 1) (ret := (some .int)) (by decide) co_X7_passToNextDay ?_
  intro p e s m args below meth c hC hlocks hr hin0 hnoh hW
  obtain ⟨hx, hb, hml, hown, hts, -⟩ := id hC
  have hE := hW
  have hL : ∀ q ∈ ([] : List Loc), (eH E).size ≤ q.base := fun q hq => nomatch hq
  have hl := lv_entry ([.ref (X 0)] : List Value) (n := 1) (Nat.le_of_ble_eq_true rfl)
  rw [lg_entry_eq]
  generalize (lg_sl [.ref (X 0)] ++ List.replicate (1 - (lg_sl [.ref (X 0)]).length) Slot.unset).toArray = ls at hl ⊢
  have hl : lv_has ls 1 [(0, .ref (X 0))] := hl
  refine lv_aload_n hx hb dX7_passToNextDay_0 rfl (lv_at hl 0 rfl) ?_
  refine hs_get hC hW hi_X7 rfl 0 (by decide) lk_X7_12 rfl hT.house rfl dX7_passToNextDay_1 ?_
  refine lv_dup hx hb dX7_passToNextDay_4 rfl ?_
  refine hs_getN hC hW hi_X0 rfl 1 (by decide) lk_X7_69 rfl hT.days rfl dX7_passToNextDay_5 ?_
  refine lv_iconst (v := 1) hx hb dX7_passToNextDay_8 (by decide) ?_
  refine lv_iadd hx hb dX7_passToNextDay_9 ?_
  rw [nI_1]
  refine hs_putN hC hW hL hi_X0 tyX0 tyX0_ok nmX0 rfl 1 (by decide) lk_X7_69 rfl rfl hT.days (hT.szX 1 (by decide)) rfl rfl (Nat.le_of_ble_eq_true rfl) dX7_passToNextDay_10 (fun H locs hW hL => ?_)
  have hT1 := hT.day (d2 := d + 1) (by omega)
  have hF1 : cl_F t G t (hs_up G (X 1) (.inr (1, [.ref (X 2), .int (nI (d + 1))]))) := cl_F.put (hT.tag 1 (by decide))
  replace hW : hs_W (eD E) vwCl (eH E) (hs_up G (X 1) (.inr (1, [.ref (X 2), .int (nI (d + 1))]))) H := hW
  refine lv_aload_n hx hb dX7_passToNextDay_13 rfl (lv_at hl 0 rfl) ?_
  refine hs_get hC hW hi_X7 rfl 0 (by decide) lk_X7_12 rfl hT1.house rfl dX7_passToNextDay_14 ?_
  refine lv_aload_n hx hb dX7_passToNextDay_17 rfl (lv_at hl 0 rfl) ?_
  refine hs_get hC hW hi_X7 rfl 0 (by decide) lk_X7_12 rfl hT1.house rfl dX7_passToNextDay_18 ?_
  refine hs_getN hC hW hi_X0 rfl 1 (by decide) lk_X7_69 rfl hT1.days rfl dX7_passToNextDay_21 ?_
  refine hs_callVN hC hs_Tok hW hL (ct_X0_isBusinessDay E t cap X (d + 1) _ hT1 (d + 1) (by omega)) cw_X0_isBusinessDay lk_X7_233 im_X0_isBusinessDay se_X0_isBusinessDay (hs_recv hC hW hT1.days rfl) hl.1 (by decide) (Nat.le_of_ble_eq_true rfl) dX7_passToNextDay_24 (hs_ke (fun x H locs hJx hW hL => ?_))
  refine lv_if_eq (tgt := 37) hx hb dX7_passToNextDay_27 (by decide) (fun c27 => ?_) (fun c27 => ?_)
  · refine lv_iconst (v := 0) hx hb dX7_passToNextDay_37 (by decide) ?_
    first
  | exact hs_iret hC hW hL hr hlocks (by show 0 + k ≤ 230; omega) (by show 0 + n ≤ 1130; omega) dX7_passToNextDay_38 ⟨_, rfl, t2, cap2, hT2, hF1.tr hF2, hc2, by omega, by omega⟩
  | exact hs_iret hC hW hL hr hlocks (by decide) (by decide) dX7_passToNextDay_38 ⟨_, rfl, t, cap, ⟨X, hT1, fun _ _ => rfl, hJ⟩, hF1, Nat.le_refl _, Nat.zero_le _, Nat.zero_le _⟩
  refine lv_aload_n hx hb dX7_passToNextDay_30 rfl (lv_at hl 0 rfl) ?_
  refine hs_callV hC hs_Tok hW hL (ct_X7_runCycle E t cap X (d + 1) _ hT1 h99 hJ hB) cw_X7_runCycle lk_X7_236 im_X7_runCycle se_X7_runCycle (hs_recv hC hW hT1.house rfl) hl.1 (by decide) (Nat.le_of_ble_eq_true rfl) dX7_passToNextDay_31 (hs_kI (fun z G2 k n H locs hI hk hn hW hL => ?_))
  obtain ⟨t2, cap2, hT2, hF2, hc2, hk2, hn2⟩ := hI
  replace hk : k ≤ 230 := hk
  replace hn : n ≤ 1130 := hn
  refine lv_goto (tgt := 38) hx hb dX7_passToNextDay_34 (by decide) ?_
  first
  | exact hs_iret hC hW hL hr hlocks (by show 0 + k ≤ 230; omega) (by show 0 + n ≤ 1130; omega) dX7_passToNextDay_38 ⟨_, rfl, t2, cap2, hT2, hF1.tr hF2, hc2, by omega, by omega⟩
  | exact hs_iret hC hW hL hr hlocks (by decide) (by decide) dX7_passToNextDay_38 ⟨_, rfl, t, cap, ⟨X, hT1, fun _ _ => rfl, hJ⟩, hF1, Nat.le_refl _, Nat.zero_le _, Nat.zero_le _⟩
