/-! the class: Vault, its numbers told -/
set_option maxHeartbeats 4000000 in
set_option maxRecDepth 100000 in
/-- Vault.held -/
theorem ct_X6_held (E : hs_E) (t : cl_t) (cap X : Nat → Nat) (d : Nat) (G : hs_G) (hT : cl_T E t cap X d G) (pa : Nat) (hp : pa < 16) (a : Int32) (ha : vp_in (a - -1) 9) : hM E yX6_held ({ frames := 0, cells := 0, slots := 0, locals := 0 }) [.ref (X 3), .int (nI pa), .int a] G (hs_pu (some (.long (vv X (20 + pa) (a - -1).toNatClampNeg))) G) := by
  refine hs_ofW (cc := cX6_held) (maxL := 3) (ret := (some .long)) (by decide) co_X6_held ?_
  intro p e s m args below meth c hC hlocks hr hin0 hnoh hW
  obtain ⟨hx, hb, hml, hown, hts, -⟩ := id hC
  have hE := hW
  have hL : ∀ q ∈ ([] : List Loc), (eH E).size ≤ q.base := fun q hq => nomatch hq
  have hl := lv_entry ([.ref (X 3), .int (nI pa), .int a] : List Value) (n := 3) (Nat.le_of_ble_eq_true rfl)
  rw [lg_entry_eq]
  generalize (lg_sl [.ref (X 3), .int (nI pa), .int a] ++ List.replicate (3 - (lg_sl [.ref (X 3), .int (nI pa), .int a]).length) Slot.unset).toArray = ls at hl ⊢
  have hl : lv_has ls 3 [(0, .ref (X 3)), (1, .int (nI pa)), (2, .int a)] := hl
  have hR := hT.row hp
  refine lv_aload_n hx hb dX6_held_0 rfl (lv_at hl 0 rfl) ?_
  refine hs_get hC hW hi_X6 rfl 0 (by decide) lk_X6_11 rfl hT.vault rfl dX6_held_1 ?_
  refine lv_iload_n hx hb dX6_held_4 rfl (lv_at hl 1 rfl) ?_
  refine hs_aald hC hW 3 (by decide) hT.cells rfl (vp_in_nI hp (by decide)) dX6_held_5 ?_
  rw [cl_rowR hp]
  refine lv_iload_n hx hb dX6_held_6 rfl (lv_at hl 2 rfl) ?_
  refine lv_iconst (v := (-1)) hx hb dX6_held_7 (by decide) ?_
  refine lv_isub hx hb dX6_held_8 ?_
  refine hs_lald hC hW 1 hR rfl ha dX6_held_9 ?_
  exact hs_lret hC hW hL hr hlocks (by decide) (by decide) dX6_held_10 ⟨rfl, rfl, rfl, rfl⟩
/-- n more of the asset i for the party a -/
def vBr (X : Nat → Nat) (a i : Nat) (n : Int64) : Nat → Nat := vS (vS X (20 + a) i (vv X (20 + a) i + n)) 5 i (vv (vS X (20 + a) i (vv X (20 + a) i + n)) 5 i + n)
set_option maxHeartbeats 4000000 in
set_option maxRecDepth 100000 in
/-- Vault.bring -/
theorem ct_X6_bring (E : hs_E) (t : cl_t) (cap X : Nat → Nat) (d : Nat) (G : hs_G) (hT : cl_T E t cap X d G) (pa : Nat) (hp : pa < 16) (a : Int32) (ha : vp_in (a - -1) 9) (n : Int32) : hM E yX6_bring ({ frames := 0, cells := 0, slots := 0, locals := 0 }) [.ref (X 3), .int (nI pa), .int a, .int n] G (hs_V (fun G1 k n9 => k = 0 ∧ n9 = 0 ∧ cl_T E t cap (vBr X pa (a - -1).toNatClampNeg n.toInt64) d G1 ∧ cl_F t G t G1)) := by
  refine hs_ofW (cc := cX6_bring) (maxL := 4) (ret := none) (by decide) co_X6_bring ?_
  intro p e s m args below meth c hC hlocks hr hin0 hnoh hW
  obtain ⟨hx, hb, hml, hown, hts, -⟩ := id hC
  have hE := hW
  have hL : ∀ q ∈ ([] : List Loc), (eH E).size ≤ q.base := fun q hq => nomatch hq
  have hl := lv_entry ([.ref (X 3), .int (nI pa), .int a, .int n] : List Value) (n := 4) (Nat.le_of_ble_eq_true rfl)
  rw [lg_entry_eq]
  generalize (lg_sl [.ref (X 3), .int (nI pa), .int a, .int n] ++ List.replicate (4 - (lg_sl [.ref (X 3), .int (nI pa), .int a, .int n]).length) Slot.unset).toArray = ls at hl ⊢
  have hl : lv_has ls 4 [(0, .ref (X 3)), (1, .int (nI pa)), (2, .int a), (3, .int n)] := hl
  have hR := hT.row hp
  refine lv_aload_n hx hb dX6_bring_0 rfl (lv_at hl 0 rfl) ?_
  refine hs_get hC hW hi_X6 rfl 0 (by decide) lk_X6_11 rfl hT.vault rfl dX6_bring_1 ?_
  refine lv_iload_n hx hb dX6_bring_4 rfl (lv_at hl 1 rfl) ?_
  refine hs_aald hC hW 3 (by decide) hT.cells rfl (vp_in_nI hp (by decide)) dX6_bring_5 ?_
  rw [cl_rowR hp]
  refine lv_iload_n hx hb dX6_bring_6 rfl (lv_at hl 2 rfl) ?_
  refine lv_iconst (v := (-1)) hx hb dX6_bring_7 (by decide) ?_
  refine lv_isub hx hb dX6_bring_8 ?_
  refine lv_dup2_11 hx hb dX6_bring_9 rfl rfl ?_
  refine hs_lald hC hW 1 hR rfl ha dX6_bring_10 ?_
  refine lv_iload_n hx hb dX6_bring_11 rfl (lv_at hl 3 rfl) ?_
  refine lv_i2l hx hb dX6_bring_12 rfl ?_
  refine lv_ladd hx hb dX6_bring_13 ?_
  refine hs_last hC hW hL 1 hR (hT.szX (20 + pa) (by omega)) rfl ha dX6_bring_14 (fun H locs hW hL => ?_)
  have hT1 := hT.pV (k := 20 + pa) (by omega) (a - -1).toNatClampNeg (vv X (20 + pa) (a - -1).toNatClampNeg + n.toInt64)
  generalize hX1 : vS X (20 + pa) (a - -1).toNatClampNeg (vv X (20 + pa) (a - -1).toNatClampNeg + n.toInt64) = X1 at hT1
  have e3 : X1 3 = X 3 := by rw [← hX1]; exact vS_lo (by decide)
  have e4 : X1 4 = X 4 := by rw [← hX1]; exact vS_lo (by decide)
  have e5 : X1 5 = X 5 := by rw [← hX1]; exact vS_lo (by decide)
  have hv1 := hT1.1.vault
  rw [e3, e4, e5] at hv1
  have hF := hT1.1.fund
  rw [e5] at hF
  refine lv_aload_n hx hb dX6_bring_15 rfl (lv_at hl 0 rfl) ?_
  refine hs_get hC hW hi_X6 rfl 1 (by decide) lk_X6_16 rfl hv1 rfl dX6_bring_16 ?_
  refine lv_iload_n hx hb dX6_bring_19 rfl (lv_at hl 2 rfl) ?_
  refine lv_iconst (v := (-1)) hx hb dX6_bring_20 (by decide) ?_
  refine lv_isub hx hb dX6_bring_21 ?_
  refine lv_dup2_11 hx hb dX6_bring_22 rfl rfl ?_
  refine hs_lald hC hW 1 hF rfl ha dX6_bring_23 ?_
  refine lv_iload_n hx hb dX6_bring_24 rfl (lv_at hl 3 rfl) ?_
  refine lv_i2l hx hb dX6_bring_25 rfl ?_
  refine lv_ladd hx hb dX6_bring_26 ?_
  refine hs_last hC hW hL 1 hF (hT.szX 5 (by decide)) rfl ha dX6_bring_27 (fun H locs hW hL => ?_)
  have hT2 := hT1.1.pV (k := 5) (Or.inl rfl) (a - -1).toNatClampNeg (vv X1 5 (a - -1).toNatClampNeg + n.toInt64)
  rw [e5] at hT2
  exact hs_vret hC hW hL hr hlocks (by decide) (by decide) dX6_bring_28 ⟨rfl, rfl, rfl, by unfold vBr; rw [hX1]; exact hT2.1, hT1.2.tr hT2.2⟩
set_option maxHeartbeats 4000000 in
set_option maxRecDepth 100000 in
/-- Vault.move -/
theorem ct_X6_move (E : hs_E) (t : cl_t) (cap X : Nat → Nat) (d : Nat) (G : hs_G) (hT : cl_T E t cap X d G) (pa pb : Nat) (hp : pa < 16) (hq : pb < 16) (a n : Int32) (ha : vp_in (a - -1) 9) : hM E yX6_move ({ frames := 0, cells := 0, slots := 0, locals := 0 }) [.ref (X 3), .int (nI pa), .int (nI pb), .int a, .int n] G (hs_V (fun G1 k n9 => k = 0 ∧ n9 = 0 ∧ cl_T E t cap (vMv X pa pb (a - -1).toNatClampNeg n.toInt64) d G1 ∧ cl_F t G t G1 ∧ ∀ q kq, t q = some kq → 40 ≤ kq.1 → G1 q = G q)) := by
  refine hs_ofW (cc := cX6_move) (maxL := 5) (ret := none) (by decide) co_X6_move ?_
  intro p e s m args below meth c hC hlocks hr hin0 hnoh hW
  obtain ⟨hx, hb, hml, hown, hts, -⟩ := id hC
  have hE := hW
  have hL : ∀ q ∈ ([] : List Loc), (eH E).size ≤ q.base := fun q hq => nomatch hq
  have hl := lv_entry ([.ref (X 3), .int (nI pa), .int (nI pb), .int a, .int n] : List Value) (n := 5) (Nat.le_of_ble_eq_true rfl)
  rw [lg_entry_eq]
  generalize (lg_sl [.ref (X 3), .int (nI pa), .int (nI pb), .int a, .int n] ++ List.replicate (5 - (lg_sl [.ref (X 3), .int (nI pa), .int (nI pb), .int a, .int n]).length) Slot.unset).toArray = ls at hl ⊢
  have hl : lv_has ls 5 [(0, .ref (X 3)), (1, .int (nI pa)), (2, .int (nI pb)), (3, .int a), (4, .int n)] := hl
  have hR := hT.row hp
  refine lv_aload_n hx hb dX6_move_0 rfl (lv_at hl 0 rfl) ?_
  refine hs_get hC hW hi_X6 rfl 0 (by decide) lk_X6_11 rfl hT.vault rfl dX6_move_1 ?_
  refine lv_iload_n hx hb dX6_move_4 rfl (lv_at hl 1 rfl) ?_
  refine hs_aald hC hW 3 (by decide) hT.cells rfl (vp_in_nI hp (by decide)) dX6_move_5 ?_
  rw [cl_rowR hp]
  refine lv_iload_n hx hb dX6_move_6 rfl (lv_at hl 3 rfl) ?_
  refine lv_iconst (v := (-1)) hx hb dX6_move_7 (by decide) ?_
  refine lv_isub hx hb dX6_move_8 ?_
  refine lv_dup2_11 hx hb dX6_move_9 rfl rfl ?_
  refine hs_lald hC hW 1 hR rfl ha dX6_move_10 ?_
  refine lv_iload hx hb dX6_move_11 (lv_at hl 4 rfl) ?_
  refine lv_i2l hx hb dX6_move_13 rfl ?_
  refine lv_lsub hx hb dX6_move_14 ?_
  refine hs_last hC hW hL 1 hR (hT.szX (20 + pa) (by omega)) rfl ha dX6_move_15 (fun H locs hW hL => ?_)
  have hT1 := hT.pV (k := 20 + pa) (by omega) (a - -1).toNatClampNeg (vv X (20 + pa) (a - -1).toNatClampNeg - n.toInt64)
  generalize hX1 : vS X (20 + pa) (a - -1).toNatClampNeg (vv X (20 + pa) (a - -1).toNatClampNeg - n.toInt64) = X1 at hT1
  have e3 : X1 3 = X 3 := by rw [← hX1]; exact vS_lo (by decide)
  have e4 : X1 4 = X 4 := by rw [← hX1]; exact vS_lo (by decide)
  have e5 : X1 5 = X 5 := by rw [← hX1]; exact vS_lo (by decide)
  have hv1 := hT1.1.vault
  rw [e3, e4, e5] at hv1
  have eX : ∀ i, i < 16 → X1 (20 + i) = X (20 + i) := fun i hi => by rw [← hX1]; exact vS_lo (by omega)
  have hF := hT1.1.row hq
  rw [eX pb hq] at hF
  have hc1 := hT1.1.cells
  rw [e4] at hc1
  refine lv_aload_n hx hb dX6_move_16 rfl (lv_at hl 0 rfl) ?_
  refine hs_get hC hW hi_X6 rfl 0 (by decide) lk_X6_11 rfl hv1 rfl dX6_move_17 ?_
  refine lv_iload_n hx hb dX6_move_20 rfl (lv_at hl 2 rfl) ?_
  refine hs_aald hC hW 3 (by decide) hc1 rfl (vp_in_nI hq (by decide)) dX6_move_21 ?_
  rw [cl_rowR hq, eX pb hq]
  refine lv_iload_n hx hb dX6_move_22 rfl (lv_at hl 3 rfl) ?_
  refine lv_iconst (v := (-1)) hx hb dX6_move_23 (by decide) ?_
  refine lv_isub hx hb dX6_move_24 ?_
  refine lv_dup2_11 hx hb dX6_move_25 rfl rfl ?_
  refine hs_lald hC hW 1 hF rfl ha dX6_move_26 ?_
  refine lv_iload hx hb dX6_move_27 (lv_at hl 4 rfl) ?_
  refine lv_i2l hx hb dX6_move_29 rfl ?_
  refine lv_ladd hx hb dX6_move_30 ?_
  refine hs_last hC hW hL 1 hF (hT.szX (20 + pb) (by omega)) rfl ha dX6_move_31 (fun H locs hW hL => ?_)
  have hT2 := hT1.1.pV (k := 20 + pb) (by omega) (a - -1).toNatClampNeg (vv X1 (20 + pb) (a - -1).toNatClampNeg + n.toInt64)
  rw [eX pb hq] at hT2
  exact hs_vret hC hW hL hr hlocks (by decide) (by decide) dX6_move_32 ⟨rfl, rfl, rfl, by unfold vMv; rw [hX1]; exact hT2.1, hT1.2.tr hT2.2, fun q kq hq9 h40 => by rw [hs_up_ne _ _ (hT.not hq9 h40 (by omega)), hs_up_ne _ _ (hT.not hq9 h40 (by omega))]⟩
theorem vsum_up {X : Nat → Nat} (h : vJ X) {i n : Nat} (hi : i < 9) (hn : n ≤ 16) : vsum X i n ≤ (X 97 : Int) := by
  obtain ⟨h1, h2, h3⟩ := h i hi
  have key : ∀ m : Nat, n ≤ m → m ≤ 16 → vsum X i n ≤ vsum X i m := by
    intro m
    induction m with
    | zero => intro z _; rw [show n = 0 by omega]; exact Int.le_refl _
    | succ m ih =>
      intro z1 z2
      rcases Nat.lt_or_ge m n with y | y
      · rw [show n = m + 1 by omega]; exact Int.le_refl _
      · have w1 := ih y (by omega)
        have w2 := h1 m (by omega)
        show vsum X i n ≤ vsum X i m + (vv X (20 + m) i).toInt
        omega
  have := key 16 hn (by omega)
  omega
theorem vp_lt {i : Int32} {n : Nat} (h : vp_in i n) : i.toNatClampNeg < n := Nat.not_le.mp fun q => h (Or.inr q)
theorem i64_eq {a b : Int64} (h : a.toInt = b.toInt) : a = b := Int64.toInt_inj.mp h
theorem i64_ge {a : Int64} (h : 0 ≤ a.toInt) : lg_cmp a 0 ≥ 0 := by
  show 0 ≤ lg_cmp a 0
  rw [lg_cmp_ge]
  first | exact (Int64.le_iff_toInt_le.mpr (by rw [Int64.toInt_zero]; exact h)) | exact (show (0 : Int64) ≤ a from Int64.le_iff_toInt_le.mpr (by rw [Int64.toInt_zero]; exact h))
set_option maxHeartbeats 4000000 in
set_option maxRecDepth 100000 in
/-- Vault.isAstray -/
theorem ct_X6_isAstray (E : hs_E) (t : cl_t) (cap X : Nat → Nat) (d : Nat) (G : hs_G) (hT : cl_T E t cap X d G) (a : Int32) (ha : vp_in (a - -1) 9) (hJ : vJ X) (hB : X 97 ≤ 1152921504606846976) : hM E yX6_isAstray ({ frames := 1, cells := 0, slots := 0, locals := 40 }) [.ref (X 3), .int a] G (hs_pu (some (.int 0)) G) := by
  refine hs_ofW (cc := cX6_isAstray) (maxL := 6) (ret := (some .boolean)) (by decide) co_X6_isAstray ?_
  intro p e s m args below meth c hC hlocks hr hin0 hnoh hW
  obtain ⟨hx, hb, hml, hown, hts, -⟩ := id hC
  have hE := hW
  have hL : ∀ q ∈ ([] : List Loc), (eH E).size ≤ q.base := fun q hq => nomatch hq
  have hl := lv_entry ([.ref (X 3), .int a] : List Value) (n := 6) (Nat.le_of_ble_eq_true rfl)
  rw [lg_entry_eq]
  generalize (lg_sl [.ref (X 3), .int a] ++ List.replicate (6 - (lg_sl [.ref (X 3), .int a]).length) Slot.unset).toArray = ls at hl ⊢
  have hl : lv_has ls 6 [(0, .ref (X 3)), (1, .int a)] := hl
  have hF := hT.fund
  have ai9 := vp_lt ha
  refine lv_lconst (v := 0) hx hb dX6_isAstray_0 (by decide) ?_
  refine lv_lstore_n (lv' := [(2, .long _), (0, .ref _), (1, .int _)]) hx hb dX6_isAstray_1 rfl hl (by decide) rfl (fun ls hl => ?_)
  refine lv_iconst (v := 0) hx hb dX6_isAstray_2 (by decide) ?_
  refine lv_istore (lv' := [(4, .int _), (2, .long _), (0, .ref _), (1, .int _)]) hx hb dX6_isAstray_3 hl (by decide) rfl (fun ls hl => ?_)
  refine lv_iconst (v := 0) hx hb dX6_isAstray_5 (by decide) ?_
  refine lv_istore (lv' := [(5, .int _), (4, .int _), (2, .long _), (0, .ref _), (1, .int _)]) hx hb dX6_isAstray_6 hl (by decide) rfl (fun ls hl => ?_)
  refine hs_loop (σ := Nat × Int64) (fun x => match x with | (i, su) => 16 - i) (fun x H locs ls => match x with | (i, su) => (i ≤ 16 ∧ su.toInt = vsum X (a - -1).toNatClampNeg i) ∧ hs_W (eD E) vwCl (eH E) (G) H ∧ (∀ q ∈ locs, (eH E).size ≤ q.base) ∧ lv_has ls 6 [(0, .ref (X 3)), (1, .int a), (2, .long su), (4, .int 0), (5, .int (nI i))]) ?_ (0, 0) _ _ _ ⟨⟨Nat.zero_le _, rfl⟩, hW, hL, (lv_sub hl [3, 4, 2, 1, 0] rfl)⟩
  rintro ⟨i, su⟩ H locs ls ⟨hinv, hW, hL, hl⟩ ih
  replace hW : hs_W (eD E) vwCl (eH E) (G) H := hW
  replace hl : lv_has ls 6 [(0, .ref (X 3)), (1, .int a), (2, .long su), (4, .int 0), (5, .int (nI i))] := hl
  refine lv_iload hx hb dX6_isAstray_8 (lv_at hl 4 rfl) ?_
  refine lv_bipush (v := 16) hx hb dX6_isAstray_10 (by decide) ?_
  refine lv_icmp_ge (tgt := 55) hx hb dX6_isAstray_12 (by decide) (fun c12 => ?_) (fun c12 => ?_)
  · have hi8 : i = 16 := Nat.le_antisymm hinv.1 ((nI_leI (a := 16) (b := i) (by decide) (by omega)).mp (by rw [show nI 16 = (16 : Int32) by decide +kernel]; exact c12))
    refine lv_iload hx hb dX6_isAstray_55 (lv_at hl 3 rfl) ?_
    refine lv_if_ne (tgt := 73) hx hb dX6_isAstray_57 (by decide) (fun c57 => ?_) (fun c57 => ?_)
    · exact absurd c57 (by first | decide | simp [mo_up])
    refine lv_lload_n hx hb dX6_isAstray_60 rfl (lv_at hl 2 rfl) ?_
    refine lv_aload_n hx hb dX6_isAstray_61 rfl (lv_at hl 0 rfl) ?_
    refine hs_get hC hW hi_X6 rfl 1 (by decide) lk_X6_16 rfl hT.vault rfl dX6_isAstray_62 ?_
    refine lv_iload_n hx hb dX6_isAstray_65 rfl (lv_at hl 1 rfl) ?_
    refine lv_iconst (v := (-1)) hx hb dX6_isAstray_66 (by decide) ?_
    refine lv_isub hx hb dX6_isAstray_67 ?_
    refine hs_lald hC hW 1 hF rfl ha dX6_isAstray_68 ?_
    refine W.lcmp hx hb dX6_isAstray_69 ?_
    refine lv_if_eq (tgt := 77) hx hb dX6_isAstray_70 (by decide) (fun c70 => ?_) (fun c70 => ?_)
    · refine lv_iconst (v := 0) hx hb dX6_isAstray_77 (by decide) ?_
      exact hs_zret hC hW hL hr hlocks (by decide) (by decide) dX6_isAstray_78 (by rfl) ⟨rfl, rfl, rfl, rfl⟩
    exact absurd ((lg_cmp_eq _ _).mpr (i64_eq (by rw [hinv.2, hi8]; exact (hJ (a - -1).toNatClampNeg ai9).2.1))) c70
  have hi9 : i < 16 := Nat.not_le.mp fun z => c12 (by rw [show (16 : Int32) = nI 16 by decide +kernel]; exact (nI_leI (by omega) (by omega)).mpr z)
  refine lv_lload_n hx hb dX6_isAstray_15 rfl (lv_at hl 2 rfl) ?_
  refine lv_aload_n hx hb dX6_isAstray_16 rfl (lv_at hl 0 rfl) ?_
  refine lv_iload hx hb dX6_isAstray_17 (lv_at hl 4 rfl) ?_
  refine lv_iload_n hx hb dX6_isAstray_19 rfl (lv_at hl 1 rfl) ?_
  refine hs_callV hC hs_Tok hW hL (ct_X6_held E t cap X d G hT i hi9 a ha) cw_X6_held lk_X6_20 im_X6_held se_X6_held (hs_recv hC hW hT.vault rfl) hl.1 (by decide) (Nat.le_of_ble_eq_true rfl) dX6_isAstray_20 (hs_kp1 (fun H locs hW hL => ?_))
  refine lv_ladd hx hb dX6_isAstray_23 ?_
  refine lv_lstore_n (lv' := [(2, .long _), (0, .ref _), (1, .int _), (4, .int _), (5, .int _)]) hx hb dX6_isAstray_24 rfl hl (by decide) rfl (fun ls hl => ?_)
  refine lv_iload hx hb dX6_isAstray_25 (lv_at hl 3 rfl) ?_
  refine lv_if_ne (tgt := 42) hx hb dX6_isAstray_27 (by decide) (fun c27 => ?_) (fun c27 => ?_)
  · exact absurd c27 (by first | decide | simp [mo_up])
  refine lv_aload_n hx hb dX6_isAstray_30 rfl (lv_at hl 1 rfl) ?_
  refine lv_iload hx hb dX6_isAstray_31 (lv_at hl 4 rfl) ?_
  refine lv_iload_n hx hb dX6_isAstray_33 rfl (lv_at hl 2 rfl) ?_
  refine hs_callV hC hs_Tok hW hL (ct_X6_held E t cap X d G hT i hi9 a ha) cw_X6_held lk_X6_20 im_X6_held se_X6_held (hs_recv hC hW hT.vault rfl) hl.1 (by decide) (Nat.le_of_ble_eq_true rfl) dX6_isAstray_34 (hs_kp1 (fun H locs hW hL => ?_))
  refine lv_lconst (v := 0) hx hb dX6_isAstray_37 (by decide) ?_
  refine W.lcmp hx hb dX6_isAstray_38 ?_
  refine lv_if_ge (tgt := 46) hx hb dX6_isAstray_39 (by decide) (fun c39 => ?_) (fun c39 => ?_)
  · refine lv_iconst (v := 0) hx hb dX6_isAstray_46 (by decide) ?_
    refine lv_istore (lv' := [(4, .int _), (2, .long _), (0, .ref _), (1, .int _), (5, .int _)]) hx hb dX6_isAstray_47 hl (by decide) rfl (fun ls hl => ?_)
    refine lv_iinc (lv' := [(5, .int _), (4, .int _), (2, .long _), (0, .ref _), (1, .int _)]) hx hb dX6_isAstray_49 hl (k := 4) rfl rfl (by decide) rfl (fun ls hl => ?_)
    refine lv_goto (tgt := 8) hx hb dX6_isAstray_52 (by decide) ?_
    rw [hs_inc] at hl
    have hs9 : (su + vv X (20 + i) (a - -1).toNatClampNeg).toInt = vsum X (a - -1).toNatClampNeg (i + 1) := by (have z1 := (hJ.le (i := (a - -1).toNatClampNeg) ai9 (p := i) hi9)); (have z2 := vsum_nn (X := X) (i := (a - -1).toNatClampNeg) i (fun p hp => ((hJ (a - -1).toNatClampNeg ai9).1 p (by omega)))); (have z3 := vsum_up hJ ai9 (n := i) (by omega)); rw [i64_add (by omega) (by omega), hinv.2]; rfl
    exact ih (i + 1, _) _ _ _ (by show 16 - (i + 1) < 16 - i; omega) ⟨⟨by omega, hs9⟩, hW, hL, (lv_sub hl [3, 4, 2, 1, 0] rfl)⟩
  exact absurd (i64_ge (hJ.le (i := (a - -1).toNatClampNeg) ai9 (p := i) hi9).1) c39
