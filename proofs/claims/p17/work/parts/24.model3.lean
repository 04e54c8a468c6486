/-! the reference: loops that only read -/
set_option maxHeartbeats 4000000 in
set_option maxRecDepth 100000 in
/-- Model.sizeOf -/
theorem ct_X8_sizeOf (E : hs_E) (mo : Nat) (ar : Nat → Nat) (ix : Nat → Option Nat) (sc : Nat → Int32) (mI : Nat → Nat → Int32) (mL : Nat → Nat → Int64) (F : hs_G) (ha : mo_ok E mo ar ix) (g : Int32) (N d S : Nat) (hI : mo_B sc mI N d S) : hM E yX8_sizeOf ({ frames := 0, cells := 0, slots := 0, locals := 0 }) [.ref mo, .int g] (mo_W E mo ar ix sc mI mL F) (fun r G1 k n => ∃ x : Int32, hs_pu (some (.int x)) (mo_W E mo ar ix sc mI mL F) r G1 k n ∧ True) := by
  refine hs_ofW (cc := cX8_sizeOf) (maxL := 4) (ret := (some .int)) (by decide) co_X8_sizeOf ?_
  intro p e s m args below meth c hC hlocks hr hin0 hnoh hW
  obtain ⟨hx, hb, hml, hown, hts, -⟩ := id hC
  have hE := hW
  have hL : ∀ q ∈ ([] : List Loc), (eH E).size ≤ q.base := fun q hq => nomatch hq
  have hl := lv_entry ([.ref mo, .int g] : List Value) (n := 4) (Nat.le_of_ble_eq_true rfl)
  rw [lg_entry_eq]
  generalize (lg_sl [.ref mo, .int g] ++ List.replicate (4 - (lg_sl [.ref mo, .int g]).length) Slot.unset).toArray = ls at hl ⊢
  have hl : lv_has ls 4 [(0, .ref mo), (1, .int g)] := hl
  refine lv_iconst (v := 0) hx hb dX8_sizeOf_0 (by decide) ?_
  refine lv_istore_n (lv' := [(2, .int _), (0, .ref _), (1, .int _)]) hx hb dX8_sizeOf_1 rfl hl (by decide) rfl (fun ls hl => ?_)
  refine lv_iconst (v := 0) hx hb dX8_sizeOf_2 (by decide) ?_
  refine lv_istore_n (lv' := [(3, .int _), (2, .int _), (0, .ref _), (1, .int _)]) hx hb dX8_sizeOf_3 rfl hl (by decide) rfl (fun ls hl => ?_)
  refine hs_loop (σ := Nat × Int32) (fun x => match x with | (i, acc) => N - i) (fun x H locs ls => match x with | (i, acc) => (i ≤ N) ∧ hs_W (eD E) vwCl (eH E) (mo_W E mo ar ix sc mI mL F) H ∧ (∀ q ∈ locs, (eH E).size ≤ q.base) ∧ lv_has ls 4 [(0, .ref mo), (1, .int g), (2, .int acc), (3, .int (nI i))]) ?_ (0, 0) _ _ _ ⟨Nat.zero_le _, hW, hL, (lv_sub hl [2, 3, 1, 0] rfl)⟩
  rintro ⟨i, acc⟩ H locs ls ⟨hinv, hW, hL, hl⟩ ih
  replace hW : hs_W (eD E) vwCl (eH E) (mo_W E mo ar ix sc mI mL F) H := hW
  replace hl : lv_has ls 4 [(0, .ref mo), (1, .int g), (2, .int acc), (3, .int (nI i))] := hl
  refine lv_iload_n hx hb dX8_sizeOf_4 rfl (lv_at hl 3 rfl) ?_
  refine lv_aload_n hx hb dX8_sizeOf_5 rfl (lv_at hl 0 rfl) ?_
  refine hs_get hC hW hi_X8 rfl 4 (by decide) lk_X8_107 rfl mo_obj rfl dX8_sizeOf_6 ?_
  refine lv_icmp_ge (tgt := 40) hx hb dX8_sizeOf_9 (by decide) (fun c9 => ?_) (fun c9 => ?_)
  · refine lv_iload_n hx hb dX8_sizeOf_40 rfl (lv_at hl 2 rfl) ?_
    exact hs_iret hC hW hL hr hlocks (by decide) (by decide) dX8_sizeOf_41 ⟨_, ⟨rfl, rfl, rfl, rfl⟩, trivial⟩
  have hlt : i < N := hs_ltN hI.1 (by have := hI.2.1; omega) (by have := hI.2.1; omega) c9
  have hi150 : i < 150 := Nat.lt_of_lt_of_le hlt hI.2.1
  have hin : vp_in (nI i) 150 := vp_in_nI hi150 (by decide)
  have hcl : (nI i).toNatClampNeg = i := nI_clamp (by omega)
  refine lv_iload_n hx hb dX8_sizeOf_12 rfl (lv_at hl 1 rfl) ?_
  refine lv_if_lt (tgt := 40) hx hb dX8_sizeOf_13 (by decide) (fun c13 => ?_) (fun c13 => ?_)
  · refine lv_iload_n hx hb dX8_sizeOf_40 rfl (lv_at hl 2 rfl) ?_
    exact hs_iret hC hW hL hr hlocks (by decide) (by decide) dX8_sizeOf_41 ⟨_, ⟨rfl, rfl, rfl, rfl⟩, trivial⟩
  refine lv_iload_n hx hb dX8_sizeOf_16 rfl (lv_at hl 2 rfl) ?_
  refine lv_aload_n hx hb dX8_sizeOf_17 rfl (lv_at hl 0 rfl) ?_
  refine hs_get hC hW hi_X8 rfl 22 (by decide) lk_X8_69 rfl mo_obj rfl dX8_sizeOf_18 ?_
  refine lv_iload_n hx hb dX8_sizeOf_21 rfl (lv_at hl 3 rfl) ?_
  refine hs_iald hC hW 0 (mo_int ha.1 22 rfl) rfl hin dX8_sizeOf_22 ?_
  refine lv_iload_n hx hb dX8_sizeOf_23 rfl (lv_at hl 1 rfl) ?_
  refine lv_icmp_ne (tgt := 31) hx hb dX8_sizeOf_24 (by decide) (fun c24 => ?_) (fun c24 => ?_)
  · refine lv_iconst (v := 0) hx hb dX8_sizeOf_31 (by decide) ?_
    refine lv_iadd hx hb dX8_sizeOf_32 ?_
    refine lv_istore_n (lv' := [(2, .int _), (0, .ref _), (1, .int _), (3, .int _)]) hx hb dX8_sizeOf_33 rfl hl (by decide) rfl (fun ls hl => ?_)
    refine lv_iinc (lv' := [(3, .int _), (2, .int _), (0, .ref _), (1, .int _)]) hx hb dX8_sizeOf_34 hl (k := 3) rfl rfl (by decide) rfl (fun ls hl => ?_)
    refine lv_goto (tgt := 4) hx hb dX8_sizeOf_37 (by decide) ?_
    rw [hs_inc] at hl
    exact ih (i + 1, _) _ _ _ (by first | decide | (simp only []; omega) | omega) ⟨hlt, hW, hL, (lv_sub hl [2, 3, 1, 0] rfl)⟩
  refine lv_iconst (v := 1) hx hb dX8_sizeOf_27 (by decide) ?_
  refine lv_goto (tgt := 32) hx hb dX8_sizeOf_28 (by decide) ?_
  refine lv_iadd hx hb dX8_sizeOf_32 ?_
  refine lv_istore_n (lv' := [(2, .int _), (0, .ref _), (1, .int _), (3, .int _)]) hx hb dX8_sizeOf_33 rfl hl (by decide) rfl (fun ls hl => ?_)
  refine lv_iinc (lv' := [(3, .int _), (2, .int _), (0, .ref _), (1, .int _)]) hx hb dX8_sizeOf_34 hl (k := 3) rfl rfl (by decide) rfl (fun ls hl => ?_)
  refine lv_goto (tgt := 4) hx hb dX8_sizeOf_37 (by decide) ?_
  rw [hs_inc] at hl
  exact ih (i + 1, _) _ _ _ (by first | decide | (simp only []; omega) | omega) ⟨hlt, hW, hL, (lv_sub hl [2, 3, 1, 0] rfl)⟩
set_option maxHeartbeats 4000000 in
set_option maxRecDepth 100000 in
/-- Model.isReady -/
theorem ct_X8_isReady (E : hs_E) (mo : Nat) (ar : Nat → Nat) (ix : Nat → Option Nat) (sc : Nat → Int32) (mI : Nat → Nat → Int32) (mL : Nat → Nat → Int64) (F : hs_G) (ha : mo_ok E mo ar ix) (g : Int32) (N d S : Nat) (hI : mo_B sc mI N d S) : hM E yX8_isReady ({ frames := 0, cells := 0, slots := 0, locals := 0 }) [.ref mo, .int g] (mo_W E mo ar ix sc mI mL F) (fun r G1 k n => ∃ x : Int32, hs_pu (some (.int x)) (mo_W E mo ar ix sc mI mL F) r G1 k n ∧ (x = 0 ∨ x = 1) ∧ (¬ x = 0 → ∀ t, t < N → mI 22 t = g → mI 16 t ≤ sc 1)) := by
  refine hs_ofW (cc := cX8_isReady) (maxL := 4) (ret := (some .boolean)) (by decide) co_X8_isReady ?_
  intro p e s m args below meth c hC hlocks hr hin0 hnoh hW
  obtain ⟨hx, hb, hml, hown, hts, -⟩ := id hC
  have hE := hW
  have hL : ∀ q ∈ ([] : List Loc), (eH E).size ≤ q.base := fun q hq => nomatch hq
  have hl := lv_entry ([.ref mo, .int g] : List Value) (n := 4) (Nat.le_of_ble_eq_true rfl)
  rw [lg_entry_eq]
  generalize (lg_sl [.ref mo, .int g] ++ List.replicate (4 - (lg_sl [.ref mo, .int g]).length) Slot.unset).toArray = ls at hl ⊢
  have hl : lv_has ls 4 [(0, .ref mo), (1, .int g)] := hl
  refine lv_iconst (v := 1) hx hb dX8_isReady_0 (by decide) ?_
  refine lv_istore_n (lv' := [(2, .int _), (0, .ref _), (1, .int _)]) hx hb dX8_isReady_1 rfl hl (by decide) rfl (fun ls hl => ?_)
  refine lv_iconst (v := 0) hx hb dX8_isReady_2 (by decide) ?_
  refine lv_istore_n (lv' := [(3, .int _), (2, .int _), (0, .ref _), (1, .int _)]) hx hb dX8_isReady_3 rfl hl (by decide) rfl (fun ls hl => ?_)
  refine hs_loop (σ := Nat × Int32) (fun x => match x with | (i, acc) => N - i) (fun x H locs ls => match x with | (i, acc) => (i ≤ N ∧ (acc = 0 ∨ acc = 1) ∧ (¬ acc = 0 → ∀ t, t < i → mI 22 t = g → mI 16 t ≤ sc 1)) ∧ hs_W (eD E) vwCl (eH E) (mo_W E mo ar ix sc mI mL F) H ∧ (∀ q ∈ locs, (eH E).size ≤ q.base) ∧ lv_has ls 4 [(0, .ref mo), (1, .int g), (2, .int acc), (3, .int (nI i))]) ?_ (0, 1) _ _ _ ⟨⟨Nat.zero_le _, Or.inr rfl, fun _ => lt_0⟩, hW, hL, (lv_sub hl [2, 3, 1, 0] rfl)⟩
  rintro ⟨i, acc⟩ H locs ls ⟨hinv, hW, hL, hl⟩ ih
  replace hW : hs_W (eD E) vwCl (eH E) (mo_W E mo ar ix sc mI mL F) H := hW
  replace hl : lv_has ls 4 [(0, .ref mo), (1, .int g), (2, .int acc), (3, .int (nI i))] := hl
  refine lv_iload_n hx hb dX8_isReady_4 rfl (lv_at hl 3 rfl) ?_
  refine lv_aload_n hx hb dX8_isReady_5 rfl (lv_at hl 0 rfl) ?_
  refine hs_get hC hW hi_X8 rfl 4 (by decide) lk_X8_107 rfl mo_obj rfl dX8_isReady_6 ?_
  refine lv_icmp_ge (tgt := 60) hx hb dX8_isReady_9 (by decide) (fun c9 => ?_) (fun c9 => ?_)
  · refine lv_iload_n hx hb dX8_isReady_60 rfl (lv_at hl 2 rfl) ?_
    exact hs_zret hC hW hL hr hlocks (by decide) (by decide) dX8_isReady_61 (by rcases hinv.2.1 with q | q <;> rw [q] <;> rfl) ⟨_, ⟨rfl, rfl, rfl, rfl⟩, hinv.2.1, fun q t ht => hinv.2.2 q t (Nat.lt_of_lt_of_le ht (hs_geN hI.1 (by have := hI.2.1; omega) (by have := hI.2.1; omega) c9))⟩
  have hlt : i < N := hs_ltN hI.1 (by have := hI.2.1; omega) (by have := hI.2.1; omega) c9
  have hi150 : i < 150 := Nat.lt_of_lt_of_le hlt hI.2.1
  have hin : vp_in (nI i) 150 := vp_in_nI hi150 (by decide)
  have hcl : (nI i).toNatClampNeg = i := nI_clamp (by omega)
  refine lv_iload_n hx hb dX8_isReady_12 rfl (lv_at hl 2 rfl) ?_
  refine lv_if_eq (tgt := 52) hx hb dX8_isReady_13 (by decide) (fun c13 => ?_) (fun c13 => ?_)
  · refine lv_iconst (v := 0) hx hb dX8_isReady_52 (by decide) ?_
    refine lv_istore_n (lv' := [(2, .int _), (0, .ref _), (1, .int _), (3, .int _)]) hx hb dX8_isReady_53 rfl hl (by decide) rfl (fun ls hl => ?_)
    refine lv_iinc (lv' := [(3, .int _), (2, .int _), (0, .ref _), (1, .int _)]) hx hb dX8_isReady_54 hl (k := 3) rfl rfl (by decide) rfl (fun ls hl => ?_)
    refine lv_goto (tgt := 4) hx hb dX8_isReady_57 (by decide) ?_
    rw [hs_inc] at hl
    exact ih (i + 1, _) _ _ _ (by first | decide | (simp only []; omega) | omega) ⟨⟨hlt, Or.inl rfl, fun q => absurd rfl q⟩, hW, hL, (lv_sub hl [2, 3, 1, 0] rfl)⟩
  refine lv_aload_n hx hb dX8_isReady_16 rfl (lv_at hl 0 rfl) ?_
  refine hs_get hC hW hi_X8 rfl 22 (by decide) lk_X8_69 rfl mo_obj rfl dX8_isReady_17 ?_
  refine lv_iload_n hx hb dX8_isReady_20 rfl (lv_at hl 3 rfl) ?_
  refine hs_iald hC hW 0 (mo_int ha.1 22 rfl) rfl hin dX8_isReady_21 ?_
  refine lv_iload_n hx hb dX8_isReady_22 rfl (lv_at hl 1 rfl) ?_
  refine lv_icmp_ne (tgt := 48) hx hb dX8_isReady_23 (by decide) (fun c23 => ?_) (fun c23 => ?_)
  · refine lv_iconst (v := 1) hx hb dX8_isReady_48 (by decide) ?_
    refine lv_goto (tgt := 53) hx hb dX8_isReady_49 (by decide) ?_
    refine lv_istore_n (lv' := [(2, .int _), (0, .ref _), (1, .int _), (3, .int _)]) hx hb dX8_isReady_53 rfl hl (by decide) rfl (fun ls hl => ?_)
    refine lv_iinc (lv' := [(3, .int _), (2, .int _), (0, .ref _), (1, .int _)]) hx hb dX8_isReady_54 hl (k := 3) rfl rfl (by decide) rfl (fun ls hl => ?_)
    refine lv_goto (tgt := 4) hx hb dX8_isReady_57 (by decide) ?_
    rw [hs_inc] at hl
    exact ih (i + 1, _) _ _ _ (by first | decide | (simp only []; omega) | omega) ⟨⟨hlt, Or.inr rfl, fun _ t ht => lt_s (p := fun t => mI 22 t = g → mI 16 t ≤ sc 1) (hinv.2.2 c13) (fun q => absurd (by rw [hcl]; exact q) c23) t ht⟩, hW, hL, (lv_sub hl [2, 3, 1, 0] rfl)⟩
  refine lv_aload_n hx hb dX8_isReady_26 rfl (lv_at hl 0 rfl) ?_
  refine hs_get hC hW hi_X8 rfl 16 (by decide) lk_X8_51 rfl mo_obj rfl dX8_isReady_27 ?_
  refine lv_iload_n hx hb dX8_isReady_30 rfl (lv_at hl 3 rfl) ?_
  refine hs_iald hC hW 0 (mo_int ha.1 16 rfl) rfl hin dX8_isReady_31 ?_
  refine lv_aload_n hx hb dX8_isReady_32 rfl (lv_at hl 0 rfl) ?_
  refine hs_get hC hW hi_X8 rfl 1 (by decide) lk_X8_129 rfl mo_obj rfl dX8_isReady_33 ?_
  refine lv_icmp_gt (tgt := 52) hx hb dX8_isReady_36 (by decide) (fun c36 => ?_) (fun c36 => ?_)
  · refine lv_iconst (v := 0) hx hb dX8_isReady_52 (by decide) ?_
    refine lv_istore_n (lv' := [(2, .int _), (0, .ref _), (1, .int _), (3, .int _)]) hx hb dX8_isReady_53 rfl hl (by decide) rfl (fun ls hl => ?_)
    refine lv_iinc (lv' := [(3, .int _), (2, .int _), (0, .ref _), (1, .int _)]) hx hb dX8_isReady_54 hl (k := 3) rfl rfl (by decide) rfl (fun ls hl => ?_)
    refine lv_goto (tgt := 4) hx hb dX8_isReady_57 (by decide) ?_
    rw [hs_inc] at hl
    exact ih (i + 1, _) _ _ _ (by first | decide | (simp only []; omega) | omega) ⟨⟨hlt, Or.inl rfl, fun q => absurd rfl q⟩, hW, hL, (lv_sub hl [2, 3, 1, 0] rfl)⟩
  refine lv_aload_n hx hb dX8_isReady_39 rfl (lv_at hl 0 rfl) ?_
  refine hs_get hC hW hi_X8 rfl 17 (by decide) lk_X8_54 rfl mo_obj rfl dX8_isReady_40 ?_
  refine lv_iload_n hx hb dX8_isReady_43 rfl (lv_at hl 3 rfl) ?_
  refine hs_iald hC hW 0 (mo_int ha.1 17 rfl) rfl hin dX8_isReady_44 ?_
  refine lv_if_ne (tgt := 52) hx hb dX8_isReady_45 (by decide) (fun c45 => ?_) (fun c45 => ?_)
  · refine lv_iconst (v := 0) hx hb dX8_isReady_52 (by decide) ?_
    refine lv_istore_n (lv' := [(2, .int _), (0, .ref _), (1, .int _), (3, .int _)]) hx hb dX8_isReady_53 rfl hl (by decide) rfl (fun ls hl => ?_)
    refine lv_iinc (lv' := [(3, .int _), (2, .int _), (0, .ref _), (1, .int _)]) hx hb dX8_isReady_54 hl (k := 3) rfl rfl (by decide) rfl (fun ls hl => ?_)
    refine lv_goto (tgt := 4) hx hb dX8_isReady_57 (by decide) ?_
    rw [hs_inc] at hl
    exact ih (i + 1, _) _ _ _ (by first | decide | (simp only []; omega) | omega) ⟨⟨hlt, by first | exact Or.inr rfl | exact Or.inl rfl, fun q => by first | exact absurd rfl q | exact fun t ht => lt_s (p := fun t => mI 22 t = g → mI 16 t ≤ sc 1) (hinv.2.2 c13) (fun _ => by rw [hcl] at c36; exact Int32.not_lt.mp c36) t ht⟩, hW, hL, (lv_sub hl [2, 3, 1, 0] rfl)⟩
  refine lv_iconst (v := 1) hx hb dX8_isReady_48 (by decide) ?_
  refine lv_goto (tgt := 53) hx hb dX8_isReady_49 (by decide) ?_
  refine lv_istore_n (lv' := [(2, .int _), (0, .ref _), (1, .int _), (3, .int _)]) hx hb dX8_isReady_53 rfl hl (by decide) rfl (fun ls hl => ?_)
  refine lv_iinc (lv' := [(3, .int _), (2, .int _), (0, .ref _), (1, .int _)]) hx hb dX8_isReady_54 hl (k := 3) rfl rfl (by decide) rfl (fun ls hl => ?_)
  refine lv_goto (tgt := 4) hx hb dX8_isReady_57 (by decide) ?_
  rw [hs_inc] at hl
  exact ih (i + 1, _) _ _ _ (by first | decide | (simp only []; omega) | omega) ⟨⟨hlt, by first | exact Or.inr rfl | exact Or.inl rfl, fun q => by first | exact absurd rfl q | exact fun t ht => lt_s (p := fun t => mI 22 t = g → mI 16 t ≤ sc 1) (hinv.2.2 c13) (fun _ => by rw [hcl] at c36; exact Int32.not_lt.mp c36) t ht⟩, hW, hL, (lv_sub hl [2, 3, 1, 0] rfl)⟩
set_option maxHeartbeats 4000000 in
set_option maxRecDepth 100000 in
/-- Model.priorityOf -/
theorem ct_X8_priorityOf (E : hs_E) (mo : Nat) (ar : Nat → Nat) (ix : Nat → Option Nat) (sc : Nat → Int32) (mI : Nat → Nat → Int32) (mL : Nat → Nat → Int64) (F : hs_G) (ha : mo_ok E mo ar ix) (g : Int32) (N d S : Nat) (hI : mo_B sc mI N d S) : hM E yX8_priorityOf ({ frames := 0, cells := 0, slots := 0, locals := 0 }) [.ref mo, .int g] (mo_W E mo ar ix sc mI mL F) (hs_pu (some (.int (mo_pri (mI 22) (mI 19) g N))) (mo_W E mo ar ix sc mI mL F)) := by
  refine hs_ofW (cc := cX8_priorityOf) (maxL := 4) (ret := (some .int)) (by decide) co_X8_priorityOf ?_
  intro p e s m args below meth c hC hlocks hr hin0 hnoh hW
  obtain ⟨hx, hb, hml, hown, hts, -⟩ := id hC
  have hE := hW
  have hL : ∀ q ∈ ([] : List Loc), (eH E).size ≤ q.base := fun q hq => nomatch hq
  have hl := lv_entry ([.ref mo, .int g] : List Value) (n := 4) (Nat.le_of_ble_eq_true rfl)
  rw [lg_entry_eq]
  generalize (lg_sl [.ref mo, .int g] ++ List.replicate (4 - (lg_sl [.ref mo, .int g]).length) Slot.unset).toArray = ls at hl ⊢
  have hl : lv_has ls 4 [(0, .ref mo), (1, .int g)] := hl
  refine lv_iconst (v := 0) hx hb dX8_priorityOf_0 (by decide) ?_
  refine lv_istore_n (lv' := [(2, .int _), (0, .ref _), (1, .int _)]) hx hb dX8_priorityOf_1 rfl hl (by decide) rfl (fun ls hl => ?_)
  refine lv_iconst (v := 0) hx hb dX8_priorityOf_2 (by decide) ?_
  refine lv_istore_n (lv' := [(3, .int _), (2, .int _), (0, .ref _), (1, .int _)]) hx hb dX8_priorityOf_3 rfl hl (by decide) rfl (fun ls hl => ?_)
  refine hs_loop (σ := Nat × Int32) (fun x => match x with | (i, acc) => N - i) (fun x H locs ls => match x with | (i, acc) => (i ≤ N ∧ acc = mo_pri (mI 22) (mI 19) g i) ∧ hs_W (eD E) vwCl (eH E) (mo_W E mo ar ix sc mI mL F) H ∧ (∀ q ∈ locs, (eH E).size ≤ q.base) ∧ lv_has ls 4 [(0, .ref mo), (1, .int g), (2, .int acc), (3, .int (nI i))]) ?_ (0, 0) _ _ _ ⟨⟨Nat.zero_le _, rfl⟩, hW, hL, (lv_sub hl [2, 3, 1, 0] rfl)⟩
  rintro ⟨i, acc⟩ H locs ls ⟨hinv, hW, hL, hl⟩ ih
  replace hW : hs_W (eD E) vwCl (eH E) (mo_W E mo ar ix sc mI mL F) H := hW
  replace hl : lv_has ls 4 [(0, .ref mo), (1, .int g), (2, .int acc), (3, .int (nI i))] := hl
  refine lv_iload_n hx hb dX8_priorityOf_4 rfl (lv_at hl 3 rfl) ?_
  refine lv_aload_n hx hb dX8_priorityOf_5 rfl (lv_at hl 0 rfl) ?_
  refine hs_get hC hW hi_X8 rfl 4 (by decide) lk_X8_107 rfl mo_obj rfl dX8_priorityOf_6 ?_
  refine lv_icmp_ge (tgt := 49) hx hb dX8_priorityOf_9 (by decide) (fun c9 => ?_) (fun c9 => ?_)
  · refine lv_iload_n hx hb dX8_priorityOf_49 rfl (lv_at hl 2 rfl) ?_
    exact hs_iret hC hW hL hr hlocks (by decide) (by decide) dX8_priorityOf_50 ⟨by rw [hinv.2, Nat.le_antisymm hinv.1 (hs_geN hI.1 (by have := hI.2.1; omega) (by have := hI.2.1; omega) c9)], rfl, rfl, rfl⟩
  have hlt : i < N := hs_ltN hI.1 (by have := hI.2.1; omega) (by have := hI.2.1; omega) c9
  have hi150 : i < 150 := Nat.lt_of_lt_of_le hlt hI.2.1
  have hin : vp_in (nI i) 150 := vp_in_nI hi150 (by decide)
  have hcl : (nI i).toNatClampNeg = i := nI_clamp (by omega)
  refine lv_aload_n hx hb dX8_priorityOf_12 rfl (lv_at hl 0 rfl) ?_
  refine hs_get hC hW hi_X8 rfl 22 (by decide) lk_X8_69 rfl mo_obj rfl dX8_priorityOf_13 ?_
  refine lv_iload_n hx hb dX8_priorityOf_16 rfl (lv_at hl 3 rfl) ?_
  refine hs_iald hC hW 0 (mo_int ha.1 22 rfl) rfl hin dX8_priorityOf_17 ?_
  refine lv_iload_n hx hb dX8_priorityOf_18 rfl (lv_at hl 1 rfl) ?_
  refine lv_icmp_ne (tgt := 41) hx hb dX8_priorityOf_19 (by decide) (fun c19 => ?_) (fun c19 => ?_)
  · refine lv_iload_n hx hb dX8_priorityOf_41 rfl (lv_at hl 2 rfl) ?_
    refine lv_istore_n (lv' := [(2, .int _), (0, .ref _), (1, .int _), (3, .int _)]) hx hb dX8_priorityOf_42 rfl hl (by decide) rfl (fun ls hl => ?_)
    refine lv_iinc (lv' := [(3, .int _), (2, .int _), (0, .ref _), (1, .int _)]) hx hb dX8_priorityOf_43 hl (k := 3) rfl rfl (by decide) rfl (fun ls hl => ?_)
    refine lv_goto (tgt := 4) hx hb dX8_priorityOf_46 (by decide) ?_
    rw [hs_inc] at hl
    exact ih (i + 1, _) _ _ _ (by first | decide | (simp only []; omega) | omega) ⟨⟨hlt, by show _ = if _ then _ else _; rw [if_neg (fun q => c19 (by rw [hcl]; exact q.1))]; exact hinv.2⟩, hW, hL, (lv_sub hl [2, 3, 1, 0] rfl)⟩
  refine lv_aload_n hx hb dX8_priorityOf_22 rfl (lv_at hl 0 rfl) ?_
  refine hs_get hC hW hi_X8 rfl 19 (by decide) lk_X8_60 rfl mo_obj rfl dX8_priorityOf_23 ?_
  refine lv_iload_n hx hb dX8_priorityOf_26 rfl (lv_at hl 3 rfl) ?_
  refine hs_iald hC hW 0 (mo_int ha.1 19 rfl) rfl hin dX8_priorityOf_27 ?_
  refine lv_iload_n hx hb dX8_priorityOf_28 rfl (lv_at hl 2 rfl) ?_
  refine lv_icmp_le (tgt := 41) hx hb dX8_priorityOf_29 (by decide) (fun c29 => ?_) (fun c29 => ?_)
  · refine lv_iload_n hx hb dX8_priorityOf_41 rfl (lv_at hl 2 rfl) ?_
    refine lv_istore_n (lv' := [(2, .int _), (0, .ref _), (1, .int _), (3, .int _)]) hx hb dX8_priorityOf_42 rfl hl (by decide) rfl (fun ls hl => ?_)
    refine lv_iinc (lv' := [(3, .int _), (2, .int _), (0, .ref _), (1, .int _)]) hx hb dX8_priorityOf_43 hl (k := 3) rfl rfl (by decide) rfl (fun ls hl => ?_)
    refine lv_goto (tgt := 4) hx hb dX8_priorityOf_46 (by decide) ?_
    rw [hs_inc] at hl
    exact ih (i + 1, _) _ _ _ (by first | decide | (simp only []; omega) | omega) ⟨⟨hlt, by show _ = if _ then _ else _; first | (rw [if_neg (fun q => absurd q.2 (Int32.not_lt.mpr (by rw [hcl] at c29; rw [← hinv.2]; exact c29)))]; exact hinv.2) | (rw [hcl] at c19 c29 ⊢; rw [if_pos ⟨c19, by rw [← hinv.2]; exact Int32.not_le.mp c29⟩])⟩, hW, hL, (lv_sub hl [2, 3, 1, 0] rfl)⟩
  refine lv_aload_n hx hb dX8_priorityOf_32 rfl (lv_at hl 0 rfl) ?_
  refine hs_get hC hW hi_X8 rfl 19 (by decide) lk_X8_60 rfl mo_obj rfl dX8_priorityOf_33 ?_
  refine lv_iload_n hx hb dX8_priorityOf_36 rfl (lv_at hl 3 rfl) ?_
  refine hs_iald hC hW 0 (mo_int ha.1 19 rfl) rfl hin dX8_priorityOf_37 ?_
  refine lv_goto (tgt := 42) hx hb dX8_priorityOf_38 (by decide) ?_
  refine lv_istore_n (lv' := [(2, .int _), (0, .ref _), (1, .int _), (3, .int _)]) hx hb dX8_priorityOf_42 rfl hl (by decide) rfl (fun ls hl => ?_)
  refine lv_iinc (lv' := [(3, .int _), (2, .int _), (0, .ref _), (1, .int _)]) hx hb dX8_priorityOf_43 hl (k := 3) rfl rfl (by decide) rfl (fun ls hl => ?_)
  refine lv_goto (tgt := 4) hx hb dX8_priorityOf_46 (by decide) ?_
  rw [hs_inc] at hl
  exact ih (i + 1, _) _ _ _ (by first | decide | (simp only []; omega) | omega) ⟨⟨hlt, by show _ = if _ then _ else _; first | (rw [if_neg (fun q => absurd q.2 (Int32.not_lt.mpr (by rw [hcl] at c29; rw [← hinv.2]; exact c29)))]; exact hinv.2) | (rw [hcl] at c19 c29 ⊢; rw [if_pos ⟨c19, by rw [← hinv.2]; exact Int32.not_le.mp c29⟩])⟩, hW, hL, (lv_sub hl [2, 3, 1, 0] rfl)⟩
