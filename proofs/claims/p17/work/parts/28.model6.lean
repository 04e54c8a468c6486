/-! the reference: layRow -/
set_option maxHeartbeats 4000000 in
set_option maxRecDepth 100000 in
/-- Model.layRow -/
theorem ct_X8_layRow (E : hs_E) (mo : Nat) (ar : Nat → Nat) (ix : Nat → Option Nat) (sc : Nat → Int32) (mI : Nat → Nat → Int32) (mL : Nat → Nat → Int64) (F : hs_G) (ha : mo_ok E mo ar ix) (N d S : Nat) (hI : mo_B sc mI N d S) (hG : mo_Gr mI N) : hM E yX8_layRow ({ frames := 1, cells := 0, slots := 0, locals := 30 }) [.ref mo] (mo_W E mo ar ix sc mI mL F) (mo_P E mo ar ix F (fun v sc2 mI2 _ => v = none ∧ ∃ (rw : List Nat) (f : Nat → Int32), rw.Nodup ∧ (∀ t ∈ rw, mo_ld sc mI N t) ∧ mo_rw f rw ∧ sc2 = mo_up sc 28 (nI rw.length) ∧ mI2 = mo_up mI 29 f)) := by
  refine hs_ofW (cc := cX8_layRow) (maxL := 5) (ret := none) (by decide) co_X8_layRow ?_
  intro p e s m args below meth c hC hlocks hr hin0 hnoh hW
  obtain ⟨hx, hb, hml, hown, hts, -⟩ := id hC
  have hE := hW
  have hL : ∀ q ∈ ([] : List Loc), (eH E).size ≤ q.base := fun q hq => nomatch hq
  have hl := lv_entry ([.ref mo] : List Value) (n := 5) (Nat.le_of_ble_eq_true rfl)
  rw [lg_entry_eq]
  generalize (lg_sl [.ref mo] ++ List.replicate (5 - (lg_sl [.ref mo]).length) Slot.unset).toArray = ls at hl ⊢
  have hl : lv_has ls 5 [(0, .ref mo)] := hl
  refine lv_aload_n hx hb dX8_layRow_0 rfl (lv_at hl 0 rfl) ?_
  refine lv_iconst (v := 0) hx hb dX8_layRow_1 (by decide) ?_
  refine hs_put hC hW hL hi_X8 tyX8 tyX8_ok nmX8 rfl 28 (by decide) lk_X8_132 rfl rfl mo_obj ha.2.1 rfl rfl (Nat.le_of_ble_eq_true rfl) dX8_layRow_2 (fun H locs hW hL => ?_)
  rw [mo_putS (mo_fs28 _)] at hW
  refine lv_iconst (v := 3) hx hb dX8_layRow_5 (by decide) ?_
  refine lv_istore_n (lv' := [(1, .int _), (0, .ref _)]) hx hb dX8_layRow_6 rfl hl (by decide) rfl (fun ls hl => ?_)
  rw [show (3 : Int32) = nI 4 - 1 by decide +kernel] at hl
  rw [mo_lay0] at hW
  refine hs_loop (σ := Nat × List Nat × (Nat → Int32)) (fun x => match x with | (pp, rw, f) => pp) (fun x H locs ls => match x with | (pp, rw, f) => (pp ≤ 4 ∧ rw.Nodup ∧ (∀ t ∈ rw, mo_ld sc mI N t ∧ nI pp - 1 < mo_pt mI N t) ∧ mo_rw f rw) ∧ hs_W (eD E) vwCl (eH E) (mo_W E mo ar ix (mo_up sc 28 (nI rw.length)) (mo_up mI 29 f) mL F) H ∧ (∀ q ∈ locs, (eH E).size ≤ q.base) ∧ lv_has ls 5 [(0, .ref mo), (1, .int (nI pp - 1))]) ?_ (4, [], _) _ _ _ ⟨⟨Nat.le_refl _, List.nodup_nil, (fun t ht => nomatch ht), fun k t hk => by simp at hk⟩, hW, hL, (lv_sub hl [1, 0] rfl)⟩
  rintro ⟨pp, rw, f⟩ H locs ls ⟨⟨hpp, hinv⟩, hW, hL, hl⟩ ih0
  replace hW : hs_W (eD E) vwCl (eH E) (mo_W E mo ar ix (mo_up sc 28 (nI rw.length)) (mo_up mI 29 f) mL F) H := hW
  replace hl : lv_has ls 5 [(0, .ref mo), (1, .int (nI pp - 1))] := hl
  refine lv_iload_n hx hb dX8_layRow_7 rfl (lv_at hl 1 rfl) ?_
  refine lv_if_lt (tgt := 140) hx hb dX8_layRow_8 (by decide) (fun c8 => ?_) (fun c8 => ?_)
  · exact hs_vret hC hW hL hr hlocks (by decide) (by decide) dX8_layRow_140 ⟨rfl, rfl, _, _, _, _, rfl, rfl, rfl, rw, f, hinv.1, fun t ht => (hinv.2.1 t ht).1, hinv.2.2, rfl, rfl⟩
  obtain ⟨q, rfl⟩ := mo_pre c8
  rw [nI_m1] at hl
  refine lv_iconst (v := 0) hx hb dX8_layRow_11 (by decide) ?_
  refine lv_istore_n (lv' := [(2, .int _), (0, .ref _), (1, .int _)]) hx hb dX8_layRow_12 rfl hl (by decide) rfl (fun ls hl => ?_)
  refine hs_loop (σ := Nat × List Nat × (Nat → Int32)) (fun x => match x with | (i, rw, f) => N - i) (fun x H locs ls => match x with | (i, rw, f) => (i ≤ N ∧ mo_R sc mI N q i rw f) ∧ hs_W (eD E) vwCl (eH E) (mo_W E mo ar ix (mo_up sc 28 (nI rw.length)) (mo_up mI 29 f) mL F) H ∧ (∀ q ∈ locs, (eH E).size ≤ q.base) ∧ lv_has ls 5 [(0, .ref mo), (1, .int (nI q)), (2, .int (nI i))]) ?_ (0, rw, f) _ _ _ ⟨⟨Nat.zero_le _, hinv.1, fun t ht => ⟨(hinv.2.1 t ht).1, Or.inl (by have h9 := (hinv.2.1 t ht).2; rw [nI_m1] at h9; exact h9)⟩, hinv.2.2⟩, hW, hL, (lv_sub hl [1, 2, 0] rfl)⟩
  rintro ⟨i, rw, f⟩ H locs ls ⟨hinv, hW, hL, hl⟩ ih
  replace hW : hs_W (eD E) vwCl (eH E) (mo_W E mo ar ix (mo_up sc 28 (nI rw.length)) (mo_up mI 29 f) mL F) H := hW
  replace hl : lv_has ls 5 [(0, .ref mo), (1, .int (nI q)), (2, .int (nI i))] := hl
  refine lv_iload_n hx hb dX8_layRow_13 rfl (lv_at hl 2 rfl) ?_
  have hB : mo_B (mo_up sc 28 (nI rw.length)) (mo_up mI 29 f) N d S := mo_B_fr hI ⟨rfl, rfl, rfl⟩ ⟨rfl, rfl, rfl⟩
  refine lv_aload_n hx hb dX8_layRow_14 rfl (lv_at hl 0 rfl) ?_
  refine hs_get hC hW hi_X8 rfl 4 (by decide) lk_X8_107 rfl mo_obj rfl dX8_layRow_15 ?_
  refine lv_icmp_ge (tgt := 134) hx hb dX8_layRow_18 (by decide) (fun c18 => ?_) (fun c18 => ?_)
  · refine lv_iinc (lv' := [(1, .int _), (0, .ref _), (2, .int _)]) hx hb dX8_layRow_134 hl (k := 1) rfl rfl (by decide) rfl (fun ls hl => ?_)
    refine lv_goto (tgt := 7) hx hb dX8_layRow_137 (by decide) ?_
    rw [hs_m1] at hl
    have hiN : i = N := Nat.le_antisymm hinv.1 (hs_geN hB.1 (by have := hI.2.1; omega) (by have := hI.2.1; omega) c18)
    exact ih0 (q, rw, f) _ _ _ (by show q < q + 1; omega) ⟨⟨by omega, hinv.2.1, fun t ht => ⟨(hinv.2.2.1 t ht).1, mo_lt1 (by omega) ((hinv.2.2.1 t ht).2.imp id (fun z => z.1))⟩, hinv.2.2.2⟩, hW, hL, (lv_sub hl [1, 0] rfl)⟩
  have hlt : i < N := hs_ltN hB.1 (by have := hI.2.1; omega) (by have := hI.2.1; omega) c18
  have hi150 : i < 150 := Nat.lt_of_lt_of_le hlt hI.2.1
  have hin : vp_in (nI i) 150 := vp_in_nI hi150 (by decide)
  have hcl : (nI i).toNatClampNeg = i := nI_clamp (by omega)
  refine lv_aload_n hx hb dX8_layRow_21 rfl (lv_at hl 0 rfl) ?_
  refine hs_get hC hW hi_X8 rfl 22 (by decide) lk_X8_69 rfl mo_obj rfl dX8_layRow_22 ?_
  refine lv_iload_n hx hb dX8_layRow_25 rfl (lv_at hl 2 rfl) ?_
  refine hs_iald hC hW 0 (mo_int ha.1 22 rfl) rfl hin dX8_layRow_26 ?_
  refine lv_if_lt (tgt := 61) hx hb dX8_layRow_27 (by decide) (fun c27 => ?_) (fun c27 => ?_)
  · refine lv_iconst (v := 0) hx hb dX8_layRow_61 (by decide) ?_
    refine lv_istore_n (lv' := [(3, .int _), (0, .ref _), (1, .int _), (2, .int _)]) hx hb dX8_layRow_62 rfl hl (by decide) rfl (fun ls hl => ?_)
    refine lv_iconst (v := 0) hx hb dX8_layRow_63 (by decide) ?_
    refine lv_istore (lv' := [(4, .int _), (3, .int _), (0, .ref _), (1, .int _), (2, .int _)]) hx hb dX8_layRow_64 hl (by decide) rfl (fun ls hl => ?_)
    have ih1 := ih
    have hinv1 := hinv
    refine hs_loop (σ := Nat × Int32) (fun x => match x with | (u, fl) => i - u) (fun x H locs ls => match x with | (u, fl) => (u ≤ i ∧ (fl = 0 ∨ fl = 1) ∧ (¬ fl = 0 → ((∃ g : Nat, g < 150 ∧ mI 22 i = nI g) ∧ mo_pt mI N i = nI q ∧ mI 16 i ≤ sc 1) ∧ ∀ v, v < u → ¬ mI 22 v = mI 22 i)) ∧ hs_W (eD E) vwCl (eH E) (mo_W E mo ar ix (mo_up sc 28 (nI rw.length)) (mo_up mI 29 f) mL F) H ∧ (∀ q ∈ locs, (eH E).size ≤ q.base) ∧ lv_has ls 5 [(0, .ref mo), (1, .int (nI q)), (2, .int (nI i)), (3, .int fl), (4, .int (nI u))]) ?_ (0, 0) _ _ _ ⟨⟨Nat.zero_le _, Or.inl rfl, fun z => absurd rfl z⟩, hW, hL, (lv_sub hl [2, 3, 4, 1, 0] rfl)⟩
    rintro ⟨u, fl⟩ H locs ls ⟨hinv, hW, hL, hl⟩ ih2
    replace hW : hs_W (eD E) vwCl (eH E) (mo_W E mo ar ix (mo_up sc 28 (nI rw.length)) (mo_up mI 29 f) mL F) H := hW
    replace hl : lv_has ls 5 [(0, .ref mo), (1, .int (nI q)), (2, .int (nI i)), (3, .int fl), (4, .int (nI u))] := hl
    refine lv_iload hx hb dX8_layRow_66 (lv_at hl 4 rfl) ?_
    refine lv_iload_n hx hb dX8_layRow_68 rfl (lv_at hl 2 rfl) ?_
    refine lv_icmp_ge (tgt := 104) hx hb dX8_layRow_69 (by decide) (fun c69 => ?_) (fun c69 => ?_)
    · refine lv_iload_n hx hb dX8_layRow_104 rfl (lv_at hl 3 rfl) ?_
      refine lv_if_eq (tgt := 128) hx hb dX8_layRow_105 (by decide) (fun c105 => ?_) (fun c105 => ?_)
      · refine lv_iinc (lv' := [(2, .int _), (0, .ref _), (1, .int _), (3, .int _), (4, .int _)]) hx hb dX8_layRow_128 hl (k := 2) rfl rfl (by decide) rfl (fun ls hl => ?_)
        refine lv_goto (tgt := 13) hx hb dX8_layRow_131 (by decide) ?_
        rw [hs_inc] at hl
        exact ih1 (i + 1, rw, f) _ _ _ (by show N - (i + 1) < N - i; omega) ⟨⟨hlt, hinv1.2.1, fun t ht => ⟨(hinv1.2.2.1 t ht).1, (hinv1.2.2.1 t ht).2.imp id (fun z => ⟨z.1, by omega⟩)⟩, hinv1.2.2.2⟩, hW, hL, (lv_sub hl [1, 2, 0] rfl)⟩
      have hfa := hinv.2.2 c105
      have hall : ∀ v, v < i → ¬ mI 22 v = mI 22 i := by first | exact fun v hv => hfa.2 v (Nat.lt_of_lt_of_le hv ((nI_leI (by omega) (by omega)).mp c69)) | exact absurd c73 c105
      have hld : mo_ld sc mI N i := ⟨hlt, hfa.1.1, hall, hfa.1.2.2⟩
      have hR2 := mo_R_add hinv1.2 hld hfa.1.2.1
      have hlen : rw.length < 150 := by have h9 := mo_R_len hR2; rw [List.length_append] at h9; have h8 : ([i] : List Nat).length = 1 := rfl; have := hI.2.1; omega
      refine lv_aload_n hx hb dX8_layRow_108 rfl (lv_at hl 0 rfl) ?_
      refine hs_get hC hW hi_X8 rfl 29 (by decide) lk_X8_84 rfl mo_obj rfl dX8_layRow_109 ?_
      refine lv_aload_n hx hb dX8_layRow_112 rfl (lv_at hl 0 rfl) ?_
      refine hs_get hC hW hi_X8 rfl 28 (by decide) lk_X8_132 rfl mo_obj rfl dX8_layRow_113 ?_
      refine lv_iload_n hx hb dX8_layRow_116 rfl (lv_at hl 2 rfl) ?_
      refine hs_iast hC hW hL 0 (mo_int ha.1 29 rfl) (ha.2.2 29 rfl) rfl (vp_in_nI (N := 150) hlen (by decide)) dX8_layRow_117 (fun H locs hW hL => ?_)
      rw [mo_putI ha.1 29 rfl] at hW
      refine lv_aload_n hx hb dX8_layRow_118 rfl (lv_at hl 0 rfl) ?_
      refine lv_dup hx hb dX8_layRow_119 rfl ?_
      refine hs_get hC hW hi_X8 rfl 28 (by decide) lk_X8_132 rfl mo_obj rfl dX8_layRow_120 ?_
      refine lv_iconst (v := 1) hx hb dX8_layRow_123 (by decide) ?_
      refine lv_iadd hx hb dX8_layRow_124 ?_
      refine hs_put hC hW hL hi_X8 tyX8 tyX8_ok nmX8 rfl 28 (by decide) lk_X8_132 rfl rfl mo_obj ha.2.1 rfl rfl (Nat.le_of_ble_eq_true rfl) dX8_layRow_125 (fun H locs hW hL => ?_)
      rw [mo_putS (mo_fs28 _)] at hW
      refine lv_iinc (lv' := [(2, .int _), (0, .ref _), (1, .int _), (3, .int _), (4, .int _)]) hx hb dX8_layRow_128 hl (k := 2) rfl rfl (by decide) rfl (fun ls hl => ?_)
      refine lv_goto (tgt := 13) hx hb dX8_layRow_131 (by decide) ?_
      rw [hs_inc] at hl
      rw [mo_lay1 hlen] at hW
      exact ih1 (i + 1, rw ++ [i], _) _ _ _ (by show N - (i + 1) < N - i; omega) ⟨⟨hlt, hR2⟩, hW, hL, (lv_sub hl [1, 2, 0] rfl)⟩
    have hui : u < i := Nat.not_le.mp fun z => c69 ((nI_leI (by omega) (by omega)).mpr z)
    have hcu : (nI u).toNatClampNeg = u := nI_clamp (by omega)
    have hun : vp_in (nI u) 150 := vp_in_nI (by omega) (by decide)
    refine lv_iload_n hx hb dX8_layRow_72 rfl (lv_at hl 3 rfl) ?_
    refine lv_if_eq (tgt := 104) hx hb dX8_layRow_73 (by decide) (fun c73 => ?_) (fun c73 => ?_)
    · refine lv_iload_n hx hb dX8_layRow_104 rfl (lv_at hl 3 rfl) ?_
      refine lv_if_eq (tgt := 128) hx hb dX8_layRow_105 (by decide) (fun c105 => ?_) (fun c105 => ?_)
      · refine lv_iinc (lv' := [(2, .int _), (0, .ref _), (1, .int _), (3, .int _), (4, .int _)]) hx hb dX8_layRow_128 hl (k := 2) rfl rfl (by decide) rfl (fun ls hl => ?_)
        refine lv_goto (tgt := 13) hx hb dX8_layRow_131 (by decide) ?_
        rw [hs_inc] at hl
        exact ih1 (i + 1, rw, f) _ _ _ (by show N - (i + 1) < N - i; omega) ⟨⟨hlt, hinv1.2.1, fun t ht => ⟨(hinv1.2.2.1 t ht).1, (hinv1.2.2.1 t ht).2.imp id (fun z => ⟨z.1, by omega⟩)⟩, hinv1.2.2.2⟩, hW, hL, (lv_sub hl [1, 2, 0] rfl)⟩
      have hfa := hinv.2.2 c105
      have hall : ∀ v, v < i → ¬ mI 22 v = mI 22 i := by first | exact fun v hv => hfa.2 v (Nat.lt_of_lt_of_le hv ((nI_leI (by omega) (by omega)).mp c69)) | exact absurd c73 c105
      have hld : mo_ld sc mI N i := ⟨hlt, hfa.1.1, hall, hfa.1.2.2⟩
      have hR2 := mo_R_add hinv1.2 hld hfa.1.2.1
      have hlen : rw.length < 150 := by have h9 := mo_R_len hR2; rw [List.length_append] at h9; have h8 : ([i] : List Nat).length = 1 := rfl; have := hI.2.1; omega
      refine lv_aload_n hx hb dX8_layRow_108 rfl (lv_at hl 0 rfl) ?_
      refine hs_get hC hW hi_X8 rfl 29 (by decide) lk_X8_84 rfl mo_obj rfl dX8_layRow_109 ?_
      refine lv_aload_n hx hb dX8_layRow_112 rfl (lv_at hl 0 rfl) ?_
      refine hs_get hC hW hi_X8 rfl 28 (by decide) lk_X8_132 rfl mo_obj rfl dX8_layRow_113 ?_
      refine lv_iload_n hx hb dX8_layRow_116 rfl (lv_at hl 2 rfl) ?_
      refine hs_iast hC hW hL 0 (mo_int ha.1 29 rfl) (ha.2.2 29 rfl) rfl (vp_in_nI (N := 150) hlen (by decide)) dX8_layRow_117 (fun H locs hW hL => ?_)
      rw [mo_putI ha.1 29 rfl] at hW
      refine lv_aload_n hx hb dX8_layRow_118 rfl (lv_at hl 0 rfl) ?_
      refine lv_dup hx hb dX8_layRow_119 rfl ?_
      refine hs_get hC hW hi_X8 rfl 28 (by decide) lk_X8_132 rfl mo_obj rfl dX8_layRow_120 ?_
      refine lv_iconst (v := 1) hx hb dX8_layRow_123 (by decide) ?_
      refine lv_iadd hx hb dX8_layRow_124 ?_
      refine hs_put hC hW hL hi_X8 tyX8 tyX8_ok nmX8 rfl 28 (by decide) lk_X8_132 rfl rfl mo_obj ha.2.1 rfl rfl (Nat.le_of_ble_eq_true rfl) dX8_layRow_125 (fun H locs hW hL => ?_)
      rw [mo_putS (mo_fs28 _)] at hW
      refine lv_iinc (lv' := [(2, .int _), (0, .ref _), (1, .int _), (3, .int _), (4, .int _)]) hx hb dX8_layRow_128 hl (k := 2) rfl rfl (by decide) rfl (fun ls hl => ?_)
      refine lv_goto (tgt := 13) hx hb dX8_layRow_131 (by decide) ?_
      rw [hs_inc] at hl
      rw [mo_lay1 hlen] at hW
      exact ih1 (i + 1, rw ++ [i], _) _ _ _ (by show N - (i + 1) < N - i; omega) ⟨⟨hlt, hR2⟩, hW, hL, (lv_sub hl [1, 2, 0] rfl)⟩
    refine lv_aload_n hx hb dX8_layRow_76 rfl (lv_at hl 0 rfl) ?_
    refine hs_get hC hW hi_X8 rfl 22 (by decide) lk_X8_69 rfl mo_obj rfl dX8_layRow_77 ?_
    refine lv_iload hx hb dX8_layRow_80 (lv_at hl 4 rfl) ?_
    refine hs_iald hC hW 0 (mo_int ha.1 22 rfl) rfl hun dX8_layRow_82 ?_
    refine lv_aload_n hx hb dX8_layRow_83 rfl (lv_at hl 0 rfl) ?_
    refine hs_get hC hW hi_X8 rfl 22 (by decide) lk_X8_69 rfl mo_obj rfl dX8_layRow_84 ?_
    refine lv_iload_n hx hb dX8_layRow_87 rfl (lv_at hl 2 rfl) ?_
    refine hs_iald hC hW 0 (mo_int ha.1 22 rfl) rfl hin dX8_layRow_88 ?_
    refine lv_icmp_eq (tgt := 96) hx hb dX8_layRow_89 (by decide) (fun c89 => ?_) (fun c89 => ?_)
    · refine lv_iconst (v := 0) hx hb dX8_layRow_96 (by decide) ?_
      refine lv_istore_n (lv' := [(3, .int _), (0, .ref _), (1, .int _), (2, .int _), (4, .int _)]) hx hb dX8_layRow_97 rfl hl (by decide) rfl (fun ls hl => ?_)
      refine lv_iinc (lv' := [(4, .int _), (3, .int _), (0, .ref _), (1, .int _), (2, .int _)]) hx hb dX8_layRow_98 hl (k := 4) rfl rfl (by decide) rfl (fun ls hl => ?_)
      refine lv_goto (tgt := 66) hx hb dX8_layRow_101 (by decide) ?_
      rw [hs_inc] at hl
      exact ih2 (u + 1, _) _ _ _ (by show i - (u + 1) < i - u; omega) ⟨⟨by omega, Or.inl rfl, fun z => absurd rfl z⟩, hW, hL, (lv_sub hl [2, 3, 4, 1, 0] rfl)⟩
    refine lv_iconst (v := 1) hx hb dX8_layRow_92 (by decide) ?_
    refine lv_goto (tgt := 97) hx hb dX8_layRow_93 (by decide) ?_
    refine lv_istore_n (lv' := [(3, .int _), (0, .ref _), (1, .int _), (2, .int _), (4, .int _)]) hx hb dX8_layRow_97 rfl hl (by decide) rfl (fun ls hl => ?_)
    refine lv_iinc (lv' := [(4, .int _), (3, .int _), (0, .ref _), (1, .int _), (2, .int _)]) hx hb dX8_layRow_98 hl (k := 4) rfl rfl (by decide) rfl (fun ls hl => ?_)
    refine lv_goto (tgt := 66) hx hb dX8_layRow_101 (by decide) ?_
    rw [hs_inc] at hl
    exact ih2 (u + 1, _) _ _ _ (by show i - (u + 1) < i - u; omega) ⟨⟨by omega, Or.inr rfl, fun _ => ⟨(hinv.2.2 c73).1, lt_s (hinv.2.2 c73).2 (by rw [hcu, hcl] at c89; exact c89)⟩⟩, hW, hL, (lv_sub hl [2, 3, 4, 1, 0] rfl)⟩
  have hgr : ∃ g : Nat, g < 150 ∧ mI 22 i = nI g := by
    rw [hcl] at c27
    rcases hG i hlt with z | z
    · exact absurd (by show mI 22 i < 0; rw [z.1]; decide) c27
    · exact z.2
  refine lv_aload_n hx hb dX8_layRow_30 rfl (lv_at hl 0 rfl) ?_
  refine lv_aload_n hx hb dX8_layRow_31 rfl (lv_at hl 0 rfl) ?_
  refine hs_get hC hW hi_X8 rfl 22 (by decide) lk_X8_69 rfl mo_obj rfl dX8_layRow_32 ?_
  refine lv_iload_n hx hb dX8_layRow_35 rfl (lv_at hl 2 rfl) ?_
  refine hs_iald hC hW 0 (mo_int ha.1 22 rfl) rfl hin dX8_layRow_36 ?_
  refine hs_callV hC hs_Tok hW hL (ct_X8_priorityOf E _ _ _ _ _ _ _ ha _ N d S hB) cw_X8_priorityOf lk_X8_135 im_X8_priorityOf se_X8_priorityOf (hs_recv hC hW mo_obj rfl) hl.1 (by decide) (Nat.le_of_ble_eq_true rfl) dX8_layRow_37 (hs_kp1 (fun H locs hW hL => ?_))
  refine lv_iload_n hx hb dX8_layRow_40 rfl (lv_at hl 1 rfl) ?_
  refine lv_icmp_ne (tgt := 61) hx hb dX8_layRow_41 (by decide) (fun c41 => ?_) (fun c41 => ?_)
  · refine lv_iconst (v := 0) hx hb dX8_layRow_61 (by decide) ?_
    refine lv_istore_n (lv' := [(3, .int _), (0, .ref _), (1, .int _), (2, .int _)]) hx hb dX8_layRow_62 rfl hl (by decide) rfl (fun ls hl => ?_)
    refine lv_iconst (v := 0) hx hb dX8_layRow_63 (by decide) ?_
    refine lv_istore (lv' := [(4, .int _), (3, .int _), (0, .ref _), (1, .int _), (2, .int _)]) hx hb dX8_layRow_64 hl (by decide) rfl (fun ls hl => ?_)
    have ih1 := ih
    have hinv1 := hinv
    refine hs_loop (σ := Nat × Int32) (fun x => match x with | (u, fl) => i - u) (fun x H locs ls => match x with | (u, fl) => (u ≤ i ∧ (fl = 0 ∨ fl = 1) ∧ (¬ fl = 0 → ((∃ g : Nat, g < 150 ∧ mI 22 i = nI g) ∧ mo_pt mI N i = nI q ∧ mI 16 i ≤ sc 1) ∧ ∀ v, v < u → ¬ mI 22 v = mI 22 i)) ∧ hs_W (eD E) vwCl (eH E) (mo_W E mo ar ix (mo_up sc 28 (nI rw.length)) (mo_up mI 29 f) mL F) H ∧ (∀ q ∈ locs, (eH E).size ≤ q.base) ∧ lv_has ls 5 [(0, .ref mo), (1, .int (nI q)), (2, .int (nI i)), (3, .int fl), (4, .int (nI u))]) ?_ (0, 0) _ _ _ ⟨⟨Nat.zero_le _, Or.inl rfl, fun z => absurd rfl z⟩, hW, hL, (lv_sub hl [2, 3, 4, 1, 0] rfl)⟩
    rintro ⟨u, fl⟩ H locs ls ⟨hinv, hW, hL, hl⟩ ih2
    replace hW : hs_W (eD E) vwCl (eH E) (mo_W E mo ar ix (mo_up sc 28 (nI rw.length)) (mo_up mI 29 f) mL F) H := hW
    replace hl : lv_has ls 5 [(0, .ref mo), (1, .int (nI q)), (2, .int (nI i)), (3, .int fl), (4, .int (nI u))] := hl
    refine lv_iload hx hb dX8_layRow_66 (lv_at hl 4 rfl) ?_
    refine lv_iload_n hx hb dX8_layRow_68 rfl (lv_at hl 2 rfl) ?_
    refine lv_icmp_ge (tgt := 104) hx hb dX8_layRow_69 (by decide) (fun c69 => ?_) (fun c69 => ?_)
    · refine lv_iload_n hx hb dX8_layRow_104 rfl (lv_at hl 3 rfl) ?_
      refine lv_if_eq (tgt := 128) hx hb dX8_layRow_105 (by decide) (fun c105 => ?_) (fun c105 => ?_)
      · refine lv_iinc (lv' := [(2, .int _), (0, .ref _), (1, .int _), (3, .int _), (4, .int _)]) hx hb dX8_layRow_128 hl (k := 2) rfl rfl (by decide) rfl (fun ls hl => ?_)
        refine lv_goto (tgt := 13) hx hb dX8_layRow_131 (by decide) ?_
        rw [hs_inc] at hl
        exact ih1 (i + 1, rw, f) _ _ _ (by show N - (i + 1) < N - i; omega) ⟨⟨hlt, hinv1.2.1, fun t ht => ⟨(hinv1.2.2.1 t ht).1, (hinv1.2.2.1 t ht).2.imp id (fun z => ⟨z.1, by omega⟩)⟩, hinv1.2.2.2⟩, hW, hL, (lv_sub hl [1, 2, 0] rfl)⟩
      have hfa := hinv.2.2 c105
      have hall : ∀ v, v < i → ¬ mI 22 v = mI 22 i := by first | exact fun v hv => hfa.2 v (Nat.lt_of_lt_of_le hv ((nI_leI (by omega) (by omega)).mp c69)) | exact absurd c73 c105
      have hld : mo_ld sc mI N i := ⟨hlt, hfa.1.1, hall, hfa.1.2.2⟩
      have hR2 := mo_R_add hinv1.2 hld hfa.1.2.1
      have hlen : rw.length < 150 := by have h9 := mo_R_len hR2; rw [List.length_append] at h9; have h8 : ([i] : List Nat).length = 1 := rfl; have := hI.2.1; omega
      refine lv_aload_n hx hb dX8_layRow_108 rfl (lv_at hl 0 rfl) ?_
      refine hs_get hC hW hi_X8 rfl 29 (by decide) lk_X8_84 rfl mo_obj rfl dX8_layRow_109 ?_
      refine lv_aload_n hx hb dX8_layRow_112 rfl (lv_at hl 0 rfl) ?_
      refine hs_get hC hW hi_X8 rfl 28 (by decide) lk_X8_132 rfl mo_obj rfl dX8_layRow_113 ?_
      refine lv_iload_n hx hb dX8_layRow_116 rfl (lv_at hl 2 rfl) ?_
      refine hs_iast hC hW hL 0 (mo_int ha.1 29 rfl) (ha.2.2 29 rfl) rfl (vp_in_nI (N := 150) hlen (by decide)) dX8_layRow_117 (fun H locs hW hL => ?_)
      rw [mo_putI ha.1 29 rfl] at hW
      refine lv_aload_n hx hb dX8_layRow_118 rfl (lv_at hl 0 rfl) ?_
      refine lv_dup hx hb dX8_layRow_119 rfl ?_
      refine hs_get hC hW hi_X8 rfl 28 (by decide) lk_X8_132 rfl mo_obj rfl dX8_layRow_120 ?_
      refine lv_iconst (v := 1) hx hb dX8_layRow_123 (by decide) ?_
      refine lv_iadd hx hb dX8_layRow_124 ?_
      refine hs_put hC hW hL hi_X8 tyX8 tyX8_ok nmX8 rfl 28 (by decide) lk_X8_132 rfl rfl mo_obj ha.2.1 rfl rfl (Nat.le_of_ble_eq_true rfl) dX8_layRow_125 (fun H locs hW hL => ?_)
      rw [mo_putS (mo_fs28 _)] at hW
      refine lv_iinc (lv' := [(2, .int _), (0, .ref _), (1, .int _), (3, .int _), (4, .int _)]) hx hb dX8_layRow_128 hl (k := 2) rfl rfl (by decide) rfl (fun ls hl => ?_)
      refine lv_goto (tgt := 13) hx hb dX8_layRow_131 (by decide) ?_
      rw [hs_inc] at hl
      rw [mo_lay1 hlen] at hW
      exact ih1 (i + 1, rw ++ [i], _) _ _ _ (by show N - (i + 1) < N - i; omega) ⟨⟨hlt, hR2⟩, hW, hL, (lv_sub hl [1, 2, 0] rfl)⟩
    have hui : u < i := Nat.not_le.mp fun z => c69 ((nI_leI (by omega) (by omega)).mpr z)
    have hcu : (nI u).toNatClampNeg = u := nI_clamp (by omega)
    have hun : vp_in (nI u) 150 := vp_in_nI (by omega) (by decide)
    refine lv_iload_n hx hb dX8_layRow_72 rfl (lv_at hl 3 rfl) ?_
    refine lv_if_eq (tgt := 104) hx hb dX8_layRow_73 (by decide) (fun c73 => ?_) (fun c73 => ?_)
    · refine lv_iload_n hx hb dX8_layRow_104 rfl (lv_at hl 3 rfl) ?_
      refine lv_if_eq (tgt := 128) hx hb dX8_layRow_105 (by decide) (fun c105 => ?_) (fun c105 => ?_)
      · refine lv_iinc (lv' := [(2, .int _), (0, .ref _), (1, .int _), (3, .int _), (4, .int _)]) hx hb dX8_layRow_128 hl (k := 2) rfl rfl (by decide) rfl (fun ls hl => ?_)
        refine lv_goto (tgt := 13) hx hb dX8_layRow_131 (by decide) ?_
        rw [hs_inc] at hl
        exact ih1 (i + 1, rw, f) _ _ _ (by show N - (i + 1) < N - i; omega) ⟨⟨hlt, hinv1.2.1, fun t ht => ⟨(hinv1.2.2.1 t ht).1, (hinv1.2.2.1 t ht).2.imp id (fun z => ⟨z.1, by omega⟩)⟩, hinv1.2.2.2⟩, hW, hL, (lv_sub hl [1, 2, 0] rfl)⟩
      have hfa := hinv.2.2 c105
      have hall : ∀ v, v < i → ¬ mI 22 v = mI 22 i := by first | exact fun v hv => hfa.2 v (Nat.lt_of_lt_of_le hv ((nI_leI (by omega) (by omega)).mp c69)) | exact absurd c73 c105
      have hld : mo_ld sc mI N i := ⟨hlt, hfa.1.1, hall, hfa.1.2.2⟩
      have hR2 := mo_R_add hinv1.2 hld hfa.1.2.1
      have hlen : rw.length < 150 := by have h9 := mo_R_len hR2; rw [List.length_append] at h9; have h8 : ([i] : List Nat).length = 1 := rfl; have := hI.2.1; omega
      refine lv_aload_n hx hb dX8_layRow_108 rfl (lv_at hl 0 rfl) ?_
      refine hs_get hC hW hi_X8 rfl 29 (by decide) lk_X8_84 rfl mo_obj rfl dX8_layRow_109 ?_
      refine lv_aload_n hx hb dX8_layRow_112 rfl (lv_at hl 0 rfl) ?_
      refine hs_get hC hW hi_X8 rfl 28 (by decide) lk_X8_132 rfl mo_obj rfl dX8_layRow_113 ?_
      refine lv_iload_n hx hb dX8_layRow_116 rfl (lv_at hl 2 rfl) ?_
      refine hs_iast hC hW hL 0 (mo_int ha.1 29 rfl) (ha.2.2 29 rfl) rfl (vp_in_nI (N := 150) hlen (by decide)) dX8_layRow_117 (fun H locs hW hL => ?_)
      rw [mo_putI ha.1 29 rfl] at hW
      refine lv_aload_n hx hb dX8_layRow_118 rfl (lv_at hl 0 rfl) ?_
      refine lv_dup hx hb dX8_layRow_119 rfl ?_
      refine hs_get hC hW hi_X8 rfl 28 (by decide) lk_X8_132 rfl mo_obj rfl dX8_layRow_120 ?_
      refine lv_iconst (v := 1) hx hb dX8_layRow_123 (by decide) ?_
      refine lv_iadd hx hb dX8_layRow_124 ?_
      refine hs_put hC hW hL hi_X8 tyX8 tyX8_ok nmX8 rfl 28 (by decide) lk_X8_132 rfl rfl mo_obj ha.2.1 rfl rfl (Nat.le_of_ble_eq_true rfl) dX8_layRow_125 (fun H locs hW hL => ?_)
      rw [mo_putS (mo_fs28 _)] at hW
      refine lv_iinc (lv' := [(2, .int _), (0, .ref _), (1, .int _), (3, .int _), (4, .int _)]) hx hb dX8_layRow_128 hl (k := 2) rfl rfl (by decide) rfl (fun ls hl => ?_)
      refine lv_goto (tgt := 13) hx hb dX8_layRow_131 (by decide) ?_
      rw [hs_inc] at hl
      rw [mo_lay1 hlen] at hW
      exact ih1 (i + 1, rw ++ [i], _) _ _ _ (by show N - (i + 1) < N - i; omega) ⟨⟨hlt, hR2⟩, hW, hL, (lv_sub hl [1, 2, 0] rfl)⟩
    refine lv_aload_n hx hb dX8_layRow_76 rfl (lv_at hl 0 rfl) ?_
    refine hs_get hC hW hi_X8 rfl 22 (by decide) lk_X8_69 rfl mo_obj rfl dX8_layRow_77 ?_
    refine lv_iload hx hb dX8_layRow_80 (lv_at hl 4 rfl) ?_
    refine hs_iald hC hW 0 (mo_int ha.1 22 rfl) rfl hun dX8_layRow_82 ?_
    refine lv_aload_n hx hb dX8_layRow_83 rfl (lv_at hl 0 rfl) ?_
    refine hs_get hC hW hi_X8 rfl 22 (by decide) lk_X8_69 rfl mo_obj rfl dX8_layRow_84 ?_
    refine lv_iload_n hx hb dX8_layRow_87 rfl (lv_at hl 2 rfl) ?_
    refine hs_iald hC hW 0 (mo_int ha.1 22 rfl) rfl hin dX8_layRow_88 ?_
    refine lv_icmp_eq (tgt := 96) hx hb dX8_layRow_89 (by decide) (fun c89 => ?_) (fun c89 => ?_)
    · refine lv_iconst (v := 0) hx hb dX8_layRow_96 (by decide) ?_
      refine lv_istore_n (lv' := [(3, .int _), (0, .ref _), (1, .int _), (2, .int _), (4, .int _)]) hx hb dX8_layRow_97 rfl hl (by decide) rfl (fun ls hl => ?_)
      refine lv_iinc (lv' := [(4, .int _), (3, .int _), (0, .ref _), (1, .int _), (2, .int _)]) hx hb dX8_layRow_98 hl (k := 4) rfl rfl (by decide) rfl (fun ls hl => ?_)
      refine lv_goto (tgt := 66) hx hb dX8_layRow_101 (by decide) ?_
      rw [hs_inc] at hl
      exact ih2 (u + 1, _) _ _ _ (by show i - (u + 1) < i - u; omega) ⟨⟨by omega, Or.inl rfl, fun z => absurd rfl z⟩, hW, hL, (lv_sub hl [2, 3, 4, 1, 0] rfl)⟩
    refine lv_iconst (v := 1) hx hb dX8_layRow_92 (by decide) ?_
    refine lv_goto (tgt := 97) hx hb dX8_layRow_93 (by decide) ?_
    refine lv_istore_n (lv' := [(3, .int _), (0, .ref _), (1, .int _), (2, .int _), (4, .int _)]) hx hb dX8_layRow_97 rfl hl (by decide) rfl (fun ls hl => ?_)
    refine lv_iinc (lv' := [(4, .int _), (3, .int _), (0, .ref _), (1, .int _), (2, .int _)]) hx hb dX8_layRow_98 hl (k := 4) rfl rfl (by decide) rfl (fun ls hl => ?_)
    refine lv_goto (tgt := 66) hx hb dX8_layRow_101 (by decide) ?_
    rw [hs_inc] at hl
    exact ih2 (u + 1, _) _ _ _ (by show i - (u + 1) < i - u; omega) ⟨⟨by omega, Or.inr rfl, fun _ => ⟨(hinv.2.2 c73).1, lt_s (hinv.2.2 c73).2 (by rw [hcu, hcl] at c89; exact c89)⟩⟩, hW, hL, (lv_sub hl [2, 3, 4, 1, 0] rfl)⟩
  refine lv_aload_n hx hb dX8_layRow_44 rfl (lv_at hl 0 rfl) ?_
  refine lv_aload_n hx hb dX8_layRow_45 rfl (lv_at hl 0 rfl) ?_
  refine hs_get hC hW hi_X8 rfl 22 (by decide) lk_X8_69 rfl mo_obj rfl dX8_layRow_46 ?_
  refine lv_iload_n hx hb dX8_layRow_49 rfl (lv_at hl 2 rfl) ?_
  refine hs_iald hC hW 0 (mo_int ha.1 22 rfl) rfl hin dX8_layRow_50 ?_
  refine hs_callV hC hs_Tok hW hL (ct_X8_isReady E _ _ _ _ _ _ _ ha _ N d S hB) cw_X8_isReady lk_X8_138 im_X8_isReady se_X8_isReady (hs_recv hC hW mo_obj rfl) hl.1 (by decide) (Nat.le_of_ble_eq_true rfl) dX8_layRow_51 (hs_ke (fun x H locs hJ hW hL => ?_))
  refine lv_if_eq (tgt := 61) hx hb dX8_layRow_54 (by decide) (fun c54 => ?_) (fun c54 => ?_)
  · refine lv_iconst (v := 0) hx hb dX8_layRow_61 (by decide) ?_
    refine lv_istore_n (lv' := [(3, .int _), (0, .ref _), (1, .int _), (2, .int _)]) hx hb dX8_layRow_62 rfl hl (by decide) rfl (fun ls hl => ?_)
    refine lv_iconst (v := 0) hx hb dX8_layRow_63 (by decide) ?_
    refine lv_istore (lv' := [(4, .int _), (3, .int _), (0, .ref _), (1, .int _), (2, .int _)]) hx hb dX8_layRow_64 hl (by decide) rfl (fun ls hl => ?_)
    have ih1 := ih
    have hinv1 := hinv
    refine hs_loop (σ := Nat × Int32) (fun x => match x with | (u, fl) => i - u) (fun x H locs ls => match x with | (u, fl) => (u ≤ i ∧ (fl = 0 ∨ fl = 1) ∧ (¬ fl = 0 → ((∃ g : Nat, g < 150 ∧ mI 22 i = nI g) ∧ mo_pt mI N i = nI q ∧ mI 16 i ≤ sc 1) ∧ ∀ v, v < u → ¬ mI 22 v = mI 22 i)) ∧ hs_W (eD E) vwCl (eH E) (mo_W E mo ar ix (mo_up sc 28 (nI rw.length)) (mo_up mI 29 f) mL F) H ∧ (∀ q ∈ locs, (eH E).size ≤ q.base) ∧ lv_has ls 5 [(0, .ref mo), (1, .int (nI q)), (2, .int (nI i)), (3, .int fl), (4, .int (nI u))]) ?_ (0, 0) _ _ _ ⟨⟨Nat.zero_le _, Or.inl rfl, fun z => absurd rfl z⟩, hW, hL, (lv_sub hl [2, 3, 4, 1, 0] rfl)⟩
    rintro ⟨u, fl⟩ H locs ls ⟨hinv, hW, hL, hl⟩ ih2
    replace hW : hs_W (eD E) vwCl (eH E) (mo_W E mo ar ix (mo_up sc 28 (nI rw.length)) (mo_up mI 29 f) mL F) H := hW
    replace hl : lv_has ls 5 [(0, .ref mo), (1, .int (nI q)), (2, .int (nI i)), (3, .int fl), (4, .int (nI u))] := hl
    refine lv_iload hx hb dX8_layRow_66 (lv_at hl 4 rfl) ?_
    refine lv_iload_n hx hb dX8_layRow_68 rfl (lv_at hl 2 rfl) ?_
    refine lv_icmp_ge (tgt := 104) hx hb dX8_layRow_69 (by decide) (fun c69 => ?_) (fun c69 => ?_)
    · refine lv_iload_n hx hb dX8_layRow_104 rfl (lv_at hl 3 rfl) ?_
      refine lv_if_eq (tgt := 128) hx hb dX8_layRow_105 (by decide) (fun c105 => ?_) (fun c105 => ?_)
      · refine lv_iinc (lv' := [(2, .int _), (0, .ref _), (1, .int _), (3, .int _), (4, .int _)]) hx hb dX8_layRow_128 hl (k := 2) rfl rfl (by decide) rfl (fun ls hl => ?_)
        refine lv_goto (tgt := 13) hx hb dX8_layRow_131 (by decide) ?_
        rw [hs_inc] at hl
        exact ih1 (i + 1, rw, f) _ _ _ (by show N - (i + 1) < N - i; omega) ⟨⟨hlt, hinv1.2.1, fun t ht => ⟨(hinv1.2.2.1 t ht).1, (hinv1.2.2.1 t ht).2.imp id (fun z => ⟨z.1, by omega⟩)⟩, hinv1.2.2.2⟩, hW, hL, (lv_sub hl [1, 2, 0] rfl)⟩
      have hfa := hinv.2.2 c105
      have hall : ∀ v, v < i → ¬ mI 22 v = mI 22 i := by first | exact fun v hv => hfa.2 v (Nat.lt_of_lt_of_le hv ((nI_leI (by omega) (by omega)).mp c69)) | exact absurd c73 c105
      have hld : mo_ld sc mI N i := ⟨hlt, hfa.1.1, hall, hfa.1.2.2⟩
      have hR2 := mo_R_add hinv1.2 hld hfa.1.2.1
      have hlen : rw.length < 150 := by have h9 := mo_R_len hR2; rw [List.length_append] at h9; have h8 : ([i] : List Nat).length = 1 := rfl; have := hI.2.1; omega
      refine lv_aload_n hx hb dX8_layRow_108 rfl (lv_at hl 0 rfl) ?_
      refine hs_get hC hW hi_X8 rfl 29 (by decide) lk_X8_84 rfl mo_obj rfl dX8_layRow_109 ?_
      refine lv_aload_n hx hb dX8_layRow_112 rfl (lv_at hl 0 rfl) ?_
      refine hs_get hC hW hi_X8 rfl 28 (by decide) lk_X8_132 rfl mo_obj rfl dX8_layRow_113 ?_
      refine lv_iload_n hx hb dX8_layRow_116 rfl (lv_at hl 2 rfl) ?_
      refine hs_iast hC hW hL 0 (mo_int ha.1 29 rfl) (ha.2.2 29 rfl) rfl (vp_in_nI (N := 150) hlen (by decide)) dX8_layRow_117 (fun H locs hW hL => ?_)
      rw [mo_putI ha.1 29 rfl] at hW
      refine lv_aload_n hx hb dX8_layRow_118 rfl (lv_at hl 0 rfl) ?_
      refine lv_dup hx hb dX8_layRow_119 rfl ?_
      refine hs_get hC hW hi_X8 rfl 28 (by decide) lk_X8_132 rfl mo_obj rfl dX8_layRow_120 ?_
      refine lv_iconst (v := 1) hx hb dX8_layRow_123 (by decide) ?_
      refine lv_iadd hx hb dX8_layRow_124 ?_
      refine hs_put hC hW hL hi_X8 tyX8 tyX8_ok nmX8 rfl 28 (by decide) lk_X8_132 rfl rfl mo_obj ha.2.1 rfl rfl (Nat.le_of_ble_eq_true rfl) dX8_layRow_125 (fun H locs hW hL => ?_)
      rw [mo_putS (mo_fs28 _)] at hW
      refine lv_iinc (lv' := [(2, .int _), (0, .ref _), (1, .int _), (3, .int _), (4, .int _)]) hx hb dX8_layRow_128 hl (k := 2) rfl rfl (by decide) rfl (fun ls hl => ?_)
      refine lv_goto (tgt := 13) hx hb dX8_layRow_131 (by decide) ?_
      rw [hs_inc] at hl
      rw [mo_lay1 hlen] at hW
      exact ih1 (i + 1, rw ++ [i], _) _ _ _ (by show N - (i + 1) < N - i; omega) ⟨⟨hlt, hR2⟩, hW, hL, (lv_sub hl [1, 2, 0] rfl)⟩
    have hui : u < i := Nat.not_le.mp fun z => c69 ((nI_leI (by omega) (by omega)).mpr z)
    have hcu : (nI u).toNatClampNeg = u := nI_clamp (by omega)
    have hun : vp_in (nI u) 150 := vp_in_nI (by omega) (by decide)
    refine lv_iload_n hx hb dX8_layRow_72 rfl (lv_at hl 3 rfl) ?_
    refine lv_if_eq (tgt := 104) hx hb dX8_layRow_73 (by decide) (fun c73 => ?_) (fun c73 => ?_)
    · refine lv_iload_n hx hb dX8_layRow_104 rfl (lv_at hl 3 rfl) ?_
      refine lv_if_eq (tgt := 128) hx hb dX8_layRow_105 (by decide) (fun c105 => ?_) (fun c105 => ?_)
      · refine lv_iinc (lv' := [(2, .int _), (0, .ref _), (1, .int _), (3, .int _), (4, .int _)]) hx hb dX8_layRow_128 hl (k := 2) rfl rfl (by decide) rfl (fun ls hl => ?_)
        refine lv_goto (tgt := 13) hx hb dX8_layRow_131 (by decide) ?_
        rw [hs_inc] at hl
        exact ih1 (i + 1, rw, f) _ _ _ (by show N - (i + 1) < N - i; omega) ⟨⟨hlt, hinv1.2.1, fun t ht => ⟨(hinv1.2.2.1 t ht).1, (hinv1.2.2.1 t ht).2.imp id (fun z => ⟨z.1, by omega⟩)⟩, hinv1.2.2.2⟩, hW, hL, (lv_sub hl [1, 2, 0] rfl)⟩
      have hfa := hinv.2.2 c105
      have hall : ∀ v, v < i → ¬ mI 22 v = mI 22 i := by first | exact fun v hv => hfa.2 v (Nat.lt_of_lt_of_le hv ((nI_leI (by omega) (by omega)).mp c69)) | exact absurd c73 c105
      have hld : mo_ld sc mI N i := ⟨hlt, hfa.1.1, hall, hfa.1.2.2⟩
      have hR2 := mo_R_add hinv1.2 hld hfa.1.2.1
      have hlen : rw.length < 150 := by have h9 := mo_R_len hR2; rw [List.length_append] at h9; have h8 : ([i] : List Nat).length = 1 := rfl; have := hI.2.1; omega
      refine lv_aload_n hx hb dX8_layRow_108 rfl (lv_at hl 0 rfl) ?_
      refine hs_get hC hW hi_X8 rfl 29 (by decide) lk_X8_84 rfl mo_obj rfl dX8_layRow_109 ?_
      refine lv_aload_n hx hb dX8_layRow_112 rfl (lv_at hl 0 rfl) ?_
      refine hs_get hC hW hi_X8 rfl 28 (by decide) lk_X8_132 rfl mo_obj rfl dX8_layRow_113 ?_
      refine lv_iload_n hx hb dX8_layRow_116 rfl (lv_at hl 2 rfl) ?_
      refine hs_iast hC hW hL 0 (mo_int ha.1 29 rfl) (ha.2.2 29 rfl) rfl (vp_in_nI (N := 150) hlen (by decide)) dX8_layRow_117 (fun H locs hW hL => ?_)
      rw [mo_putI ha.1 29 rfl] at hW
      refine lv_aload_n hx hb dX8_layRow_118 rfl (lv_at hl 0 rfl) ?_
      refine lv_dup hx hb dX8_layRow_119 rfl ?_
      refine hs_get hC hW hi_X8 rfl 28 (by decide) lk_X8_132 rfl mo_obj rfl dX8_layRow_120 ?_
      refine lv_iconst (v := 1) hx hb dX8_layRow_123 (by decide) ?_
      refine lv_iadd hx hb dX8_layRow_124 ?_
      refine hs_put hC hW hL hi_X8 tyX8 tyX8_ok nmX8 rfl 28 (by decide) lk_X8_132 rfl rfl mo_obj ha.2.1 rfl rfl (Nat.le_of_ble_eq_true rfl) dX8_layRow_125 (fun H locs hW hL => ?_)
      rw [mo_putS (mo_fs28 _)] at hW
      refine lv_iinc (lv' := [(2, .int _), (0, .ref _), (1, .int _), (3, .int _), (4, .int _)]) hx hb dX8_layRow_128 hl (k := 2) rfl rfl (by decide) rfl (fun ls hl => ?_)
      refine lv_goto (tgt := 13) hx hb dX8_layRow_131 (by decide) ?_
      rw [hs_inc] at hl
      rw [mo_lay1 hlen] at hW
      exact ih1 (i + 1, rw ++ [i], _) _ _ _ (by show N - (i + 1) < N - i; omega) ⟨⟨hlt, hR2⟩, hW, hL, (lv_sub hl [1, 2, 0] rfl)⟩
    refine lv_aload_n hx hb dX8_layRow_76 rfl (lv_at hl 0 rfl) ?_
    refine hs_get hC hW hi_X8 rfl 22 (by decide) lk_X8_69 rfl mo_obj rfl dX8_layRow_77 ?_
    refine lv_iload hx hb dX8_layRow_80 (lv_at hl 4 rfl) ?_
    refine hs_iald hC hW 0 (mo_int ha.1 22 rfl) rfl hun dX8_layRow_82 ?_
    refine lv_aload_n hx hb dX8_layRow_83 rfl (lv_at hl 0 rfl) ?_
    refine hs_get hC hW hi_X8 rfl 22 (by decide) lk_X8_69 rfl mo_obj rfl dX8_layRow_84 ?_
    refine lv_iload_n hx hb dX8_layRow_87 rfl (lv_at hl 2 rfl) ?_
    refine hs_iald hC hW 0 (mo_int ha.1 22 rfl) rfl hin dX8_layRow_88 ?_
    refine lv_icmp_eq (tgt := 96) hx hb dX8_layRow_89 (by decide) (fun c89 => ?_) (fun c89 => ?_)
    · refine lv_iconst (v := 0) hx hb dX8_layRow_96 (by decide) ?_
      refine lv_istore_n (lv' := [(3, .int _), (0, .ref _), (1, .int _), (2, .int _), (4, .int _)]) hx hb dX8_layRow_97 rfl hl (by decide) rfl (fun ls hl => ?_)
      refine lv_iinc (lv' := [(4, .int _), (3, .int _), (0, .ref _), (1, .int _), (2, .int _)]) hx hb dX8_layRow_98 hl (k := 4) rfl rfl (by decide) rfl (fun ls hl => ?_)
      refine lv_goto (tgt := 66) hx hb dX8_layRow_101 (by decide) ?_
      rw [hs_inc] at hl
      exact ih2 (u + 1, _) _ _ _ (by show i - (u + 1) < i - u; omega) ⟨⟨by omega, Or.inl rfl, fun z => absurd rfl z⟩, hW, hL, (lv_sub hl [2, 3, 4, 1, 0] rfl)⟩
    refine lv_iconst (v := 1) hx hb dX8_layRow_92 (by decide) ?_
    refine lv_goto (tgt := 97) hx hb dX8_layRow_93 (by decide) ?_
    refine lv_istore_n (lv' := [(3, .int _), (0, .ref _), (1, .int _), (2, .int _), (4, .int _)]) hx hb dX8_layRow_97 rfl hl (by decide) rfl (fun ls hl => ?_)
    refine lv_iinc (lv' := [(4, .int _), (3, .int _), (0, .ref _), (1, .int _), (2, .int _)]) hx hb dX8_layRow_98 hl (k := 4) rfl rfl (by decide) rfl (fun ls hl => ?_)
    refine lv_goto (tgt := 66) hx hb dX8_layRow_101 (by decide) ?_
    rw [hs_inc] at hl
    exact ih2 (u + 1, _) _ _ _ (by show i - (u + 1) < i - u; omega) ⟨⟨by omega, Or.inr rfl, fun _ => ⟨(hinv.2.2 c73).1, lt_s (hinv.2.2 c73).2 (by rw [hcu, hcl] at c89; exact c89)⟩⟩, hW, hL, (lv_sub hl [2, 3, 4, 1, 0] rfl)⟩
  have hpr : mo_pt mI N i = nI q := by rw [hcl] at c41; exact c41
  have hdu : mI 16 i ≤ sc 1 := hJ.2 c54 i hlt (by rw [hcl])
  refine lv_iconst (v := 1) hx hb dX8_layRow_57 (by decide) ?_
  refine lv_goto (tgt := 62) hx hb dX8_layRow_58 (by decide) ?_
  refine lv_istore_n (lv' := [(3, .int _), (0, .ref _), (1, .int _), (2, .int _)]) hx hb dX8_layRow_62 rfl hl (by decide) rfl (fun ls hl => ?_)
  refine lv_iconst (v := 0) hx hb dX8_layRow_63 (by decide) ?_
  refine lv_istore (lv' := [(4, .int _), (3, .int _), (0, .ref _), (1, .int _), (2, .int _)]) hx hb dX8_layRow_64 hl (by decide) rfl (fun ls hl => ?_)
  have ih1 := ih
  have hinv1 := hinv
  refine hs_loop (σ := Nat × Int32) (fun x => match x with | (u, fl) => i - u) (fun x H locs ls => match x with | (u, fl) => (u ≤ i ∧ (fl = 0 ∨ fl = 1) ∧ (¬ fl = 0 → ((∃ g : Nat, g < 150 ∧ mI 22 i = nI g) ∧ mo_pt mI N i = nI q ∧ mI 16 i ≤ sc 1) ∧ ∀ v, v < u → ¬ mI 22 v = mI 22 i)) ∧ hs_W (eD E) vwCl (eH E) (mo_W E mo ar ix (mo_up sc 28 (nI rw.length)) (mo_up mI 29 f) mL F) H ∧ (∀ q ∈ locs, (eH E).size ≤ q.base) ∧ lv_has ls 5 [(0, .ref mo), (1, .int (nI q)), (2, .int (nI i)), (3, .int fl), (4, .int (nI u))]) ?_ (0, 1) _ _ _ ⟨⟨Nat.zero_le _, Or.inr rfl, fun _ => ⟨⟨hgr, hpr, hdu⟩, lt_0⟩⟩, hW, hL, (lv_sub hl [2, 3, 4, 1, 0] rfl)⟩
  rintro ⟨u, fl⟩ H locs ls ⟨hinv, hW, hL, hl⟩ ih2
  replace hW : hs_W (eD E) vwCl (eH E) (mo_W E mo ar ix (mo_up sc 28 (nI rw.length)) (mo_up mI 29 f) mL F) H := hW
  replace hl : lv_has ls 5 [(0, .ref mo), (1, .int (nI q)), (2, .int (nI i)), (3, .int fl), (4, .int (nI u))] := hl
  refine lv_iload hx hb dX8_layRow_66 (lv_at hl 4 rfl) ?_
  refine lv_iload_n hx hb dX8_layRow_68 rfl (lv_at hl 2 rfl) ?_
  refine lv_icmp_ge (tgt := 104) hx hb dX8_layRow_69 (by decide) (fun c69 => ?_) (fun c69 => ?_)
  · refine lv_iload_n hx hb dX8_layRow_104 rfl (lv_at hl 3 rfl) ?_
    refine lv_if_eq (tgt := 128) hx hb dX8_layRow_105 (by decide) (fun c105 => ?_) (fun c105 => ?_)
    · refine lv_iinc (lv' := [(2, .int _), (0, .ref _), (1, .int _), (3, .int _), (4, .int _)]) hx hb dX8_layRow_128 hl (k := 2) rfl rfl (by decide) rfl (fun ls hl => ?_)
      refine lv_goto (tgt := 13) hx hb dX8_layRow_131 (by decide) ?_
      rw [hs_inc] at hl
      exact ih1 (i + 1, rw, f) _ _ _ (by show N - (i + 1) < N - i; omega) ⟨⟨hlt, hinv1.2.1, fun t ht => ⟨(hinv1.2.2.1 t ht).1, (hinv1.2.2.1 t ht).2.imp id (fun z => ⟨z.1, by omega⟩)⟩, hinv1.2.2.2⟩, hW, hL, (lv_sub hl [1, 2, 0] rfl)⟩
    have hfa := hinv.2.2 c105
    have hall : ∀ v, v < i → ¬ mI 22 v = mI 22 i := by first | exact fun v hv => hfa.2 v (Nat.lt_of_lt_of_le hv ((nI_leI (by omega) (by omega)).mp c69)) | exact absurd c73 c105
    have hld : mo_ld sc mI N i := ⟨hlt, hfa.1.1, hall, hfa.1.2.2⟩
    have hR2 := mo_R_add hinv1.2 hld hfa.1.2.1
    have hlen : rw.length < 150 := by have h9 := mo_R_len hR2; rw [List.length_append] at h9; have h8 : ([i] : List Nat).length = 1 := rfl; have := hI.2.1; omega
    refine lv_aload_n hx hb dX8_layRow_108 rfl (lv_at hl 0 rfl) ?_
    refine hs_get hC hW hi_X8 rfl 29 (by decide) lk_X8_84 rfl mo_obj rfl dX8_layRow_109 ?_
    refine lv_aload_n hx hb dX8_layRow_112 rfl (lv_at hl 0 rfl) ?_
    refine hs_get hC hW hi_X8 rfl 28 (by decide) lk_X8_132 rfl mo_obj rfl dX8_layRow_113 ?_
    refine lv_iload_n hx hb dX8_layRow_116 rfl (lv_at hl 2 rfl) ?_
    refine hs_iast hC hW hL 0 (mo_int ha.1 29 rfl) (ha.2.2 29 rfl) rfl (vp_in_nI (N := 150) hlen (by decide)) dX8_layRow_117 (fun H locs hW hL => ?_)
    rw [mo_putI ha.1 29 rfl] at hW
    refine lv_aload_n hx hb dX8_layRow_118 rfl (lv_at hl 0 rfl) ?_
    refine lv_dup hx hb dX8_layRow_119 rfl ?_
    refine hs_get hC hW hi_X8 rfl 28 (by decide) lk_X8_132 rfl mo_obj rfl dX8_layRow_120 ?_
    refine lv_iconst (v := 1) hx hb dX8_layRow_123 (by decide) ?_
    refine lv_iadd hx hb dX8_layRow_124 ?_
    refine hs_put hC hW hL hi_X8 tyX8 tyX8_ok nmX8 rfl 28 (by decide) lk_X8_132 rfl rfl mo_obj ha.2.1 rfl rfl (Nat.le_of_ble_eq_true rfl) dX8_layRow_125 (fun H locs hW hL => ?_)
    rw [mo_putS (mo_fs28 _)] at hW
    refine lv_iinc (lv' := [(2, .int _), (0, .ref _), (1, .int _), (3, .int _), (4, .int _)]) hx hb dX8_layRow_128 hl (k := 2) rfl rfl (by decide) rfl (fun ls hl => ?_)
    refine lv_goto (tgt := 13) hx hb dX8_layRow_131 (by decide) ?_
    rw [hs_inc] at hl
    rw [mo_lay1 hlen] at hW
    exact ih1 (i + 1, rw ++ [i], _) _ _ _ (by show N - (i + 1) < N - i; omega) ⟨⟨hlt, hR2⟩, hW, hL, (lv_sub hl [1, 2, 0] rfl)⟩
  have hui : u < i := Nat.not_le.mp fun z => c69 ((nI_leI (by omega) (by omega)).mpr z)
  have hcu : (nI u).toNatClampNeg = u := nI_clamp (by omega)
  have hun : vp_in (nI u) 150 := vp_in_nI (by omega) (by decide)
  refine lv_iload_n hx hb dX8_layRow_72 rfl (lv_at hl 3 rfl) ?_
  refine lv_if_eq (tgt := 104) hx hb dX8_layRow_73 (by decide) (fun c73 => ?_) (fun c73 => ?_)
  · refine lv_iload_n hx hb dX8_layRow_104 rfl (lv_at hl 3 rfl) ?_
    refine lv_if_eq (tgt := 128) hx hb dX8_layRow_105 (by decide) (fun c105 => ?_) (fun c105 => ?_)
    · refine lv_iinc (lv' := [(2, .int _), (0, .ref _), (1, .int _), (3, .int _), (4, .int _)]) hx hb dX8_layRow_128 hl (k := 2) rfl rfl (by decide) rfl (fun ls hl => ?_)
      refine lv_goto (tgt := 13) hx hb dX8_layRow_131 (by decide) ?_
      rw [hs_inc] at hl
      exact ih1 (i + 1, rw, f) _ _ _ (by show N - (i + 1) < N - i; omega) ⟨⟨hlt, hinv1.2.1, fun t ht => ⟨(hinv1.2.2.1 t ht).1, (hinv1.2.2.1 t ht).2.imp id (fun z => ⟨z.1, by omega⟩)⟩, hinv1.2.2.2⟩, hW, hL, (lv_sub hl [1, 2, 0] rfl)⟩
    have hfa := hinv.2.2 c105
    have hall : ∀ v, v < i → ¬ mI 22 v = mI 22 i := by first | exact fun v hv => hfa.2 v (Nat.lt_of_lt_of_le hv ((nI_leI (by omega) (by omega)).mp c69)) | exact absurd c73 c105
    have hld : mo_ld sc mI N i := ⟨hlt, hfa.1.1, hall, hfa.1.2.2⟩
    have hR2 := mo_R_add hinv1.2 hld hfa.1.2.1
    have hlen : rw.length < 150 := by have h9 := mo_R_len hR2; rw [List.length_append] at h9; have h8 : ([i] : List Nat).length = 1 := rfl; have := hI.2.1; omega
    refine lv_aload_n hx hb dX8_layRow_108 rfl (lv_at hl 0 rfl) ?_
    refine hs_get hC hW hi_X8 rfl 29 (by decide) lk_X8_84 rfl mo_obj rfl dX8_layRow_109 ?_
    refine lv_aload_n hx hb dX8_layRow_112 rfl (lv_at hl 0 rfl) ?_
    refine hs_get hC hW hi_X8 rfl 28 (by decide) lk_X8_132 rfl mo_obj rfl dX8_layRow_113 ?_
    refine lv_iload_n hx hb dX8_layRow_116 rfl (lv_at hl 2 rfl) ?_
    refine hs_iast hC hW hL 0 (mo_int ha.1 29 rfl) (ha.2.2 29 rfl) rfl (vp_in_nI (N := 150) hlen (by decide)) dX8_layRow_117 (fun H locs hW hL => ?_)
    rw [mo_putI ha.1 29 rfl] at hW
    refine lv_aload_n hx hb dX8_layRow_118 rfl (lv_at hl 0 rfl) ?_
    refine lv_dup hx hb dX8_layRow_119 rfl ?_
    refine hs_get hC hW hi_X8 rfl 28 (by decide) lk_X8_132 rfl mo_obj rfl dX8_layRow_120 ?_
    refine lv_iconst (v := 1) hx hb dX8_layRow_123 (by decide) ?_
    refine lv_iadd hx hb dX8_layRow_124 ?_
    refine hs_put hC hW hL hi_X8 tyX8 tyX8_ok nmX8 rfl 28 (by decide) lk_X8_132 rfl rfl mo_obj ha.2.1 rfl rfl (Nat.le_of_ble_eq_true rfl) dX8_layRow_125 (fun H locs hW hL => ?_)
    rw [mo_putS (mo_fs28 _)] at hW
    refine lv_iinc (lv' := [(2, .int _), (0, .ref _), (1, .int _), (3, .int _), (4, .int _)]) hx hb dX8_layRow_128 hl (k := 2) rfl rfl (by decide) rfl (fun ls hl => ?_)
    refine lv_goto (tgt := 13) hx hb dX8_layRow_131 (by decide) ?_
    rw [hs_inc] at hl
    rw [mo_lay1 hlen] at hW
    exact ih1 (i + 1, rw ++ [i], _) _ _ _ (by show N - (i + 1) < N - i; omega) ⟨⟨hlt, hR2⟩, hW, hL, (lv_sub hl [1, 2, 0] rfl)⟩
  refine lv_aload_n hx hb dX8_layRow_76 rfl (lv_at hl 0 rfl) ?_
  refine hs_get hC hW hi_X8 rfl 22 (by decide) lk_X8_69 rfl mo_obj rfl dX8_layRow_77 ?_
  refine lv_iload hx hb dX8_layRow_80 (lv_at hl 4 rfl) ?_
  refine hs_iald hC hW 0 (mo_int ha.1 22 rfl) rfl hun dX8_layRow_82 ?_
  refine lv_aload_n hx hb dX8_layRow_83 rfl (lv_at hl 0 rfl) ?_
  refine hs_get hC hW hi_X8 rfl 22 (by decide) lk_X8_69 rfl mo_obj rfl dX8_layRow_84 ?_
  refine lv_iload_n hx hb dX8_layRow_87 rfl (lv_at hl 2 rfl) ?_
  refine hs_iald hC hW 0 (mo_int ha.1 22 rfl) rfl hin dX8_layRow_88 ?_
  refine lv_icmp_eq (tgt := 96) hx hb dX8_layRow_89 (by decide) (fun c89 => ?_) (fun c89 => ?_)
  · refine lv_iconst (v := 0) hx hb dX8_layRow_96 (by decide) ?_
    refine lv_istore_n (lv' := [(3, .int _), (0, .ref _), (1, .int _), (2, .int _), (4, .int _)]) hx hb dX8_layRow_97 rfl hl (by decide) rfl (fun ls hl => ?_)
    refine lv_iinc (lv' := [(4, .int _), (3, .int _), (0, .ref _), (1, .int _), (2, .int _)]) hx hb dX8_layRow_98 hl (k := 4) rfl rfl (by decide) rfl (fun ls hl => ?_)
    refine lv_goto (tgt := 66) hx hb dX8_layRow_101 (by decide) ?_
    rw [hs_inc] at hl
    exact ih2 (u + 1, _) _ _ _ (by show i - (u + 1) < i - u; omega) ⟨⟨by omega, Or.inl rfl, fun z => absurd rfl z⟩, hW, hL, (lv_sub hl [2, 3, 4, 1, 0] rfl)⟩
  refine lv_iconst (v := 1) hx hb dX8_layRow_92 (by decide) ?_
  refine lv_goto (tgt := 97) hx hb dX8_layRow_93 (by decide) ?_
  refine lv_istore_n (lv' := [(3, .int _), (0, .ref _), (1, .int _), (2, .int _), (4, .int _)]) hx hb dX8_layRow_97 rfl hl (by decide) rfl (fun ls hl => ?_)
  refine lv_iinc (lv' := [(4, .int _), (3, .int _), (0, .ref _), (1, .int _), (2, .int _)]) hx hb dX8_layRow_98 hl (k := 4) rfl rfl (by decide) rfl (fun ls hl => ?_)
  refine lv_goto (tgt := 66) hx hb dX8_layRow_101 (by decide) ?_
  rw [hs_inc] at hl
  exact ih2 (u + 1, _) _ _ _ (by show i - (u + 1) < i - u; omega) ⟨⟨by omega, Or.inr rfl, fun _ => ⟨(hinv.2.2 c73).1, lt_s (hinv.2.2 c73).2 (by rw [hcu, hcl] at c89; exact c89)⟩⟩, hW, hL, (lv_sub hl [2, 3, 4, 1, 0] rfl)⟩
