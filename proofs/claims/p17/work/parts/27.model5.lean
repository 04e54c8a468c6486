/-! the reference: businessDay, match, isCovered -/
set_option maxHeartbeats 4000000 in
set_option maxRecDepth 100000 in
/-- Model.businessDay -/
theorem ct_X8_businessDay (E : hs_E) (mo : Nat) (ar : Nat → Nat) (ix : Nat → Option Nat) (sc : Nat → Int32) (mI : Nat → Nat → Int32) (mL : Nat → Nat → Int64) (F : hs_G) (ha : mo_ok E mo ar ix) (a0 b0 : Nat) (h0 : a0 ≤ 20000) (h1 : b0 ≤ 1000) : hM E yX8_businessDay ({ frames := 1, cells := 0, slots := 0, locals := 40 }) [.ref mo, .int (nI a0), .int (nI b0)] (mo_W E mo ar ix sc mI mL F) (fun r G1 k n => ∃ x : Int32, hs_pu (some (.int x)) (mo_W E mo ar ix sc mI mL F) r G1 k n ∧ ∃ k0 : Nat, x = nI (a0 + k0) ∧ k0 ≤ 90000 ∧ bz (bz_m (mI 2)) a0 b0 k0) := by
  refine hs_ofW (cc := cX8_businessDay) (maxL := 6) (ret := (some .int)) (by decide) co_X8_businessDay ?_
  intro p e s m args below meth c hC hlocks hr hin0 hnoh hW
  obtain ⟨hx, hb, hml, hown, hts, -⟩ := id hC
  have hE := hW
  have hL : ∀ q ∈ ([] : List Loc), (eH E).size ≤ q.base := fun q hq => nomatch hq
  have hl := lv_entry ([.ref mo, .int (nI a0), .int (nI b0)] : List Value) (n := 6) (Nat.le_of_ble_eq_true rfl)
  rw [lg_entry_eq]
  generalize (lg_sl [.ref mo, .int (nI a0), .int (nI b0)] ++ List.replicate (6 - (lg_sl [.ref mo, .int (nI a0), .int (nI b0)]).length) Slot.unset).toArray = ls at hl ⊢
  have hl : lv_has ls 6 [(0, .ref mo), (1, .int (nI a0)), (2, .int (nI b0))] := hl
  refine lv_iload_n hx hb dX8_businessDay_0 rfl (lv_at hl 1 rfl) ?_
  refine lv_istore_n (lv' := [(3, .int _), (0, .ref _), (1, .int _), (2, .int _)]) hx hb dX8_businessDay_1 rfl hl (by decide) rfl (fun ls hl => ?_)
  refine lv_iload_n hx hb dX8_businessDay_2 rfl (lv_at hl 3 rfl) ?_
  refine lv_istore (lv' := [(4, .int _), (3, .int _), (0, .ref _), (1, .int _), (2, .int _)]) hx hb dX8_businessDay_3 hl (by decide) rfl (fun ls hl => ?_)
  refine hs_loop (σ := Nat × Nat) (fun x => match x with | (k, b) => mo_mu (a0 + k) b) (fun x H locs ls => match x with | (k, b) => (a0 + k + mo_mu (a0 + k) b ≤ 90000 ∧ b + bz_c (bz_m (mI 2)) a0 k = b0 ∧ (k = 0 ∨ bz_c (bz_m (mI 2)) a0 (k - 1) < b0)) ∧ hs_W (eD E) vwCl (eH E) (mo_W E mo ar ix sc mI mL F) H ∧ (∀ q ∈ locs, (eH E).size ≤ q.base) ∧ lv_has ls 6 [(0, .ref mo), (3, .int (nI (a0 + k))), (4, .int (nI b))]) ?_ (0, b0) _ _ _ ⟨⟨mo_mu_bd h0 h1, rfl, Or.inl rfl⟩, hW, hL, (lv_sub hl [2, 1, 0] rfl)⟩
  rintro ⟨k, b⟩ H locs ls ⟨hinv, hW, hL, hl⟩ ih
  replace hW : hs_W (eD E) vwCl (eH E) (mo_W E mo ar ix sc mI mL F) H := hW
  replace hl : lv_has ls 6 [(0, .ref mo), (3, .int (nI (a0 + k))), (4, .int (nI b))] := hl
  refine lv_iload hx hb dX8_businessDay_5 (lv_at hl 2 rfl) ?_
  refine lv_if_le (tgt := 62) hx hb dX8_businessDay_7 (by decide) (fun c7 => ?_) (fun c7 => ?_)
  · refine lv_iload_n hx hb dX8_businessDay_62 rfl (lv_at hl 1 rfl) ?_
    exact (by (have z9 : b = 0 := by (rcases Nat.eq_zero_or_pos b with z | z; exact z; exact absurd c7 (fun y => by rw [Int32.le_iff_toInt_le, nI_toInt (by omega), Int32.toInt_zero] at y; omega))); exact hs_iret hC hW hL hr hlocks (by decide) (by decide) dX8_businessDay_63 ⟨_, ⟨rfl, rfl, rfl, rfl⟩, k, rfl, by omega, bz_end (by omega) hinv.2.2⟩)
  obtain ⟨b, rfl⟩ := mo_pos c7
  refine lv_iinc (lv' := [(3, .int _), (0, .ref _), (4, .int _)]) hx hb dX8_businessDay_10 hl (k := 1) rfl rfl (by decide) rfl (fun ls hl => ?_)
  rw [hs_inc] at hl
  refine lv_iload_n hx hb dX8_businessDay_13 rfl (lv_at hl 0 rfl) ?_
  refine hs_callS hC hs_Tok hW hL (ct_X8_weekday E _ _) cw_X8_weekday lk_X8_110 st_X8_weekday hl.1 (by decide) (Nat.le_of_ble_eq_true rfl) dX8_businessDay_14 (hs_kp1 (fun H locs hW hL => ?_))
  refine lv_iconst (v := 5) hx hb dX8_businessDay_17 (by decide) ?_
  refine lv_icmp_gt (tgt := 37) hx hb dX8_businessDay_18 (by decide) (fun c18 => ?_) (fun c18 => ?_)
  · refine lv_iconst (v := 1) hx hb dX8_businessDay_37 (by decide) ?_
    refine lv_goto (tgt := 42) hx hb dX8_businessDay_38 (by decide) ?_
    refine lv_istore (lv' := [(5, .int _), (3, .int _), (0, .ref _), (4, .int _)]) hx hb dX8_businessDay_42 hl (by decide) rfl (fun ls hl => ?_)
    refine lv_iload hx hb dX8_businessDay_44 (lv_at hl 3 rfl) ?_
    refine lv_iload hx hb dX8_businessDay_46 (lv_at hl 0 rfl) ?_
    refine lv_if_eq (tgt := 55) hx hb dX8_businessDay_48 (by decide) (fun c48 => ?_) (fun c48 => ?_)
    · exact absurd c48 (by first | decide | simp [mo_up])
    refine lv_iconst (v := 0) hx hb dX8_businessDay_51 (by decide) ?_
    refine lv_goto (tgt := 56) hx hb dX8_businessDay_52 (by decide) ?_
    refine lv_isub hx hb dX8_businessDay_56 ?_
    refine lv_istore (lv' := [(4, .int _), (5, .int _), (3, .int _), (0, .ref _)]) hx hb dX8_businessDay_57 hl (by decide) rfl (fun ls hl => ?_)
    refine lv_goto (tgt := 5) hx hb dX8_businessDay_59 (by decide) ?_
    rw [hs_sub0] at hl
    have hmu := mo_mu_free (a := a0 + k) (l := b + 1) (Or.inl (by have := mo_c18 (a := a0 + k + 1) (by omega) c18; omega))
    have hz9 := bz_s0 (b := (bz_m (mI 2))) (a := a0) (k := k) (bz_mf (Or.inl (by have := mo_c18 (a := a0 + k + 1) (by omega) c18; omega)))
    exact ih (k + 1, b + 1) _ _ _ hmu ⟨⟨by show a0 + k + 1 + mo_mu (a0 + k + 1) (b + 1) ≤ 90000; omega, by omega, Or.inr (by show bz_c (bz_m (mI 2)) a0 k < b0; omega)⟩, hW, hL, (lv_sub hl [3, 2, 0] rfl)⟩
  refine lv_iload_n hx hb dX8_businessDay_21 rfl (lv_at hl 0 rfl) ?_
  refine lv_sipush (v := 20000) hx hb dX8_businessDay_22 (by decide) ?_
  refine lv_icmp_gt (tgt := 41) hx hb dX8_businessDay_25 (by decide) (fun c25 => ?_) (fun c25 => ?_)
  · refine lv_iconst (v := 0) hx hb dX8_businessDay_41 (by decide) ?_
    refine lv_istore (lv' := [(5, .int _), (3, .int _), (0, .ref _), (4, .int _)]) hx hb dX8_businessDay_42 hl (by decide) rfl (fun ls hl => ?_)
    refine lv_iload hx hb dX8_businessDay_44 (lv_at hl 3 rfl) ?_
    refine lv_iload hx hb dX8_businessDay_46 (lv_at hl 0 rfl) ?_
    refine lv_if_eq (tgt := 55) hx hb dX8_businessDay_48 (by decide) (fun c48 => ?_) (fun c48 => ?_)
    · refine lv_iconst (v := 1) hx hb dX8_businessDay_55 (by decide) ?_
      refine lv_isub hx hb dX8_businessDay_56 ?_
      refine lv_istore (lv' := [(4, .int _), (5, .int _), (3, .int _), (0, .ref _)]) hx hb dX8_businessDay_57 hl (by decide) rfl (fun ls hl => ?_)
      refine lv_goto (tgt := 5) hx hb dX8_businessDay_59 (by decide) ?_
      rw [nI_m1] at hl
      have hmu := mo_mu_work (a := a0 + k) (l := b)
      have hz9 := bz_s1 (b := (bz_m (mI 2))) (a := a0) (k := k) (bz_mt (mo_c18n (by omega) c18) (Or.inl (by rw [show (20000 : Int32) = nI 20000 by decide +kernel] at c25; exact (nI_ltI (by decide) (by omega)).mp c25)))
      exact ih (k + 1, b) _ _ _ hmu ⟨⟨by show a0 + k + 1 + mo_mu (a0 + k + 1) b ≤ 90000; omega, by omega, Or.inr (by show bz_c (bz_m (mI 2)) a0 k < b0; omega)⟩, hW, hL, (lv_sub hl [3, 2, 0] rfl)⟩
    exact absurd c48 (by first | decide | simp [mo_up])
  refine lv_aload_n hx hb dX8_businessDay_28 rfl (lv_at hl 1 rfl) ?_
  refine hs_get hC hW hi_X8 rfl 2 (by decide) lk_X8_7 rfl mo_obj rfl dX8_businessDay_29 ?_
  refine lv_iload_n hx hb dX8_businessDay_32 rfl (lv_at hl 0 rfl) ?_
  refine hs_zald hC hW 2 (mo_bool ha.1 2 rfl) rfl (vp_in_nI (Nat.lt_succ_of_le (mo_c25 (by omega) c25)) (by decide)) dX8_businessDay_33 ?_
  refine lv_if_eq (tgt := 41) hx hb dX8_businessDay_34 (by decide) (fun c34 => ?_) (fun c34 => ?_)
  · refine lv_iconst (v := 0) hx hb dX8_businessDay_41 (by decide) ?_
    refine lv_istore (lv' := [(5, .int _), (3, .int _), (0, .ref _), (4, .int _)]) hx hb dX8_businessDay_42 hl (by decide) rfl (fun ls hl => ?_)
    refine lv_iload hx hb dX8_businessDay_44 (lv_at hl 3 rfl) ?_
    refine lv_iload hx hb dX8_businessDay_46 (lv_at hl 0 rfl) ?_
    refine lv_if_eq (tgt := 55) hx hb dX8_businessDay_48 (by decide) (fun c48 => ?_) (fun c48 => ?_)
    · refine lv_iconst (v := 1) hx hb dX8_businessDay_55 (by decide) ?_
      refine lv_isub hx hb dX8_businessDay_56 ?_
      refine lv_istore (lv' := [(4, .int _), (5, .int _), (3, .int _), (0, .ref _)]) hx hb dX8_businessDay_57 hl (by decide) rfl (fun ls hl => ?_)
      refine lv_goto (tgt := 5) hx hb dX8_businessDay_59 (by decide) ?_
      rw [nI_m1] at hl
      have hmu := mo_mu_work (a := a0 + k) (l := b)
      have hz9 := bz_s1 (b := (bz_m (mI 2))) (a := a0) (k := k) (bz_mt (mo_c18n (by omega) c18) (Or.inr (by rw [nI_clamp (by omega)] at c34; exact c34)))
      exact ih (k + 1, b) _ _ _ hmu ⟨⟨by show a0 + k + 1 + mo_mu (a0 + k + 1) b ≤ 90000; omega, by omega, Or.inr (by show bz_c (bz_m (mI 2)) a0 k < b0; omega)⟩, hW, hL, (lv_sub hl [3, 2, 0] rfl)⟩
    exact absurd c48 (by first | decide | simp [mo_up])
  refine lv_iconst (v := 1) hx hb dX8_businessDay_37 (by decide) ?_
  refine lv_goto (tgt := 42) hx hb dX8_businessDay_38 (by decide) ?_
  refine lv_istore (lv' := [(5, .int _), (3, .int _), (0, .ref _), (4, .int _)]) hx hb dX8_businessDay_42 hl (by decide) rfl (fun ls hl => ?_)
  refine lv_iload hx hb dX8_businessDay_44 (lv_at hl 3 rfl) ?_
  refine lv_iload hx hb dX8_businessDay_46 (lv_at hl 0 rfl) ?_
  refine lv_if_eq (tgt := 55) hx hb dX8_businessDay_48 (by decide) (fun c48 => ?_) (fun c48 => ?_)
  · exact absurd c48 (by first | decide | simp [mo_up])
  refine lv_iconst (v := 0) hx hb dX8_businessDay_51 (by decide) ?_
  refine lv_goto (tgt := 56) hx hb dX8_businessDay_52 (by decide) ?_
  refine lv_isub hx hb dX8_businessDay_56 ?_
  refine lv_istore (lv' := [(4, .int _), (5, .int _), (3, .int _), (0, .ref _)]) hx hb dX8_businessDay_57 hl (by decide) rfl (fun ls hl => ?_)
  refine lv_goto (tgt := 5) hx hb dX8_businessDay_59 (by decide) ?_
  rw [hs_sub0] at hl
  have hmu := mo_mu_free (a := a0 + k) (l := b + 1) (Or.inr (mo_c25 (by omega) c25))
  have hz9 := bz_s0 (b := (bz_m (mI 2))) (a := a0) (k := k) (bz_mf (Or.inr ⟨mo_c25 (by omega) c25, by rw [nI_clamp (by omega)] at c34; exact c34⟩))
  exact ih (k + 1, b + 1) _ _ _ hmu ⟨⟨by show a0 + k + 1 + mo_mu (a0 + k + 1) (b + 1) ≤ 90000; omega, by omega, Or.inr (by show bz_c (bz_m (mI 2)) a0 k < b0; omega)⟩, hW, hL, (lv_sub hl [3, 2, 0] rfl)⟩
set_option maxHeartbeats 4000000 in
set_option maxRecDepth 100000 in
/-- Model.match -/
theorem ct_X8_match (E : hs_E) (mo : Nat) (ar : Nat → Nat) (ix : Nat → Option Nat) (sc : Nat → Int32) (mI : Nat → Nat → Int32) (mL : Nat → Nat → Int64) (F : hs_G) (ha : mo_ok E mo ar ix) (te : Int32) (N d S : Nat) (hI : mo_B sc mI N d S) : hM E yX8_match ({ frames := 0, cells := 0, slots := 0, locals := 0 }) [.ref mo, .int te] (mo_W E mo ar ix sc mI mL F) (fun r G1 k n => ∃ x : Int32, hs_pu (some (.int x)) (mo_W E mo ar ix sc mI mL F) r G1 k n ∧ (x = -1 ∨ ∃ j : Nat, j < N ∧ x = nI j ∧ mI 15 j = 0)) := by
  refine hs_ofW (cc := cX8_match) (maxL := 5) (ret := (some .int)) (by decide) co_X8_match ?_
  intro p e s m args below meth c hC hlocks hr hin0 hnoh hW
  obtain ⟨hx, hb, hml, hown, hts, -⟩ := id hC
  have hE := hW
  have hL : ∀ q ∈ ([] : List Loc), (eH E).size ≤ q.base := fun q hq => nomatch hq
  have hl := lv_entry ([.ref mo, .int te] : List Value) (n := 5) (Nat.le_of_ble_eq_true rfl)
  rw [lg_entry_eq]
  generalize (lg_sl [.ref mo, .int te] ++ List.replicate (5 - (lg_sl [.ref mo, .int te]).length) Slot.unset).toArray = ls at hl ⊢
  have hl : lv_has ls 5 [(0, .ref mo), (1, .int te)] := hl
  refine lv_iconst (v := (-1)) hx hb dX8_match_0 (by decide) ?_
  refine lv_istore_n (lv' := [(2, .int _), (0, .ref _), (1, .int _)]) hx hb dX8_match_1 rfl hl (by decide) rfl (fun ls hl => ?_)
  refine lv_aload_n hx hb dX8_match_2 rfl (lv_at hl 1 rfl) ?_
  refine hs_get hC hW hi_X8 rfl 4 (by decide) lk_X8_107 rfl mo_obj rfl dX8_match_3 ?_
  refine lv_iconst (v := 1) hx hb dX8_match_6 (by decide) ?_
  refine lv_isub hx hb dX8_match_7 ?_
  refine lv_istore_n (lv' := [(3, .int _), (2, .int _), (0, .ref _), (1, .int _)]) hx hb dX8_match_8 rfl hl (by decide) rfl (fun ls hl => ?_)
  rw [hI.1] at hl
  refine hs_loop (σ := Nat × Int32) (fun x => match x with | (i, fd) => i) (fun x H locs ls => match x with | (i, fd) => (i ≤ N ∧ (fd = -1 ∨ ∃ j : Nat, j < N ∧ fd = nI j ∧ mI 15 j = 0)) ∧ hs_W (eD E) vwCl (eH E) (mo_W E mo ar ix sc mI mL F) H ∧ (∀ q ∈ locs, (eH E).size ≤ q.base) ∧ lv_has ls 5 [(0, .ref mo), (1, .int te), (2, .int fd), (3, .int (nI i - 1))]) ?_ (N, -1) _ _ _ ⟨⟨Nat.le_refl _, Or.inl rfl⟩, hW, hL, (lv_sub hl [2, 3, 1, 0] rfl)⟩
  rintro ⟨i, fd⟩ H locs ls ⟨hinv, hW, hL, hl⟩ ih
  replace hW : hs_W (eD E) vwCl (eH E) (mo_W E mo ar ix sc mI mL F) H := hW
  replace hl : lv_has ls 5 [(0, .ref mo), (1, .int te), (2, .int fd), (3, .int (nI i - 1))] := hl
  refine lv_iload_n hx hb dX8_match_9 rfl (lv_at hl 3 rfl) ?_
  refine lv_if_lt (tgt := 174) hx hb dX8_match_10 (by decide) (fun c10 => ?_) (fun c10 => ?_)
  · refine lv_iload_n hx hb dX8_match_174 rfl (lv_at hl 2 rfl) ?_
    exact hs_iret hC hW hL hr hlocks (by decide) (by decide) dX8_match_175 ⟨_, ⟨rfl, rfl, rfl, rfl⟩, hinv.2⟩
  obtain ⟨i, rfl⟩ := mo_pre c10
  rw [nI_m1] at hl
  have hi150 : i < 150 := by have := hI.2.1; omega
  have hin : vp_in (nI i) 150 := vp_in_nI hi150 (by decide)
  have hcl : (nI i).toNatClampNeg = i := nI_clamp (by omega)
  refine lv_aload_n hx hb dX8_match_13 rfl (lv_at hl 0 rfl) ?_
  refine hs_get hC hW hi_X8 rfl 15 (by decide) lk_X8_48 rfl mo_obj rfl dX8_match_14 ?_
  refine lv_iload_n hx hb dX8_match_17 rfl (lv_at hl 3 rfl) ?_
  refine hs_iald hC hW 0 (mo_int ha.1 15 rfl) rfl hin dX8_match_18 ?_
  refine lv_if_ne (tgt := 81) hx hb dX8_match_19 (by decide) (fun c19 => ?_) (fun c19 => ?_)
  · refine lv_iconst (v := 0) hx hb dX8_match_81 (by decide) ?_
    refine lv_istore (lv' := [(4, .int _), (0, .ref _), (1, .int _), (2, .int _), (3, .int _)]) hx hb dX8_match_82 hl (by decide) rfl (fun ls hl => ?_)
    refine lv_iload hx hb dX8_match_84 (lv_at hl 0 rfl) ?_
    refine lv_if_eq (tgt := 154) hx hb dX8_match_86 (by decide) (fun c86 => ?_) (fun c86 => ?_)
    · refine lv_iconst (v := 0) hx hb dX8_match_154 (by decide) ?_
      refine lv_istore (lv' := [(4, .int _), (0, .ref _), (1, .int _), (2, .int _), (3, .int _)]) hx hb dX8_match_155 hl (by decide) rfl (fun ls hl => ?_)
      refine lv_iload hx hb dX8_match_157 (lv_at hl 0 rfl) ?_
      refine lv_if_eq (tgt := 166) hx hb dX8_match_159 (by decide) (fun c159 => ?_) (fun c159 => ?_)
      · refine lv_iload_n hx hb dX8_match_166 rfl (lv_at hl 3 rfl) ?_
        refine lv_istore_n (lv' := [(2, .int _), (4, .int _), (0, .ref _), (1, .int _), (3, .int _)]) hx hb dX8_match_167 rfl hl (by decide) rfl (fun ls hl => ?_)
        refine lv_iinc (lv' := [(3, .int _), (2, .int _), (4, .int _), (0, .ref _), (1, .int _)]) hx hb dX8_match_168 hl (k := 4) rfl rfl (by decide) rfl (fun ls hl => ?_)
        refine lv_goto (tgt := 9) hx hb dX8_match_171 (by decide) ?_
        rw [hs_m1] at hl
        exact ih (i, _) _ _ _ (by show i < i + 1; omega) ⟨⟨by omega, hinv.2⟩, hW, hL, (lv_sub hl [3, 4, 1, 0] rfl)⟩
      exact absurd c159 (by first | decide | simp [mo_up])
    exact absurd c86 (by first | decide | simp [mo_up])
  refine lv_aload_n hx hb dX8_match_22 rfl (lv_at hl 0 rfl) ?_
  refine hs_get hC hW hi_X8 rfl 14 (by decide) lk_X8_45 rfl mo_obj rfl dX8_match_23 ?_
  refine lv_iload_n hx hb dX8_match_26 rfl (lv_at hl 3 rfl) ?_
  refine hs_iald hC hW 0 (mo_int ha.1 14 rfl) rfl hin dX8_match_27 ?_
  refine lv_iload_n hx hb dX8_match_28 rfl (lv_at hl 1 rfl) ?_
  refine lv_icmp_ne (tgt := 81) hx hb dX8_match_29 (by decide) (fun c29 => ?_) (fun c29 => ?_)
  · refine lv_iconst (v := 0) hx hb dX8_match_81 (by decide) ?_
    refine lv_istore (lv' := [(4, .int _), (0, .ref _), (1, .int _), (2, .int _), (3, .int _)]) hx hb dX8_match_82 hl (by decide) rfl (fun ls hl => ?_)
    refine lv_iload hx hb dX8_match_84 (lv_at hl 0 rfl) ?_
    refine lv_if_eq (tgt := 154) hx hb dX8_match_86 (by decide) (fun c86 => ?_) (fun c86 => ?_)
    · refine lv_iconst (v := 0) hx hb dX8_match_154 (by decide) ?_
      refine lv_istore (lv' := [(4, .int _), (0, .ref _), (1, .int _), (2, .int _), (3, .int _)]) hx hb dX8_match_155 hl (by decide) rfl (fun ls hl => ?_)
      refine lv_iload hx hb dX8_match_157 (lv_at hl 0 rfl) ?_
      refine lv_if_eq (tgt := 166) hx hb dX8_match_159 (by decide) (fun c159 => ?_) (fun c159 => ?_)
      · refine lv_iload_n hx hb dX8_match_166 rfl (lv_at hl 3 rfl) ?_
        refine lv_istore_n (lv' := [(2, .int _), (4, .int _), (0, .ref _), (1, .int _), (3, .int _)]) hx hb dX8_match_167 rfl hl (by decide) rfl (fun ls hl => ?_)
        refine lv_iinc (lv' := [(3, .int _), (2, .int _), (4, .int _), (0, .ref _), (1, .int _)]) hx hb dX8_match_168 hl (k := 4) rfl rfl (by decide) rfl (fun ls hl => ?_)
        refine lv_goto (tgt := 9) hx hb dX8_match_171 (by decide) ?_
        rw [hs_m1] at hl
        exact ih (i, _) _ _ _ (by show i < i + 1; omega) ⟨⟨by omega, hinv.2⟩, hW, hL, (lv_sub hl [3, 4, 1, 0] rfl)⟩
      exact absurd c159 (by first | decide | simp [mo_up])
    exact absurd c86 (by first | decide | simp [mo_up])
  refine lv_aload_n hx hb dX8_match_32 rfl (lv_at hl 0 rfl) ?_
  refine hs_get hC hW hi_X8 rfl 5 (by decide) lk_X8_17 rfl mo_obj rfl dX8_match_33 ?_
  refine lv_iload_n hx hb dX8_match_36 rfl (lv_at hl 3 rfl) ?_
  refine hs_iald hC hW 0 (mo_int ha.1 5 rfl) rfl hin dX8_match_37 ?_
  refine lv_aload_n hx hb dX8_match_38 rfl (lv_at hl 0 rfl) ?_
  refine hs_get hC hW hi_X8 rfl 31 (by decide) lk_X8_90 rfl mo_obj rfl dX8_match_39 ?_
  refine lv_iconst (v := 0) hx hb dX8_match_42 (by decide) ?_
  refine hs_iald hC hW 0 (mo_int ha.1 31 rfl) rfl (by unfold vp_in; decide) dX8_match_43 ?_
  refine lv_icmp_ne (tgt := 81) hx hb dX8_match_44 (by decide) (fun c44 => ?_) (fun c44 => ?_)
  · refine lv_iconst (v := 0) hx hb dX8_match_81 (by decide) ?_
    refine lv_istore (lv' := [(4, .int _), (0, .ref _), (1, .int _), (2, .int _), (3, .int _)]) hx hb dX8_match_82 hl (by decide) rfl (fun ls hl => ?_)
    refine lv_iload hx hb dX8_match_84 (lv_at hl 0 rfl) ?_
    refine lv_if_eq (tgt := 154) hx hb dX8_match_86 (by decide) (fun c86 => ?_) (fun c86 => ?_)
    · refine lv_iconst (v := 0) hx hb dX8_match_154 (by decide) ?_
      refine lv_istore (lv' := [(4, .int _), (0, .ref _), (1, .int _), (2, .int _), (3, .int _)]) hx hb dX8_match_155 hl (by decide) rfl (fun ls hl => ?_)
      refine lv_iload hx hb dX8_match_157 (lv_at hl 0 rfl) ?_
      refine lv_if_eq (tgt := 166) hx hb dX8_match_159 (by decide) (fun c159 => ?_) (fun c159 => ?_)
      · refine lv_iload_n hx hb dX8_match_166 rfl (lv_at hl 3 rfl) ?_
        refine lv_istore_n (lv' := [(2, .int _), (4, .int _), (0, .ref _), (1, .int _), (3, .int _)]) hx hb dX8_match_167 rfl hl (by decide) rfl (fun ls hl => ?_)
        refine lv_iinc (lv' := [(3, .int _), (2, .int _), (4, .int _), (0, .ref _), (1, .int _)]) hx hb dX8_match_168 hl (k := 4) rfl rfl (by decide) rfl (fun ls hl => ?_)
        refine lv_goto (tgt := 9) hx hb dX8_match_171 (by decide) ?_
        rw [hs_m1] at hl
        exact ih (i, _) _ _ _ (by show i < i + 1; omega) ⟨⟨by omega, hinv.2⟩, hW, hL, (lv_sub hl [3, 4, 1, 0] rfl)⟩
      exact absurd c159 (by first | decide | simp [mo_up])
    exact absurd c86 (by first | decide | simp [mo_up])
  refine lv_aload_n hx hb dX8_match_47 rfl (lv_at hl 0 rfl) ?_
  refine hs_get hC hW hi_X8 rfl 6 (by decide) lk_X8_21 rfl mo_obj rfl dX8_match_48 ?_
  refine lv_iload_n hx hb dX8_match_51 rfl (lv_at hl 3 rfl) ?_
  refine hs_iald hC hW 0 (mo_int ha.1 6 rfl) rfl hin dX8_match_52 ?_
  refine lv_aload_n hx hb dX8_match_53 rfl (lv_at hl 0 rfl) ?_
  refine hs_get hC hW hi_X8 rfl 31 (by decide) lk_X8_90 rfl mo_obj rfl dX8_match_54 ?_
  refine lv_iconst (v := 1) hx hb dX8_match_57 (by decide) ?_
  refine hs_iald hC hW 0 (mo_int ha.1 31 rfl) rfl (by unfold vp_in; decide) dX8_match_58 ?_
  refine lv_icmp_ne (tgt := 81) hx hb dX8_match_59 (by decide) (fun c59 => ?_) (fun c59 => ?_)
  · refine lv_iconst (v := 0) hx hb dX8_match_81 (by decide) ?_
    refine lv_istore (lv' := [(4, .int _), (0, .ref _), (1, .int _), (2, .int _), (3, .int _)]) hx hb dX8_match_82 hl (by decide) rfl (fun ls hl => ?_)
    refine lv_iload hx hb dX8_match_84 (lv_at hl 0 rfl) ?_
    refine lv_if_eq (tgt := 154) hx hb dX8_match_86 (by decide) (fun c86 => ?_) (fun c86 => ?_)
    · refine lv_iconst (v := 0) hx hb dX8_match_154 (by decide) ?_
      refine lv_istore (lv' := [(4, .int _), (0, .ref _), (1, .int _), (2, .int _), (3, .int _)]) hx hb dX8_match_155 hl (by decide) rfl (fun ls hl => ?_)
      refine lv_iload hx hb dX8_match_157 (lv_at hl 0 rfl) ?_
      refine lv_if_eq (tgt := 166) hx hb dX8_match_159 (by decide) (fun c159 => ?_) (fun c159 => ?_)
      · refine lv_iload_n hx hb dX8_match_166 rfl (lv_at hl 3 rfl) ?_
        refine lv_istore_n (lv' := [(2, .int _), (4, .int _), (0, .ref _), (1, .int _), (3, .int _)]) hx hb dX8_match_167 rfl hl (by decide) rfl (fun ls hl => ?_)
        refine lv_iinc (lv' := [(3, .int _), (2, .int _), (4, .int _), (0, .ref _), (1, .int _)]) hx hb dX8_match_168 hl (k := 4) rfl rfl (by decide) rfl (fun ls hl => ?_)
        refine lv_goto (tgt := 9) hx hb dX8_match_171 (by decide) ?_
        rw [hs_m1] at hl
        exact ih (i, _) _ _ _ (by show i < i + 1; omega) ⟨⟨by omega, hinv.2⟩, hW, hL, (lv_sub hl [3, 4, 1, 0] rfl)⟩
      exact absurd c159 (by first | decide | simp [mo_up])
    exact absurd c86 (by first | decide | simp [mo_up])
  refine lv_aload_n hx hb dX8_match_62 rfl (lv_at hl 0 rfl) ?_
  refine hs_get hC hW hi_X8 rfl 7 (by decide) lk_X8_24 rfl mo_obj rfl dX8_match_63 ?_
  refine lv_iload_n hx hb dX8_match_66 rfl (lv_at hl 3 rfl) ?_
  refine hs_iald hC hW 0 (mo_int ha.1 7 rfl) rfl hin dX8_match_67 ?_
  refine lv_aload_n hx hb dX8_match_68 rfl (lv_at hl 0 rfl) ?_
  refine hs_get hC hW hi_X8 rfl 31 (by decide) lk_X8_90 rfl mo_obj rfl dX8_match_69 ?_
  refine lv_iconst (v := 2) hx hb dX8_match_72 (by decide) ?_
  refine hs_iald hC hW 0 (mo_int ha.1 31 rfl) rfl (by unfold vp_in; decide) dX8_match_73 ?_
  refine lv_icmp_ne (tgt := 81) hx hb dX8_match_74 (by decide) (fun c74 => ?_) (fun c74 => ?_)
  · refine lv_iconst (v := 0) hx hb dX8_match_81 (by decide) ?_
    refine lv_istore (lv' := [(4, .int _), (0, .ref _), (1, .int _), (2, .int _), (3, .int _)]) hx hb dX8_match_82 hl (by decide) rfl (fun ls hl => ?_)
    refine lv_iload hx hb dX8_match_84 (lv_at hl 0 rfl) ?_
    refine lv_if_eq (tgt := 154) hx hb dX8_match_86 (by decide) (fun c86 => ?_) (fun c86 => ?_)
    · refine lv_iconst (v := 0) hx hb dX8_match_154 (by decide) ?_
      refine lv_istore (lv' := [(4, .int _), (0, .ref _), (1, .int _), (2, .int _), (3, .int _)]) hx hb dX8_match_155 hl (by decide) rfl (fun ls hl => ?_)
      refine lv_iload hx hb dX8_match_157 (lv_at hl 0 rfl) ?_
      refine lv_if_eq (tgt := 166) hx hb dX8_match_159 (by decide) (fun c159 => ?_) (fun c159 => ?_)
      · refine lv_iload_n hx hb dX8_match_166 rfl (lv_at hl 3 rfl) ?_
        refine lv_istore_n (lv' := [(2, .int _), (4, .int _), (0, .ref _), (1, .int _), (3, .int _)]) hx hb dX8_match_167 rfl hl (by decide) rfl (fun ls hl => ?_)
        refine lv_iinc (lv' := [(3, .int _), (2, .int _), (4, .int _), (0, .ref _), (1, .int _)]) hx hb dX8_match_168 hl (k := 4) rfl rfl (by decide) rfl (fun ls hl => ?_)
        refine lv_goto (tgt := 9) hx hb dX8_match_171 (by decide) ?_
        rw [hs_m1] at hl
        exact ih (i, _) _ _ _ (by show i < i + 1; omega) ⟨⟨by omega, hinv.2⟩, hW, hL, (lv_sub hl [3, 4, 1, 0] rfl)⟩
      exact absurd c159 (by first | decide | simp [mo_up])
    exact absurd c86 (by first | decide | simp [mo_up])
  refine lv_iconst (v := 1) hx hb dX8_match_77 (by decide) ?_
  refine lv_goto (tgt := 82) hx hb dX8_match_78 (by decide) ?_
  refine lv_istore (lv' := [(4, .int _), (0, .ref _), (1, .int _), (2, .int _), (3, .int _)]) hx hb dX8_match_82 hl (by decide) rfl (fun ls hl => ?_)
  refine lv_iload hx hb dX8_match_84 (lv_at hl 0 rfl) ?_
  refine lv_if_eq (tgt := 154) hx hb dX8_match_86 (by decide) (fun c86 => ?_) (fun c86 => ?_)
  · exact absurd c86 (by first | decide | simp [mo_up])
  refine lv_aload_n hx hb dX8_match_89 rfl (lv_at hl 1 rfl) ?_
  refine hs_get hC hW hi_X8 rfl 10 (by decide) lk_X8_33 rfl mo_obj rfl dX8_match_90 ?_
  refine lv_iload_n hx hb dX8_match_93 rfl (lv_at hl 4 rfl) ?_
  refine hs_iald hC hW 0 (mo_int ha.1 10 rfl) rfl hin dX8_match_94 ?_
  refine lv_aload_n hx hb dX8_match_95 rfl (lv_at hl 1 rfl) ?_
  refine hs_get hC hW hi_X8 rfl 31 (by decide) lk_X8_90 rfl mo_obj rfl dX8_match_96 ?_
  refine lv_iconst (v := 3) hx hb dX8_match_99 (by decide) ?_
  refine hs_iald hC hW 0 (mo_int ha.1 31 rfl) rfl (by unfold vp_in; decide) dX8_match_100 ?_
  refine lv_icmp_ne (tgt := 154) hx hb dX8_match_101 (by decide) (fun c101 => ?_) (fun c101 => ?_)
  · refine lv_iconst (v := 0) hx hb dX8_match_154 (by decide) ?_
    refine lv_istore (lv' := [(4, .int _), (0, .ref _), (1, .int _), (2, .int _), (3, .int _)]) hx hb dX8_match_155 hl (by decide) rfl (fun ls hl => ?_)
    refine lv_iload hx hb dX8_match_157 (lv_at hl 0 rfl) ?_
    refine lv_if_eq (tgt := 166) hx hb dX8_match_159 (by decide) (fun c159 => ?_) (fun c159 => ?_)
    · refine lv_iload_n hx hb dX8_match_166 rfl (lv_at hl 3 rfl) ?_
      refine lv_istore_n (lv' := [(2, .int _), (4, .int _), (0, .ref _), (1, .int _), (3, .int _)]) hx hb dX8_match_167 rfl hl (by decide) rfl (fun ls hl => ?_)
      refine lv_iinc (lv' := [(3, .int _), (2, .int _), (4, .int _), (0, .ref _), (1, .int _)]) hx hb dX8_match_168 hl (k := 4) rfl rfl (by decide) rfl (fun ls hl => ?_)
      refine lv_goto (tgt := 9) hx hb dX8_match_171 (by decide) ?_
      rw [hs_m1] at hl
      exact ih (i, _) _ _ _ (by show i < i + 1; omega) ⟨⟨by omega, hinv.2⟩, hW, hL, (lv_sub hl [3, 4, 1, 0] rfl)⟩
    exact absurd c159 (by first | decide | simp [mo_up])
  refine lv_aload_n hx hb dX8_match_104 rfl (lv_at hl 1 rfl) ?_
  refine hs_get hC hW hi_X8 rfl 11 (by decide) lk_X8_36 rfl mo_obj rfl dX8_match_105 ?_
  refine lv_iload_n hx hb dX8_match_108 rfl (lv_at hl 4 rfl) ?_
  refine hs_iald hC hW 0 (mo_int ha.1 11 rfl) rfl hin dX8_match_109 ?_
  refine lv_aload_n hx hb dX8_match_110 rfl (lv_at hl 1 rfl) ?_
  refine hs_get hC hW hi_X8 rfl 31 (by decide) lk_X8_90 rfl mo_obj rfl dX8_match_111 ?_
  refine lv_iconst (v := 4) hx hb dX8_match_114 (by decide) ?_
  refine hs_iald hC hW 0 (mo_int ha.1 31 rfl) rfl (by unfold vp_in; decide) dX8_match_115 ?_
  refine lv_icmp_ne (tgt := 154) hx hb dX8_match_116 (by decide) (fun c116 => ?_) (fun c116 => ?_)
  · refine lv_iconst (v := 0) hx hb dX8_match_154 (by decide) ?_
    refine lv_istore (lv' := [(4, .int _), (0, .ref _), (1, .int _), (2, .int _), (3, .int _)]) hx hb dX8_match_155 hl (by decide) rfl (fun ls hl => ?_)
    refine lv_iload hx hb dX8_match_157 (lv_at hl 0 rfl) ?_
    refine lv_if_eq (tgt := 166) hx hb dX8_match_159 (by decide) (fun c159 => ?_) (fun c159 => ?_)
    · refine lv_iload_n hx hb dX8_match_166 rfl (lv_at hl 3 rfl) ?_
      refine lv_istore_n (lv' := [(2, .int _), (4, .int _), (0, .ref _), (1, .int _), (3, .int _)]) hx hb dX8_match_167 rfl hl (by decide) rfl (fun ls hl => ?_)
      refine lv_iinc (lv' := [(3, .int _), (2, .int _), (4, .int _), (0, .ref _), (1, .int _)]) hx hb dX8_match_168 hl (k := 4) rfl rfl (by decide) rfl (fun ls hl => ?_)
      refine lv_goto (tgt := 9) hx hb dX8_match_171 (by decide) ?_
      rw [hs_m1] at hl
      exact ih (i, _) _ _ _ (by show i < i + 1; omega) ⟨⟨by omega, hinv.2⟩, hW, hL, (lv_sub hl [3, 4, 1, 0] rfl)⟩
    exact absurd c159 (by first | decide | simp [mo_up])
  refine lv_aload_n hx hb dX8_match_119 rfl (lv_at hl 1 rfl) ?_
  refine hs_get hC hW hi_X8 rfl 12 (by decide) lk_X8_39 rfl mo_obj rfl dX8_match_120 ?_
  refine lv_iload_n hx hb dX8_match_123 rfl (lv_at hl 4 rfl) ?_
  refine hs_iald hC hW 0 (mo_int ha.1 12 rfl) rfl hin dX8_match_124 ?_
  refine lv_aload_n hx hb dX8_match_125 rfl (lv_at hl 1 rfl) ?_
  refine hs_get hC hW hi_X8 rfl 31 (by decide) lk_X8_90 rfl mo_obj rfl dX8_match_126 ?_
  refine lv_iconst (v := 5) hx hb dX8_match_129 (by decide) ?_
  refine hs_iald hC hW 0 (mo_int ha.1 31 rfl) rfl (by unfold vp_in; decide) dX8_match_130 ?_
  refine lv_icmp_ne (tgt := 154) hx hb dX8_match_131 (by decide) (fun c131 => ?_) (fun c131 => ?_)
  · refine lv_iconst (v := 0) hx hb dX8_match_154 (by decide) ?_
    refine lv_istore (lv' := [(4, .int _), (0, .ref _), (1, .int _), (2, .int _), (3, .int _)]) hx hb dX8_match_155 hl (by decide) rfl (fun ls hl => ?_)
    refine lv_iload hx hb dX8_match_157 (lv_at hl 0 rfl) ?_
    refine lv_if_eq (tgt := 166) hx hb dX8_match_159 (by decide) (fun c159 => ?_) (fun c159 => ?_)
    · refine lv_iload_n hx hb dX8_match_166 rfl (lv_at hl 3 rfl) ?_
      refine lv_istore_n (lv' := [(2, .int _), (4, .int _), (0, .ref _), (1, .int _), (3, .int _)]) hx hb dX8_match_167 rfl hl (by decide) rfl (fun ls hl => ?_)
      refine lv_iinc (lv' := [(3, .int _), (2, .int _), (4, .int _), (0, .ref _), (1, .int _)]) hx hb dX8_match_168 hl (k := 4) rfl rfl (by decide) rfl (fun ls hl => ?_)
      refine lv_goto (tgt := 9) hx hb dX8_match_171 (by decide) ?_
      rw [hs_m1] at hl
      exact ih (i, _) _ _ _ (by show i < i + 1; omega) ⟨⟨by omega, hinv.2⟩, hW, hL, (lv_sub hl [3, 4, 1, 0] rfl)⟩
    exact absurd c159 (by first | decide | simp [mo_up])
  refine lv_aload_n hx hb dX8_match_134 rfl (lv_at hl 1 rfl) ?_
  refine hs_get hC hW hi_X8 rfl 13 (by decide) lk_X8_42 rfl mo_obj rfl dX8_match_135 ?_
  refine lv_iload_n hx hb dX8_match_138 rfl (lv_at hl 4 rfl) ?_
  refine hs_iald hC hW 0 (mo_int ha.1 13 rfl) rfl hin dX8_match_139 ?_
  refine lv_aload_n hx hb dX8_match_140 rfl (lv_at hl 1 rfl) ?_
  refine hs_get hC hW hi_X8 rfl 31 (by decide) lk_X8_90 rfl mo_obj rfl dX8_match_141 ?_
  refine lv_bipush (v := 6) hx hb dX8_match_144 (by decide) ?_
  refine hs_iald hC hW 0 (mo_int ha.1 31 rfl) rfl (by unfold vp_in; decide) dX8_match_146 ?_
  refine lv_icmp_ne (tgt := 154) hx hb dX8_match_147 (by decide) (fun c147 => ?_) (fun c147 => ?_)
  · refine lv_iconst (v := 0) hx hb dX8_match_154 (by decide) ?_
    refine lv_istore (lv' := [(4, .int _), (0, .ref _), (1, .int _), (2, .int _), (3, .int _)]) hx hb dX8_match_155 hl (by decide) rfl (fun ls hl => ?_)
    refine lv_iload hx hb dX8_match_157 (lv_at hl 0 rfl) ?_
    refine lv_if_eq (tgt := 166) hx hb dX8_match_159 (by decide) (fun c159 => ?_) (fun c159 => ?_)
    · refine lv_iload_n hx hb dX8_match_166 rfl (lv_at hl 3 rfl) ?_
      refine lv_istore_n (lv' := [(2, .int _), (4, .int _), (0, .ref _), (1, .int _), (3, .int _)]) hx hb dX8_match_167 rfl hl (by decide) rfl (fun ls hl => ?_)
      refine lv_iinc (lv' := [(3, .int _), (2, .int _), (4, .int _), (0, .ref _), (1, .int _)]) hx hb dX8_match_168 hl (k := 4) rfl rfl (by decide) rfl (fun ls hl => ?_)
      refine lv_goto (tgt := 9) hx hb dX8_match_171 (by decide) ?_
      rw [hs_m1] at hl
      exact ih (i, _) _ _ _ (by show i < i + 1; omega) ⟨⟨by omega, hinv.2⟩, hW, hL, (lv_sub hl [3, 4, 1, 0] rfl)⟩
    exact absurd c159 (by first | decide | simp [mo_up])
  refine lv_iconst (v := 1) hx hb dX8_match_150 (by decide) ?_
  refine lv_goto (tgt := 155) hx hb dX8_match_151 (by decide) ?_
  refine lv_istore (lv' := [(4, .int _), (0, .ref _), (1, .int _), (2, .int _), (3, .int _)]) hx hb dX8_match_155 hl (by decide) rfl (fun ls hl => ?_)
  refine lv_iload hx hb dX8_match_157 (lv_at hl 0 rfl) ?_
  refine lv_if_eq (tgt := 166) hx hb dX8_match_159 (by decide) (fun c159 => ?_) (fun c159 => ?_)
  · exact absurd c159 (by first | decide | simp [mo_up])
  refine lv_iload_n hx hb dX8_match_162 rfl (lv_at hl 4 rfl) ?_
  refine lv_goto (tgt := 167) hx hb dX8_match_163 (by decide) ?_
  refine lv_istore_n (lv' := [(2, .int _), (4, .int _), (0, .ref _), (1, .int _), (3, .int _)]) hx hb dX8_match_167 rfl hl (by decide) rfl (fun ls hl => ?_)
  refine lv_iinc (lv' := [(3, .int _), (2, .int _), (4, .int _), (0, .ref _), (1, .int _)]) hx hb dX8_match_168 hl (k := 4) rfl rfl (by decide) rfl (fun ls hl => ?_)
  refine lv_goto (tgt := 9) hx hb dX8_match_171 (by decide) ?_
  rw [hs_m1] at hl
  exact ih (i, _) _ _ _ (by show i < i + 1; omega) ⟨⟨by omega, Or.inr ⟨i, by omega, rfl, by rw [hcl] at c19; exact c19⟩⟩, hW, hL, (lv_sub hl [3, 4, 1, 0] rfl)⟩
set_option maxHeartbeats 4000000 in
set_option maxRecDepth 100000 in
/-- Model.isCovered -/
theorem ct_X8_isCovered (E : hs_E) (mo : Nat) (ar : Nat → Nat) (ix : Nat → Option Nat) (sc : Nat → Int32) (mI : Nat → Nat → Int32) (mL : Nat → Nat → Int64) (F : hs_G) (ha : mo_ok E mo ar ix) (g : Int32) (N d S : Nat) (hI : mo_B sc mI N d S) : hM E yX8_isCovered ({ frames := 2, cells := 0, slots := 0, locals := 70 }) [.ref mo, .int g] (mo_W E mo ar ix sc mI mL F) (mo_P E mo ar ix F (fun v sc2 mI2 _ => (∃ x : Int32, v = some (.int x) ∧ (x = 0 ∨ x = 1)) ∧ sc2 = sc ∧ mI2 = mI)) := by
  refine hs_ofW (cc := cX8_isCovered) (maxL := 4) (ret := (some .boolean)) (by decide) co_X8_isCovered ?_
  intro p e s m args below meth c hC hlocks hr hin0 hnoh hW
  obtain ⟨hx, hb, hml, hown, hts, -⟩ := id hC
  have hE := hW
  have hL : ∀ q ∈ ([] : List Loc), (eH E).size ≤ q.base := fun q hq => nomatch hq
  have hl := lv_entry ([.ref mo, .int g] : List Value) (n := 4) (Nat.le_of_ble_eq_true rfl)
  rw [lg_entry_eq]
  generalize (lg_sl [.ref mo, .int g] ++ List.replicate (4 - (lg_sl [.ref mo, .int g]).length) Slot.unset).toArray = ls at hl ⊢
  have hl : lv_has ls 4 [(0, .ref mo), (1, .int g)] := hl
  refine lv_iconst (v := 0) hx hb dX8_isCovered_0 (by decide) ?_
  refine lv_istore_n (lv' := [(2, .int _), (0, .ref _), (1, .int _)]) hx hb dX8_isCovered_1 rfl hl (by decide) rfl (fun ls hl => ?_)
  refine hs_loop (σ := Nat × (Nat → Nat → Int64)) (fun x => match x with | (i, ML) => 144 - i) (fun x H locs ls => match x with | (i, ML) => (i ≤ 144) ∧ hs_W (eD E) vwCl (eH E) (mo_W E mo ar ix sc mI ML F) H ∧ (∀ q ∈ locs, (eH E).size ≤ q.base) ∧ lv_has ls 4 [(0, .ref mo), (1, .int g), (2, .int (nI i))]) ?_ (0, _) _ _ _ ⟨Nat.zero_le _, hW, hL, (lv_sub hl [1, 2, 0] rfl)⟩
  rintro ⟨i, ML⟩ H locs ls ⟨hinv, hW, hL, hl⟩ ih
  replace hW : hs_W (eD E) vwCl (eH E) (mo_W E mo ar ix sc mI ML F) H := hW
  replace hl : lv_has ls 4 [(0, .ref mo), (1, .int g), (2, .int (nI i))] := hl
  refine lv_iload_n hx hb dX8_isCovered_2 rfl (lv_at hl 2 rfl) ?_
  refine lv_sipush (v := 144) hx hb dX8_isCovered_3 (by decide) ?_
  refine lv_icmp_ge (tgt := 22) hx hb dX8_isCovered_6 (by decide) (fun c6 => ?_) (fun c6 => ?_)
  · refine lv_iconst (v := 0) hx hb dX8_isCovered_22 (by decide) ?_
    refine lv_istore_n (lv' := [(2, .int _), (0, .ref _), (1, .int _)]) hx hb dX8_isCovered_23 rfl hl (by decide) rfl (fun ls hl => ?_)
    refine hs_loop (σ := Nat × (Nat → Nat → Int64)) (fun x => match x with | (i, ML) => N - i) (fun x H locs ls => match x with | (i, ML) => (i ≤ N) ∧ hs_W (eD E) vwCl (eH E) (mo_W E mo ar ix sc mI ML F) H ∧ (∀ q ∈ locs, (eH E).size ≤ q.base) ∧ lv_has ls 4 [(0, .ref mo), (1, .int g), (2, .int (nI i))]) ?_ (0, _) _ _ _ ⟨Nat.zero_le _, hW, hL, (lv_sub hl [1, 2, 0] rfl)⟩
    rintro ⟨i, ML⟩ H locs ls ⟨hinv, hW, hL, hl⟩ ih
    replace hW : hs_W (eD E) vwCl (eH E) (mo_W E mo ar ix sc mI ML F) H := hW
    replace hl : lv_has ls 4 [(0, .ref mo), (1, .int g), (2, .int (nI i))] := hl
    refine lv_iload_n hx hb dX8_isCovered_24 rfl (lv_at hl 2 rfl) ?_
    refine lv_aload_n hx hb dX8_isCovered_25 rfl (lv_at hl 0 rfl) ?_
    refine hs_get hC hW hi_X8 rfl 4 (by decide) lk_X8_107 rfl mo_obj rfl dX8_isCovered_26 ?_
    refine lv_icmp_ge (tgt := 69) hx hb dX8_isCovered_29 (by decide) (fun c29 => ?_) (fun c29 => ?_)
    · refine lv_iconst (v := 1) hx hb dX8_isCovered_69 (by decide) ?_
      refine lv_istore_n (lv' := [(2, .int _), (0, .ref _), (1, .int _)]) hx hb dX8_isCovered_70 rfl hl (by decide) rfl (fun ls hl => ?_)
      refine lv_iconst (v := 0) hx hb dX8_isCovered_71 (by decide) ?_
      refine lv_istore_n (lv' := [(3, .int _), (2, .int _), (0, .ref _), (1, .int _)]) hx hb dX8_isCovered_72 rfl hl (by decide) rfl (fun ls hl => ?_)
      refine hs_loop (σ := Nat × Int32) (fun x => match x with | (i, acc) => 144 - i) (fun x H locs ls => match x with | (i, acc) => (i ≤ 144 ∧ (acc = 0 ∨ acc = 1)) ∧ hs_W (eD E) vwCl (eH E) (mo_W E mo ar ix sc mI ML F) H ∧ (∀ q ∈ locs, (eH E).size ≤ q.base) ∧ lv_has ls 4 [(0, .ref mo), (2, .int acc), (3, .int (nI i))]) ?_ (0, 1) _ _ _ ⟨⟨Nat.zero_le _, Or.inr rfl⟩, hW, hL, (lv_sub hl [2, 1, 0] rfl)⟩
      rintro ⟨i, acc⟩ H locs ls ⟨hinv, hW, hL, hl⟩ ih
      replace hW : hs_W (eD E) vwCl (eH E) (mo_W E mo ar ix sc mI ML F) H := hW
      replace hl : lv_has ls 4 [(0, .ref mo), (2, .int acc), (3, .int (nI i))] := hl
      refine lv_iload_n hx hb dX8_isCovered_73 rfl (lv_at hl 2 rfl) ?_
      refine lv_sipush (v := 144) hx hb dX8_isCovered_74 (by decide) ?_
      refine lv_icmp_ge (tgt := 125) hx hb dX8_isCovered_77 (by decide) (fun c77 => ?_) (fun c77 => ?_)
      · refine lv_iload_n hx hb dX8_isCovered_125 rfl (lv_at hl 1 rfl) ?_
        exact hs_zret hC hW hL hr hlocks (by decide) (by decide) dX8_isCovered_126 (by rcases hinv.2 with q | q <;> rw [q] <;> rfl) ⟨rfl, rfl, _, _, _, _, rfl, rfl, ⟨_, rfl, hinv.2⟩, rfl, rfl⟩
      have hlt : i < 144 := mo_c144 (by omega) c77
      have hin : vp_in (nI i) 144 := vp_in_nI hlt (by decide)
      refine lv_iload_n hx hb dX8_isCovered_80 rfl (lv_at hl 1 rfl) ?_
      refine lv_if_eq (tgt := 117) hx hb dX8_isCovered_81 (by decide) (fun c81 => ?_) (fun c81 => ?_)
      · refine lv_iconst (v := 0) hx hb dX8_isCovered_117 (by decide) ?_
        refine lv_istore_n (lv' := [(2, .int _), (0, .ref _), (3, .int _)]) hx hb dX8_isCovered_118 rfl hl (by decide) rfl (fun ls hl => ?_)
        refine lv_iinc (lv' := [(3, .int _), (2, .int _), (0, .ref _)]) hx hb dX8_isCovered_119 hl (k := 2) rfl rfl (by decide) rfl (fun ls hl => ?_)
        refine lv_goto (tgt := 73) hx hb dX8_isCovered_122 (by decide) ?_
        rw [hs_inc] at hl
        exact ih (i + 1, _) _ _ _ (by show 144 - (i + 1) < 144 - i; omega) ⟨⟨by omega, Or.inl rfl⟩, hW, hL, (lv_sub hl [2, 1, 0] rfl)⟩
      refine lv_aload_n hx hb dX8_isCovered_84 rfl (lv_at hl 0 rfl) ?_
      refine hs_get hC hW hi_X8 rfl 30 (by decide) lk_X8_87 rfl mo_obj rfl dX8_isCovered_85 ?_
      refine lv_iload_n hx hb dX8_isCovered_88 rfl (lv_at hl 2 rfl) ?_
      refine hs_lald hC hW 1 (mo_long ha.1 30 rfl) rfl hin dX8_isCovered_89 ?_
      refine lv_lconst (v := 0) hx hb dX8_isCovered_90 (by decide) ?_
      refine W.lcmp hx hb dX8_isCovered_91 ?_
      refine lv_if_eq (tgt := 113) hx hb dX8_isCovered_92 (by decide) (fun c92 => ?_) (fun c92 => ?_)
      · refine lv_iconst (v := 1) hx hb dX8_isCovered_113 (by decide) ?_
        refine lv_goto (tgt := 118) hx hb dX8_isCovered_114 (by decide) ?_
        refine lv_istore_n (lv' := [(2, .int _), (0, .ref _), (3, .int _)]) hx hb dX8_isCovered_118 rfl hl (by decide) rfl (fun ls hl => ?_)
        refine lv_iinc (lv' := [(3, .int _), (2, .int _), (0, .ref _)]) hx hb dX8_isCovered_119 hl (k := 2) rfl rfl (by decide) rfl (fun ls hl => ?_)
        refine lv_goto (tgt := 73) hx hb dX8_isCovered_122 (by decide) ?_
        rw [hs_inc] at hl
        exact ih (i + 1, _) _ _ _ (by show 144 - (i + 1) < 144 - i; omega) ⟨⟨by omega, Or.inr rfl⟩, hW, hL, (lv_sub hl [2, 1, 0] rfl)⟩
      refine lv_aload_n hx hb dX8_isCovered_95 rfl (lv_at hl 0 rfl) ?_
      refine hs_get hC hW hi_X8 rfl 3 (by decide) lk_X8_13 rfl mo_obj rfl dX8_isCovered_96 ?_
      refine lv_iload_n hx hb dX8_isCovered_99 rfl (lv_at hl 2 rfl) ?_
      refine hs_lald hC hW 1 (mo_long ha.1 3 rfl) rfl hin dX8_isCovered_100 ?_
      refine lv_aload_n hx hb dX8_isCovered_101 rfl (lv_at hl 0 rfl) ?_
      refine hs_get hC hW hi_X8 rfl 30 (by decide) lk_X8_87 rfl mo_obj rfl dX8_isCovered_102 ?_
      refine lv_iload_n hx hb dX8_isCovered_105 rfl (lv_at hl 2 rfl) ?_
      refine hs_lald hC hW 1 (mo_long ha.1 30 rfl) rfl hin dX8_isCovered_106 ?_
      refine lv_ladd hx hb dX8_isCovered_107 ?_
      refine lv_lconst (v := 0) hx hb dX8_isCovered_108 (by decide) ?_
      refine W.lcmp hx hb dX8_isCovered_109 ?_
      refine lv_if_lt (tgt := 117) hx hb dX8_isCovered_110 (by decide) (fun c110 => ?_) (fun c110 => ?_)
      · refine lv_iconst (v := 0) hx hb dX8_isCovered_117 (by decide) ?_
        refine lv_istore_n (lv' := [(2, .int _), (0, .ref _), (3, .int _)]) hx hb dX8_isCovered_118 rfl hl (by decide) rfl (fun ls hl => ?_)
        refine lv_iinc (lv' := [(3, .int _), (2, .int _), (0, .ref _)]) hx hb dX8_isCovered_119 hl (k := 2) rfl rfl (by decide) rfl (fun ls hl => ?_)
        refine lv_goto (tgt := 73) hx hb dX8_isCovered_122 (by decide) ?_
        rw [hs_inc] at hl
        exact ih (i + 1, _) _ _ _ (by show 144 - (i + 1) < 144 - i; omega) ⟨⟨by omega, Or.inl rfl⟩, hW, hL, (lv_sub hl [2, 1, 0] rfl)⟩
      refine lv_iconst (v := 1) hx hb dX8_isCovered_113 (by decide) ?_
      refine lv_goto (tgt := 118) hx hb dX8_isCovered_114 (by decide) ?_
      refine lv_istore_n (lv' := [(2, .int _), (0, .ref _), (3, .int _)]) hx hb dX8_isCovered_118 rfl hl (by decide) rfl (fun ls hl => ?_)
      refine lv_iinc (lv' := [(3, .int _), (2, .int _), (0, .ref _)]) hx hb dX8_isCovered_119 hl (k := 2) rfl rfl (by decide) rfl (fun ls hl => ?_)
      refine lv_goto (tgt := 73) hx hb dX8_isCovered_122 (by decide) ?_
      rw [hs_inc] at hl
      exact ih (i + 1, _) _ _ _ (by show 144 - (i + 1) < 144 - i; omega) ⟨⟨by omega, Or.inr rfl⟩, hW, hL, (lv_sub hl [2, 1, 0] rfl)⟩
    have hlt : i < N := hs_ltN hI.1 (by have := hI.2.1; omega) (by have := hI.2.1; omega) c29
    have hi150 : i < 150 := Nat.lt_of_lt_of_le hlt hI.2.1
    have hin : vp_in (nI i) 150 := vp_in_nI hi150 (by decide)
    have hcl : (nI i).toNatClampNeg = i := nI_clamp (by omega)
    refine lv_aload_n hx hb dX8_isCovered_32 rfl (lv_at hl 0 rfl) ?_
    refine hs_get hC hW hi_X8 rfl 22 (by decide) lk_X8_69 rfl mo_obj rfl dX8_isCovered_33 ?_
    refine lv_iload_n hx hb dX8_isCovered_36 rfl (lv_at hl 2 rfl) ?_
    refine hs_iald hC hW 0 (mo_int ha.1 22 rfl) rfl hin dX8_isCovered_37 ?_
    refine lv_iload_n hx hb dX8_isCovered_38 rfl (lv_at hl 1 rfl) ?_
    refine lv_icmp_ne (tgt := 63) hx hb dX8_isCovered_39 (by decide) (fun c39 => ?_) (fun c39 => ?_)
    · refine lv_iinc (lv' := [(2, .int _), (0, .ref _), (1, .int _)]) hx hb dX8_isCovered_63 hl (k := 2) rfl rfl (by decide) rfl (fun ls hl => ?_)
      refine lv_goto (tgt := 24) hx hb dX8_isCovered_66 (by decide) ?_
      rw [hs_inc] at hl
      exact ih (i + 1, _) _ _ _ (by show N - (i + 1) < N - i; omega) ⟨by omega, hW, hL, (lv_sub hl [1, 2, 0] rfl)⟩
    refine lv_aload_n hx hb dX8_isCovered_42 rfl (lv_at hl 0 rfl) ?_
    refine lv_iload_n hx hb dX8_isCovered_43 rfl (lv_at hl 2 rfl) ?_
    refine lv_aload_n hx hb dX8_isCovered_44 rfl (lv_at hl 0 rfl) ?_
    refine hs_get hC hW hi_X8 rfl 8 (by decide) lk_X8_27 rfl mo_obj rfl dX8_isCovered_45 ?_
    refine lv_iload_n hx hb dX8_isCovered_48 rfl (lv_at hl 2 rfl) ?_
    refine hs_iald hC hW 0 (mo_int ha.1 8 rfl) rfl hin dX8_isCovered_49 ?_
    refine lv_aload_n hx hb dX8_isCovered_50 rfl (lv_at hl 0 rfl) ?_
    refine hs_get hC hW hi_X8 rfl 9 (by decide) lk_X8_30 rfl mo_obj rfl dX8_isCovered_51 ?_
    refine lv_iload_n hx hb dX8_isCovered_54 rfl (lv_at hl 2 rfl) ?_
    refine hs_iald hC hW 0 (mo_int ha.1 9 rfl) rfl hin dX8_isCovered_55 ?_
    refine lv_aload_n hx hb dX8_isCovered_56 rfl (lv_at hl 0 rfl) ?_
    refine hs_get hC hW hi_X8 rfl 30 (by decide) lk_X8_87 rfl mo_obj rfl dX8_isCovered_57 ?_
    refine hs_callV hC hs_Tok hW hL (ct_X8_moveM E _ _ _ _ _ _ _ ha N d S i _ _ hlt hI) cw_X8_move lk_X8_122 im_X8_move se_X8_move (hs_recv hC hW mo_obj rfl) hl.1 (by decide) (Nat.le_of_ble_eq_true rfl) dX8_isCovered_60 (mo_k0 (fun _ _ _ _ h => h.1) (fun sc1 mI1 mL1 H locs hq hW hL => ?_))
    obtain ⟨-, e1, e2⟩ := hq
    rw [e1, e2] at hW
    refine lv_iinc (lv' := [(2, .int _), (0, .ref _), (1, .int _)]) hx hb dX8_isCovered_63 hl (k := 2) rfl rfl (by decide) rfl (fun ls hl => ?_)
    refine lv_goto (tgt := 24) hx hb dX8_isCovered_66 (by decide) ?_
    rw [hs_inc] at hl
    exact ih (i + 1, _) _ _ _ (by show N - (i + 1) < N - i; omega) ⟨by omega, hW, hL, (lv_sub hl [1, 2, 0] rfl)⟩
  have hlt : i < 144 := mo_c144 (by omega) c6
  have hin : vp_in (nI i) 144 := vp_in_nI hlt (by decide)
  refine lv_aload_n hx hb dX8_isCovered_9 rfl (lv_at hl 0 rfl) ?_
  refine hs_get hC hW hi_X8 rfl 30 (by decide) lk_X8_87 rfl mo_obj rfl dX8_isCovered_10 ?_
  refine lv_iload_n hx hb dX8_isCovered_13 rfl (lv_at hl 2 rfl) ?_
  refine lv_lconst (v := 0) hx hb dX8_isCovered_14 (by decide) ?_
  refine hs_last hC hW hL 1 (mo_long ha.1 30 rfl) (ha.2.2 30 rfl) rfl hin dX8_isCovered_15 (fun H locs hW hL => ?_)
  rw [mo_putL ha.1 30 rfl] at hW
  refine lv_iinc (lv' := [(2, .int _), (0, .ref _), (1, .int _)]) hx hb dX8_isCovered_16 hl (k := 2) rfl rfl (by decide) rfl (fun ls hl => ?_)
  refine lv_goto (tgt := 2) hx hb dX8_isCovered_19 (by decide) ?_
  rw [hs_inc] at hl
  exact ih (i + 1, _) _ _ _ (by show 144 - (i + 1) < 144 - i; omega) ⟨by omega, hW, hL, (lv_sub hl [1, 2, 0] rfl)⟩
