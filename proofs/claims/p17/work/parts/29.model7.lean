/-! the reference: settleGroups -/
theorem mo_nI_m1 {g : Nat} (hg : g < 150) : ¬ nI g = -1 := by
  intro h
  have h1 := congrArg Int32.toInt h
  rw [nI_toInt (by omega)] at h1
  have h2 : Int32.toInt (-1) = -1 := by decide
  rw [h2] at h1
  omega
set_option maxHeartbeats 4000000 in
set_option maxRecDepth 100000 in
/-- Model.settleGroups -/
theorem ct_X8_settleGroups (E : hs_E) (mo : Nat) (ar : Nat → Nat) (ix : Nat → Option Nat) (sc : Nat → Int32) (mI : Nat → Nat → Int32) (mL : Nat → Nat → Int64) (F : hs_G) (ha : mo_ok E mo ar ix) (N d S : Nat) (hI : mo_I sc mI N d S) : hM E yX8_settleGroups ({ frames := 3, cells := 0, slots := 0, locals := 100 }) [.ref mo] (mo_W E mo ar ix sc mI mL F) (mo_P E mo ar ix F (fun v sc2 mI2 _ => (∃ x : Int32, v = some (.int x)) ∧ ∃ S2 : Nat, mo_I sc2 mI2 N d S2 ∧ mo_K2 sc sc2 mI mI2)) := by
  refine hs_ofW (cc := cX8_settleGroups) (maxL := 6) (ret := (some .int)) (by decide) co_X8_settleGroups ?_
  intro p e s m args below meth c hC hlocks hr hin0 hnoh hW
  obtain ⟨hx, hb, hml, hown, hts, -⟩ := id hC
  have hE := hW
  have hL : ∀ q ∈ ([] : List Loc), (eH E).size ≤ q.base := fun q hq => nomatch hq
  have hl := lv_entry ([.ref mo] : List Value) (n := 6) (Nat.le_of_ble_eq_true rfl)
  rw [lg_entry_eq]
  generalize (lg_sl [.ref mo] ++ List.replicate (6 - (lg_sl [.ref mo]).length) Slot.unset).toArray = ls at hl ⊢
  have hl : lv_has ls 6 [(0, .ref mo)] := hl
  refine lv_iconst (v := 0) hx hb dX8_settleGroups_0 (by decide) ?_
  refine lv_istore_n (lv' := [(1, .int _), (0, .ref _)]) hx hb dX8_settleGroups_1 rfl hl (by decide) rfl (fun ls hl => ?_)
  refine lv_iconst (v := 1) hx hb dX8_settleGroups_2 (by decide) ?_
  refine lv_istore_n (lv' := [(2, .int _), (1, .int _), (0, .ref _)]) hx hb dX8_settleGroups_3 rfl hl (by decide) rfl (fun ls hl => ?_)
  refine hs_loop (σ := Int32 × Int32 × (Nat → Int32) × (Nat → Nat → Int32) × (Nat → Nat → Int64) × Nat) (fun x => match x with | (n, mro, sc1, mI1, mL1, S1) => 2 * mo_pd (mI1 15) N + (if mro = 0 then 0 else 1)) (fun x H locs ls => match x with | (n, mro, sc1, mI1, mL1, S1) => (mo_I sc1 mI1 N d S1 ∧ mo_K2 sc sc1 mI mI1) ∧ hs_W (eD E) vwCl (eH E) (mo_W E mo ar ix sc1 mI1 mL1 F) H ∧ (∀ q ∈ locs, (eH E).size ≤ q.base) ∧ lv_has ls 6 [(0, .ref mo), (1, .int n), (2, .int mro)]) ?_ (0, 1, sc, mI, mL, S) _ _ _ ⟨⟨hI, (fun _ _ _ => rfl), (fun _ _ _ _ _ _ _ => rfl)⟩, hW, hL, (lv_sub hl [2, 1, 0] rfl)⟩
  rintro ⟨n, mro, sc1, mI1, mL1, S1⟩ H locs ls ⟨hinv, hW, hL, hl⟩ iho
  replace hW : hs_W (eD E) vwCl (eH E) (mo_W E mo ar ix sc1 mI1 mL1 F) H := hW
  replace hl : lv_has ls 6 [(0, .ref mo), (1, .int n), (2, .int mro)] := hl
  refine lv_iload_n hx hb dX8_settleGroups_4 rfl (lv_at hl 2 rfl) ?_
  refine lv_if_eq (tgt := 126) hx hb dX8_settleGroups_5 (by decide) (fun c5 => ?_) (fun c5 => ?_)
  · refine lv_iload_n hx hb dX8_settleGroups_126 rfl (lv_at hl 1 rfl) ?_
    exact hs_iret hC hW hL hr hlocks (by decide) (by decide) dX8_settleGroups_127 ⟨rfl, rfl, _, _, _, _, rfl, rfl, ⟨_, rfl⟩, S1, hinv.1, hinv.2⟩
  have hinvo := hinv
  refine lv_iconst (v := 0) hx hb dX8_settleGroups_8 (by decide) ?_
  refine lv_istore_n (lv' := [(2, .int _), (0, .ref _), (1, .int _)]) hx hb dX8_settleGroups_9 rfl hl (by decide) rfl (fun ls hl => ?_)
  refine lv_aload_n hx hb dX8_settleGroups_10 rfl (lv_at hl 1 rfl) ?_
  refine hs_callV hC hs_Tok hW hL (ct_X8_layRow E _ _ _ _ _ _ _ ha N d S1 hinv.1.b hinv.1.2.2.2.2.2.2.1) cw_X8_layRow lk_X8_141 im_X8_layRow se_X8_layRow (hs_recv hC hW mo_obj rfl) hl.1 (by decide) (Nat.le_of_ble_eq_true rfl) dX8_settleGroups_11 (mo_k0 (fun _ _ _ _ h => h.1) (fun sc9 mI9 mL9 H locs hq hW hL => ?_))
  obtain ⟨-, rw, f, hnd, hld1, hrw, e1, e2⟩ := hq
  rw [e1, e2] at hW
  have hld : ∀ t ∈ rw, mo_ld (mo_up sc1 28 (nI rw.length)) (mo_up mI1 29 f) N t := hld1
  refine lv_iconst (v := 0) hx hb dX8_settleGroups_14 (by decide) ?_
  refine lv_istore_n (lv' := [(3, .int _), (2, .int _), (0, .ref _), (1, .int _)]) hx hb dX8_settleGroups_15 rfl hl (by decide) rfl (fun ls hl => ?_)
  refine hs_loop (σ := Nat × Int32 × Int32 × (Nat → Int32) × (Nat → Nat → Int32) × (Nat → Nat → Int64) × Nat) (fun x => match x with | (k, n, mr, sc2, mI2, mL2, S2) => rw.length - k) (fun x H locs ls => match x with | (k, n, mr, sc2, mI2, mL2, S2) => (k ≤ rw.length ∧ mo_Mi (mo_up sc1 28 (nI rw.length)) (mo_up mI1 29 f) N d rw k mr sc2 mI2 S2) ∧ hs_W (eD E) vwCl (eH E) (mo_W E mo ar ix sc2 mI2 mL2 F) H ∧ (∀ q ∈ locs, (eH E).size ≤ q.base) ∧ lv_has ls 6 [(0, .ref mo), (1, .int n), (2, .int mr), (3, .int (nI k))]) ?_ (0, n, 0, mo_up sc1 28 (nI rw.length), mo_up mI1 29 f, _, S1) _ _ _ ⟨⟨Nat.zero_le _, mo_J_fr hinv.1 ⟨rfl, rfl, rfl⟩ ⟨rfl, rfl, rfl, rfl, rfl, rfl⟩, mo_K.rf, (fun _ _ _ _ => rfl), Nat.le_refl _, Or.inl rfl, fun z => absurd z (by decide)⟩, hW, hL, (lv_sub hl [2, 3, 1, 0] rfl)⟩
  rintro ⟨k, n, mr, sc2, mI2, mL2, S2⟩ H locs ls ⟨hinv, hW, hL, hl⟩ ihm
  replace hW : hs_W (eD E) vwCl (eH E) (mo_W E mo ar ix sc2 mI2 mL2 F) H := hW
  replace hl : lv_has ls 6 [(0, .ref mo), (1, .int n), (2, .int mr), (3, .int (nI k))] := hl
  refine lv_iload_n hx hb dX8_settleGroups_16 rfl (lv_at hl 3 rfl) ?_
  refine lv_aload_n hx hb dX8_settleGroups_17 rfl (lv_at hl 0 rfl) ?_
  refine hs_get hC hW hi_X8 rfl 28 (by decide) lk_X8_132 rfl mo_obj rfl dX8_settleGroups_18 ?_
  refine lv_icmp_ge (tgt := 123) hx hb dX8_settleGroups_21 (by decide) (fun c21 => ?_) (fun c21 => ?_)
  · refine lv_goto (tgt := 4) hx hb dX8_settleGroups_123 (by decide) ?_
    exact iho (n, mr, _, _, _, S2) _ _ _ (by show 2 * mo_pd (mI2 15) N + (if mr = 0 then 0 else 1) < 2 * mo_pd (mI1 15) N + (if mro = 0 then 0 else 1); rw [if_neg c5]; have z := hinv.2.2.2.2; have z1 : mo_pd ((mo_up mI1 29 f) 15) N = mo_pd (mI1 15) N := rfl; rw [z1] at z; rcases z.2.1 with y | y; rw [if_pos y]; have z3 := z.1; omega; rw [if_neg (by rw [y]; decide)]; have := z.2.2 y; omega) ⟨⟨hinv.2.1, (hinvo.2.tr mo_K2.lay).tr hinv.2.2.1.two⟩, hW, hL, (lv_sub hl [0, 1, 2] rfl)⟩
  have hlen9 : rw.length ≤ 150 := Nat.le_trans (mo_nodup N rw hnd (fun t ht => (hld t ht).1)) hI.2.1
  have hk1 : k < rw.length := Nat.not_le.mp fun z => c21 (by show nI k ≥ sc2 28; rw [hinv.2.2.1.1 28 (by decide), mo_up_eq]; exact (nI_leI (by omega) (by omega)).mpr z)
  obtain ⟨t0, hk0⟩ : ∃ t0, rw[k]? = some t0 := ⟨rw[k], List.getElem?_eq_getElem hk1⟩
  have hld0 := hld t0 (List.mem_of_getElem? hk0)
  have hf0 : mI2 29 k = nI t0 := by rw [hinv.2.2.1.2 29 (by decide) (by decide) (by decide) (by decide) (by decide), mo_up_eq]; exact hrw k t0 hk0
  have hkc : (nI k).toNatClampNeg = k := nI_clamp (by omega)
  have ht0c : (nI t0).toNatClampNeg = t0 := nI_clamp (by have := hld0.1; have := hI.2.1; omega)
  obtain ⟨g, hg150, hgg⟩ := hld0.2.1
  have hgt : mI2 22 t0 = nI g := (hinv.2.2.2.1 k t0 (Nat.le_refl _) hk0).trans hgg
  refine lv_aload_n hx hb dX8_settleGroups_24 rfl (lv_at hl 0 rfl) ?_
  refine hs_get hC hW hi_X8 rfl 22 (by decide) lk_X8_69 rfl mo_obj rfl dX8_settleGroups_25 ?_
  refine lv_aload_n hx hb dX8_settleGroups_28 rfl (lv_at hl 0 rfl) ?_
  refine hs_get hC hW hi_X8 rfl 29 (by decide) lk_X8_84 rfl mo_obj rfl dX8_settleGroups_29 ?_
  refine lv_iload_n hx hb dX8_settleGroups_32 rfl (lv_at hl 3 rfl) ?_
  refine hs_iald hC hW 0 (mo_int ha.1 29 rfl) rfl (vp_in_nI (N := 150) (by omega) (by decide)) dX8_settleGroups_33 ?_
  refine hs_iald hC hW 0 (mo_int ha.1 22 rfl) rfl (by rw [hkc, hf0]; exact vp_in_nI (N := 150) (Nat.lt_of_lt_of_le hld0.1 hI.2.1) (by decide)) dX8_settleGroups_34 ?_
  rw [hkc, hf0, ht0c, hgt]
  refine lv_istore (lv' := [(4, .int _), (0, .ref _), (1, .int _), (2, .int _), (3, .int _)]) hx hb dX8_settleGroups_35 hl (by decide) rfl (fun ls hl => ?_)
  refine lv_aload_n hx hb dX8_settleGroups_37 rfl (lv_at hl 1 rfl) ?_
  refine lv_iload hx hb dX8_settleGroups_38 (lv_at hl 0 rfl) ?_
  refine hs_callV hC hs_Tok hW hL (ct_X8_isCovered E _ _ _ _ _ _ _ ha _ N d S2 hinv.2.1.b) cw_X8_isCovered lk_X8_144 im_X8_isCovered se_X8_isCovered (hs_recv hC hW mo_obj rfl) hl.1 (by decide) (Nat.le_of_ble_eq_true rfl) dX8_settleGroups_40 (mo_k1 (fun _ _ _ _ h => ⟨_, h.1.choose_spec.1⟩) (fun x sc9 mI9 mL9 H locs hq hW hL => ?_))
  obtain ⟨-, e1, e2⟩ := hq
  rw [e1, e2] at hW
  refine lv_if_eq (tgt := 117) hx hb dX8_settleGroups_43 (by decide) (fun c43 => ?_) (fun c43 => ?_)
  · refine lv_iinc (lv' := [(3, .int _), (4, .int _), (0, .ref _), (1, .int _), (2, .int _)]) hx hb dX8_settleGroups_117 hl (k := 4) rfl rfl (by decide) rfl (fun ls hl => ?_)
    refine lv_goto (tgt := 16) hx hb dX8_settleGroups_120 (by decide) ?_
    rw [hs_inc] at hl
    exact ihm (k + 1, _, mr, _, _, _, S2) _ _ _ (by show rw.length - (k + 1) < rw.length - k; omega) ⟨⟨by omega, hinv.2.1, hinv.2.2.1, (fun k1 t z1 z2 => hinv.2.2.2.1 k1 t (by omega) z2), hinv.2.2.2.2⟩, hW, hL, (lv_sub hl [2, 3, 4, 0] rfl)⟩
  refine lv_iconst (v := 1) hx hb dX8_settleGroups_46 (by decide) ?_
  refine lv_istore_n (lv' := [(2, .int _), (4, .int _), (0, .ref _), (1, .int _), (3, .int _)]) hx hb dX8_settleGroups_47 rfl hl (by decide) rfl (fun ls hl => ?_)
  refine lv_iconst (v := 0) hx hb dX8_settleGroups_48 (by decide) ?_
  refine lv_istore (lv' := [(5, .int _), (2, .int _), (4, .int _), (0, .ref _), (1, .int _), (3, .int _)]) hx hb dX8_settleGroups_49 hl (by decide) rfl (fun ls hl => ?_)
  have hinvm := hinv
  have hg0 : mI2 22 t0 = nI g := hgt
  refine hs_loop (σ := Nat × Int32 × (Nat → Int32) × (Nat → Nat → Int32) × (Nat → Nat → Int64) × Nat) (fun x => match x with | (i, n, sc3, mI3, mL3, S3) => N - i) (fun x H locs ls => match x with | (i, n, sc3, mI3, mL3, S3) => (i ≤ N ∧ mo_In sc2 mI2 N d g t0 i sc3 mI3 S3) ∧ hs_W (eD E) vwCl (eH E) (mo_W E mo ar ix sc3 mI3 mL3 F) H ∧ (∀ q ∈ locs, (eH E).size ≤ q.base) ∧ lv_has ls 6 [(0, .ref mo), (1, .int n), (2, .int 1), (3, .int (nI k)), (4, .int (nI g)), (5, .int (nI i))]) ?_ (0, n, sc2, mI2, _, S2) _ _ _ ⟨⟨Nat.zero_le _, hinv.2.1, mo_K.rf, (fun _ _ => rfl), (fun _ _ => rfl), by rw [if_neg (Nat.not_lt_zero _)]; exact Nat.le_refl _⟩, hW, hL, (lv_sub hl [3, 4, 1, 5, 2, 0] rfl)⟩
  rintro ⟨i, n, sc3, mI3, mL3, S3⟩ H locs ls ⟨hinv, hW, hL, hl⟩ ihi
  replace hW : hs_W (eD E) vwCl (eH E) (mo_W E mo ar ix sc3 mI3 mL3 F) H := hW
  replace hl : lv_has ls 6 [(0, .ref mo), (1, .int n), (2, .int 1), (3, .int (nI k)), (4, .int (nI g)), (5, .int (nI i))] := hl
  refine lv_iload hx hb dX8_settleGroups_51 (lv_at hl 5 rfl) ?_
  refine lv_aload_n hx hb dX8_settleGroups_53 rfl (lv_at hl 0 rfl) ?_
  refine hs_get hC hW hi_X8 rfl 4 (by decide) lk_X8_107 rfl mo_obj rfl dX8_settleGroups_54 ?_
  refine lv_icmp_ge (tgt := 117) hx hb dX8_settleGroups_57 (by decide) (fun c57 => ?_) (fun c57 => ?_)
  · refine lv_iinc (lv' := [(3, .int _), (0, .ref _), (1, .int _), (2, .int _), (4, .int _), (5, .int _)]) hx hb dX8_settleGroups_117 hl (k := 3) rfl rfl (by decide) rfl (fun ls hl => ?_)
    refine lv_goto (tgt := 16) hx hb dX8_settleGroups_120 (by decide) ?_
    rw [hs_inc] at hl
    have hiN : i = N := Nat.le_antisymm hinv.1 (hs_geN hinv.2.1.1 (by have := hI.2.1; omega) (by have := hI.2.1; omega) c57)
    subst hiN
    exact ihm (k + 1, _, 1, _, _, _, S3) _ _ _ (by show rw.length - (k + 1) < rw.length - k; omega) ⟨⟨by omega, mo_Mi_in hld hnd hinvm.2 hk0 hg0 hinv.2⟩, hW, hL, (lv_sub hl [1, 2, 3, 0] rfl)⟩
  have hlt : i < N := hs_ltN hinv.2.1.1 (by have := hI.2.1; omega) (by have := hI.2.1; omega) c57
  have hi150 : i < 150 := Nat.lt_of_lt_of_le hlt hI.2.1
  have hin : vp_in (nI i) 150 := vp_in_nI hi150 (by decide)
  have hcl : (nI i).toNatClampNeg = i := nI_clamp (by omega)
  have hS2 : S3 < 2000 := by have := hinv.2.1.rows; omega
  refine lv_aload_n hx hb dX8_settleGroups_60 rfl (lv_at hl 0 rfl) ?_
  refine hs_get hC hW hi_X8 rfl 22 (by decide) lk_X8_69 rfl mo_obj rfl dX8_settleGroups_61 ?_
  refine lv_iload hx hb dX8_settleGroups_64 (lv_at hl 5 rfl) ?_
  refine hs_iald hC hW 0 (mo_int ha.1 22 rfl) rfl hin dX8_settleGroups_66 ?_
  refine lv_iload hx hb dX8_settleGroups_67 (lv_at hl 4 rfl) ?_
  refine lv_icmp_ne (tgt := 111) hx hb dX8_settleGroups_69 (by decide) (fun c69 => ?_) (fun c69 => ?_)
  · refine lv_iinc (lv' := [(5, .int _), (0, .ref _), (1, .int _), (2, .int _), (3, .int _), (4, .int _)]) hx hb dX8_settleGroups_111 hl (k := 5) rfl rfl (by decide) rfl (fun ls hl => ?_)
    refine lv_goto (tgt := 51) hx hb dX8_settleGroups_114 (by decide) ?_
    rw [hs_inc] at hl
    exact ihi (i + 1, _, _, _, _, S3) _ _ _ (by show N - (i + 1) < N - i; omega) ⟨⟨hlt, mo_In_skip hinv.2 hg0 (by rw [hcl] at c69; exact c69)⟩, hW, hL, (lv_sub hl [1, 2, 3, 4, 5, 0] rfl)⟩
  have hyg : mI3 22 i = nI g := by rw [hcl] at c69; exact c69
  have hpn : mI3 15 i = 1 := by
    rcases hinv.2.1.2.2.2.2.2.2.1 i hlt with z | z
    · rw [hyg] at z
      exact absurd z.1 (mo_nI_m1 hg150)
    · exact z.1
  refine lv_aload_n hx hb dX8_settleGroups_72 rfl (lv_at hl 0 rfl) ?_
  refine lv_iload hx hb dX8_settleGroups_73 (lv_at hl 5 rfl) ?_
  refine lv_aload_n hx hb dX8_settleGroups_75 rfl (lv_at hl 0 rfl) ?_
  refine hs_get hC hW hi_X8 rfl 8 (by decide) lk_X8_27 rfl mo_obj rfl dX8_settleGroups_76 ?_
  refine lv_iload hx hb dX8_settleGroups_79 (lv_at hl 5 rfl) ?_
  refine hs_iald hC hW 0 (mo_int ha.1 8 rfl) rfl hin dX8_settleGroups_81 ?_
  refine lv_aload_n hx hb dX8_settleGroups_82 rfl (lv_at hl 0 rfl) ?_
  refine hs_get hC hW hi_X8 rfl 9 (by decide) lk_X8_30 rfl mo_obj rfl dX8_settleGroups_83 ?_
  refine lv_iload hx hb dX8_settleGroups_86 (lv_at hl 5 rfl) ?_
  refine hs_iald hC hW 0 (mo_int ha.1 9 rfl) rfl hin dX8_settleGroups_88 ?_
  refine hs_callV hC hs_Tok hW hL (ct_X8_settle E _ _ _ _ _ _ _ ha N d S3 i _ _ hlt hS2 hinv.2.1.b) cw_X8_settle lk_X8_147 im_X8_settle se_X8_settle (hs_recv hC hW mo_obj rfl) hl.1 (by decide) (Nat.le_of_ble_eq_true rfl) dX8_settleGroups_89 (mo_k0 (fun _ _ _ _ h => h.1) (fun sc1 mI1 mL1 H locs hq hW hL => ?_))
  refine lv_aload_n hx hb dX8_settleGroups_92 rfl (lv_at hl 0 rfl) ?_
  refine hs_get hC hW hi_X8 rfl 15 (by decide) lk_X8_48 rfl mo_obj rfl dX8_settleGroups_93 ?_
  refine lv_iload hx hb dX8_settleGroups_96 (lv_at hl 5 rfl) ?_
  refine lv_iconst (v := 2) hx hb dX8_settleGroups_98 (by decide) ?_
  refine hs_iast hC hW hL 0 (mo_int ha.1 15 rfl) (ha.2.2 15 rfl) rfl hin dX8_settleGroups_99 (fun H locs hW hL => ?_)
  rw [mo_putI ha.1 15 rfl] at hW
  refine lv_aload_n hx hb dX8_settleGroups_100 rfl (lv_at hl 0 rfl) ?_
  refine hs_get hC hW hi_X8 rfl 22 (by decide) lk_X8_69 rfl mo_obj rfl dX8_settleGroups_101 ?_
  refine lv_iload hx hb dX8_settleGroups_104 (lv_at hl 5 rfl) ?_
  refine lv_iconst (v := (-1)) hx hb dX8_settleGroups_106 (by decide) ?_
  refine hs_iast hC hW hL 0 (mo_int ha.1 22 rfl) (ha.2.2 22 rfl) rfl hin dX8_settleGroups_107 (fun H locs hW hL => ?_)
  rw [mo_putI ha.1 22 rfl] at hW
  refine lv_iinc (lv' := [(1, .int _), (0, .ref _), (2, .int _), (3, .int _), (4, .int _), (5, .int _)]) hx hb dX8_settleGroups_108 hl (k := 1) rfl rfl (by decide) rfl (fun ls hl => ?_)
  refine lv_iinc (lv' := [(5, .int _), (1, .int _), (0, .ref _), (2, .int _), (3, .int _), (4, .int _)]) hx hb dX8_settleGroups_111 hl (k := 5) rfl rfl (by decide) rfl (fun ls hl => ?_)
  refine lv_goto (tgt := 51) hx hb dX8_settleGroups_114 (by decide) ?_
  rw [hs_inc] at hl
  rw [hcl] at hW
  exact ihi (i + 1, _, _, _, _, S3 + 1) _ _ _ (by show N - (i + 1) < N - i; omega) ⟨⟨hlt, mo_In_set hinv.2 hlt hyg hpn hq.2.1 hq.2.2⟩, hW, hL, (lv_sub hl [2, 1, 3, 4, 5, 0] rfl)⟩
