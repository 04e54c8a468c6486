/-! java.util.ArrayList: add, remove -/
/-- the list's array with room for one more: the old one, or a new one -/
def al_N (E : hs_E) (G : hs_G) (A cp sz : Nat) (f : Nat → Option Nat) (A1 c1 : Nat) (f1 : Nat → Option Nat) (k n : Nat) : Prop := (∀ j, j < sz → f1 j = f j) ∧ sz < c1 ∧ c1 ≤ 230 ∧ (eH E).size ≤ A1 ∧ ((A1 = A ∧ c1 = cp ∧ k = 0 ∧ n = 0) ∨ (G A1 = none ∧ sz = cp ∧ c1 = al_cap cp ∧ k = 1 ∧ n = c1))
/-- behind an add of x at i -/
def al_P (E : hs_E) (G : hs_G) (L A cp sz : Nat) (f : Nat → Option Nat) (i x : Nat) (mc : Int32) (G1 : hs_G) (k n : Nat) : Prop := ∃ (A1 c1 : Nat) (f2 f1 : Nat → Option Nat), al_N E G A cp sz f A1 c1 f1 k n ∧ G1 = hs_up (hs_up G A1 (al_a E c1 f2)) L (al_o mc A1 (nI (sz + 1))) ∧ ∀ j, j < sz + 1 → f2 j = if j < i then f j else if j = i then some x else f (j - 1)
theorem al_NL {E : hs_E} {G : hs_G} {L A cp sz A1 c1 k n : Nat} {f f1 : Nat → Option Nat} {ci : Nat} {fs : List Value} (hA : G A = some (al_a E cp f)) (hN : al_N E G A cp sz f A1 c1 f1 k n) (hG : G L = some (.inr (ci, fs))) : L ≠ A1 := by
  rcases hN.2.2.2.2 with ⟨h, -⟩ | ⟨h, -⟩
  · rw [h]
    exact (al_ne hG hA).symm
  · intro z
    rw [← z, hG] at h
    cases h
theorem al_S1 {E : hs_E} {G : hs_G} {A1 L : Nat} {x y z : va_E} (h : L ≠ A1) : hs_up (hs_up (hs_up G A1 x) L y) A1 z = hs_up (hs_up G A1 z) L y := by
  rw [hs_up_sw _ h, hs_up_up]
theorem al_P_up {E : hs_E} {G G1 : hs_G} {L A cp sz i x k n ci : Nat} {f : Nat → Option Nat} {mc : Int32} {o : va_E} {fs : List Value} (hA : G A = some (al_a E cp f)) (hG : G L = some (.inr (ci, fs))) (h : al_P E (hs_up G L o) L A cp sz f i x mc G1 k n) : al_P E G L A cp sz f i x mc G1 k n := by
  obtain ⟨A1, c1, f2, f1, hN, h1, h2⟩ := h
  have hL : L ≠ A1 := by
    rcases hN.2.2.2.2 with ⟨h, -⟩ | ⟨h, -⟩
    · rw [h]
      exact (al_ne hG hA).symm
    · intro z
      rw [← z, hs_up_eq] at h
      cases h
  refine ⟨A1, c1, f2, f1, ⟨hN.1, hN.2.1, hN.2.2.1, hN.2.2.2.1, ?_⟩, ?_, h2⟩
  · rcases hN.2.2.2.2 with h | ⟨h, h3⟩
    · exact Or.inl h
    · refine Or.inr ⟨?_, h3⟩
      rw [hs_up_ne _ _ hL.symm] at h
      exact h
  · rw [h1, hs_up_sw _ hL, hs_up_up]
theorem al_xL {G : hs_G} {L x ci : Nat} {mc s : Int32} {A : Nat} {fx : List Value} (h0 : ci ≠ 0) (hG : G L = some (al_o mc A s)) (hx : G x = some (.inr (ci, fx))) : x ≠ L := by
  intro z
  rw [z, hG] at hx
  cases hx
  exact h0 rfl
theorem al_E.upL {G : hs_G} {L ci sz A : Nat} {mc s : Int32} {f : Nat → Option Nat} {x : va_E} (h : al_E G ci sz f) (h0 : ci ≠ 0) (hG : G L = some (al_o mc A s)) : al_E (hs_up G L x) ci sz f := h.up (fun fs z => by rw [hG] at z; cases z; exact h0 rfl)
set_option maxHeartbeats 4000000 in
set_option maxRecDepth 100000 in
/-- add, the list's own -/
theorem ct_addH (E : hs_E) (G : hs_G) (L A sz : Nat) (mc : Int32) (hG : G L = some (al_o mc A (nI sz))) (cp : Nat) (f : Nat → Option Nat) (hA : G A = some (al_a E cp f)) (hsc : sz ≤ cp) (hc : cp ≤ 230) (hs9 : sz < 150) (hcap : cp = 0 → A = E.2.2.2.2.2.2) (hAn : 0 < cp → (eH E).size ≤ A) (hLn : (eH E).size ≤ L) (ci : Nat) (hci : al_el ci) (hel : al_E G ci sz f) (x : Nat) (fx : List Value) (hxo : G x = some (.inr (ci, fx))) : hM E yJx4a65c_add_72be8 ({ frames := 5, cells := 1, slots := 230, locals := 180 }) [.ref L, .ref x, .ref A, .int (nI sz)] G (hs_V (al_P E G L A cp sz f sz x mc)) := by
  refine hs_ofW (cc := cJx4a65c_add_72be8) (maxL := 4) (ret := none) (by decide) co_Jx4a65c_add_72be8 ?_
  intro p e s m args below meth c hC hlocks hr hin0 hnoh hW
  obtain ⟨hx, hb, hml, hown, hts, -⟩ := id hC
  have hE := hW
  have hL : ∀ q ∈ ([] : List Loc), (eH E).size ≤ q.base := fun q hq => nomatch hq
  have hl := lv_entry ([.ref L, .ref x, .ref A, .int (nI sz)] : List Value) (n := 4) (Nat.le_of_ble_eq_true rfl)
  rw [lg_entry_eq]
  generalize (lg_sl [.ref L, .ref x, .ref A, .int (nI sz)] ++ List.replicate (4 - (lg_sl [.ref L, .ref x, .ref A, .int (nI sz)]).length) Slot.unset).toArray = ls at hl ⊢
  have hl : lv_has ls 4 [(0, .ref L), (1, .ref x), (2, .ref A), (3, .int (nI sz))] := hl
  obtain ⟨r9, h9, hca9, hci0⟩ := hci
  refine lv_iload_n hx hb dJx4a65c_add_72be8_0 rfl (lv_at hl 3 rfl) ?_
  refine lv_aload_n hx hb dJx4a65c_add_72be8_1 rfl (lv_at hl 2 rfl) ?_
  refine hs_alen (v := nI cp) hC hW 4 hA rfl rfl dJx4a65c_add_72be8_2 ?_
  refine lv_icmp_ne (tgt := 11) hx hb dJx4a65c_add_72be8_3 (by decide) (fun c3 => ?_) (fun c3 => ?_)
  · have hszc : sz < cp := Nat.lt_of_le_of_ne hsc (fun z => c3 (congrArg nI z))
    have hN : al_N E G A cp sz f A cp f 0 0 := ⟨fun _ _ => rfl, hszc, by omega, hAn (by omega), Or.inl ⟨rfl, rfl, rfl, rfl⟩⟩
    have hS0 : G = hs_up (hs_up G A (al_a E cp f)) L (al_o mc A (nI sz)) := by rw [hs_up_id hA, hs_up_id hG]
    rw [hS0] at hW
    have hA1L := al_NL hA hN hG
    have hxA : x ≠ A := al_NL hA hN hxo
    have hxS : (hs_up (hs_up G A (al_a E cp f)) L (al_o mc A (nI sz))) x = some (.inr (ci, fx)) := by rw [hs_up_ne _ _ (al_xL hci0 hG hxo), hs_up_ne _ _ hxA]; exact hxo
    refine lv_aload_n hx hb dJx4a65c_add_72be8_11 rfl (lv_at hl 2 rfl) ?_
    refine lv_iload_n hx hb dJx4a65c_add_72be8_12 rfl (lv_at hl 3 rfl) ?_
    refine lv_aload_n hx hb dJx4a65c_add_72be8_13 rfl (lv_at hl 1 rfl) ?_
    refine hs_aast hC hW hL 4 ((hs_up_ne _ _ hA1L.symm).trans (hs_up_eq _ _ _)) hN.2.2.2.1 rfl hxS h9 hca9 (vp_in_nI hN.2.1 (by have := hN.2.2.1; omega)) dJx4a65c_add_72be8_14 (fun H locs hW hL => ?_)
    rw [al_S1 (E := E) hA1L] at hW
    refine lv_aload_n hx hb dJx4a65c_add_72be8_15 rfl (lv_at hl 0 rfl) ?_
    refine lv_iload_n hx hb dJx4a65c_add_72be8_16 rfl (lv_at hl 3 rfl) ?_
    refine lv_iconst (v := 1) hx hb dJx4a65c_add_72be8_17 (by decide) ?_
    refine lv_iadd hx hb dJx4a65c_add_72be8_18 ?_
    rw [nI_1]
    refine hs_put hC hW hL hi_Jx4a65c tyJx4a65c tyJx4a65c_ok nmJx4a65c rfl 2 (by decide) lk_Jx4a65c_48 rfl rfl (hs_up_eq _ _ _) hLn rfl rfl (Nat.le_of_ble_eq_true rfl) dJx4a65c_add_72be8_19 (fun H locs hW hL => ?_)
    rw [hs_up_up] at hW
    exact hs_vret hC hW hL hr hlocks (by show _ ≤ 1; first | decide | omega) (by show _ ≤ 230; have := hN.2.2.1; omega) dJx4a65c_add_72be8_22 ⟨rfl, _, _, _, _, hN, rfl, fun j hj => by
      rw [nI_clamp (by omega)]
      by_cases z : j < sz
      · rw [if_pos z, va_up_ne _ _ (by omega)]; first | done | exact hN.1 j z
      · rw [if_neg z, if_pos (by omega), show j = sz by omega, va_up_self]⟩
  have hszc : sz = cp := by rw [dt_nI (by omega) (by omega)] at c3; exact c3
  refine lv_aload_n hx hb dJx4a65c_add_72be8_6 rfl (lv_at hl 0 rfl) ?_
  refine hs_callV hC hs_Tok hW hL (ct_grow E G L A sz mc hG cp f hA hszc (by omega) hcap hLn ci ⟨r9, h9, hca9, hci0⟩ (hszc ▸ hel)) cw_Jx4a65c_grow_d5877 lk_Jx4a65c_129 im_Jx4a65c_grow_d5877 se_Jx4a65c_grow_d5877 (hs_recv hC hW hG rfl) hl.1 (by decide) (Nat.le_of_ble_eq_true rfl) dJx4a65c_add_72be8_7 (hs_kO (fun q G1 k n H locs hI hk hn hW hL => ?_))
  obtain ⟨rfl, rfl, hfq, hqq, f1, hf1, rfl⟩ := hI
  refine lv_astore_n (lv' := [(2, .ref _), (0, .ref _), (1, .ref _), (3, .int _)]) hx hb dJx4a65c_add_72be8_10 rfl hl (by decide) rfl (fun ls hl => ?_)
  have hN : al_N E G A cp sz f q (al_cap cp) f1 (0 + 1) (0 + al_cap cp) := ⟨fun j hj => hf1 j (by omega), by have := (al_cap_b (c := cp) (by omega)).1; omega, by have := (al_cap_b (c := cp) (by omega)).2.1; omega, hqq, Or.inr ⟨hfq, hszc, rfl, rfl, Nat.zero_add _⟩⟩
  have hA1L := al_NL hA hN hG
  have hxA : x ≠ q := al_NL hA hN hxo
  have hxS : (hs_up (hs_up G q (al_a E (al_cap cp) f1)) L (al_o mc q (nI sz))) x = some (.inr (ci, fx)) := by rw [hs_up_ne _ _ (al_xL hci0 hG hxo), hs_up_ne _ _ hxA]; exact hxo
  refine lv_aload_n hx hb dJx4a65c_add_72be8_11 rfl (lv_at hl 0 rfl) ?_
  refine lv_iload_n hx hb dJx4a65c_add_72be8_12 rfl (lv_at hl 3 rfl) ?_
  refine lv_aload_n hx hb dJx4a65c_add_72be8_13 rfl (lv_at hl 2 rfl) ?_
  refine hs_aast hC hW hL 4 ((hs_up_ne _ _ hA1L.symm).trans (hs_up_eq _ _ _)) hN.2.2.2.1 rfl hxS h9 hca9 (vp_in_nI hN.2.1 (by have := hN.2.2.1; omega)) dJx4a65c_add_72be8_14 (fun H locs hW hL => ?_)
  rw [al_S1 (E := E) hA1L] at hW
  refine lv_aload_n hx hb dJx4a65c_add_72be8_15 rfl (lv_at hl 1 rfl) ?_
  refine lv_iload_n hx hb dJx4a65c_add_72be8_16 rfl (lv_at hl 3 rfl) ?_
  refine lv_iconst (v := 1) hx hb dJx4a65c_add_72be8_17 (by decide) ?_
  refine lv_iadd hx hb dJx4a65c_add_72be8_18 ?_
  rw [nI_1]
  refine hs_put hC hW hL hi_Jx4a65c tyJx4a65c tyJx4a65c_ok nmJx4a65c rfl 2 (by decide) lk_Jx4a65c_48 rfl rfl (hs_up_eq _ _ _) hLn rfl rfl (Nat.le_of_ble_eq_true rfl) dJx4a65c_add_72be8_19 (fun H locs hW hL => ?_)
  rw [hs_up_up] at hW
  exact hs_vret hC hW hL hr hlocks (by show _ ≤ 1; first | decide | omega) (by show _ ≤ 230; have := hN.2.2.1; omega) dJx4a65c_add_72be8_22 ⟨rfl, _, _, _, _, hN, rfl, fun j hj => by
      rw [nI_clamp (by omega)]
      by_cases z : j < sz
      · rw [if_pos z, va_up_ne _ _ (by omega)]; first | done | exact hN.1 j z
      · rw [if_neg z, if_pos (by omega), show j = sz by omega, va_up_self]⟩
set_option maxHeartbeats 4000000 in
set_option maxRecDepth 100000 in
/-- add -/
theorem ct_add (E : hs_E) (G : hs_G) (L A sz : Nat) (mc : Int32) (hG : G L = some (al_o mc A (nI sz))) (cp : Nat) (f : Nat → Option Nat) (hA : G A = some (al_a E cp f)) (hsc : sz ≤ cp) (hc : cp ≤ 230) (hs9 : sz < 150) (hcap : cp = 0 → A = E.2.2.2.2.2.2) (hAn : 0 < cp → (eH E).size ≤ A) (hLn : (eH E).size ≤ L) (ci : Nat) (hci : al_el ci) (hel : al_E G ci sz f) (x : Nat) (fx : List Value) (hxo : G x = some (.inr (ci, fx))) : hM E yJx4a65c_add_9ea2d ({ frames := 6, cells := 1, slots := 230, locals := 210 }) [.ref L, .ref x] G (hs_I (fun _ G1 k n => al_P E G L A cp sz f sz x (mc + 1) G1 k n)) := by
  refine hs_ofW (cc := cJx4a65c_add_9ea2d) (maxL := 2) (ret := (some .boolean)) (by decide) co_Jx4a65c_add_9ea2d ?_
  intro p e s m args below meth c hC hlocks hr hin0 hnoh hW
  obtain ⟨hx, hb, hml, hown, hts, -⟩ := id hC
  have hE := hW
  have hL : ∀ q ∈ ([] : List Loc), (eH E).size ≤ q.base := fun q hq => nomatch hq
  have hl := lv_entry ([.ref L, .ref x] : List Value) (n := 2) (Nat.le_of_ble_eq_true rfl)
  rw [lg_entry_eq]
  generalize (lg_sl [.ref L, .ref x] ++ List.replicate (2 - (lg_sl [.ref L, .ref x]).length) Slot.unset).toArray = ls at hl ⊢
  have hl : lv_has ls 2 [(0, .ref L), (1, .ref x)] := hl
  have hci0 : ci ≠ 0 := hci.elim fun _ z => z.2.2
  have hAL := al_ne hG hA
  have hxL := al_xL hci0 hG hxo
  refine lv_aload_n hx hb dJx4a65c_add_9ea2d_0 rfl (lv_at hl 0 rfl) ?_
  refine lv_dup hx hb dJx4a65c_add_9ea2d_1 rfl ?_
  refine hs_getS hC hW hi_Jx4a65c rfl 0 (by decide) lk_Jx4a65c_63 sf_mod hG rfl dJx4a65c_add_9ea2d_2 ?_
  refine lv_iconst (v := 1) hx hb dJx4a65c_add_9ea2d_5 (by decide) ?_
  refine lv_iadd hx hb dJx4a65c_add_9ea2d_6 ?_
  refine hs_putS hC hW hL hi_Jx4a65c tyJx4a65c tyJx4a65c_ok nmJx4a65c rfl 0 (by decide) lk_Jx4a65c_63 sf_mod rfl hG hLn rfl rfl (Nat.le_of_ble_eq_true rfl) dJx4a65c_add_9ea2d_7 (fun H locs hW hL => ?_)
  replace hW : hs_W (eD E) vwCl (eH E) (hs_up G L (al_o (mc + 1) A (nI sz))) H := hW
  refine lv_aload_n hx hb dJx4a65c_add_9ea2d_10 rfl (lv_at hl 0 rfl) ?_
  refine lv_aload_n hx hb dJx4a65c_add_9ea2d_11 rfl (lv_at hl 1 rfl) ?_
  refine lv_aload_n hx hb dJx4a65c_add_9ea2d_12 rfl (lv_at hl 0 rfl) ?_
  refine hs_get hC hW hi_Jx4a65c rfl 1 (by decide) lk_Jx4a65c_9 rfl (hs_up_eq _ _ _) rfl dJx4a65c_add_9ea2d_13 ?_
  refine lv_aload_n hx hb dJx4a65c_add_9ea2d_16 rfl (lv_at hl 0 rfl) ?_
  refine hs_get hC hW hi_Jx4a65c rfl 2 (by decide) lk_Jx4a65c_48 rfl (hs_up_eq _ _ _) rfl dJx4a65c_add_9ea2d_17 ?_
  refine hs_callV hC hs_Tok hW hL (ct_addH E (hs_up G L (al_o (mc + 1) A (nI sz))) L A sz (mc + 1) (hs_up_eq _ _ _) cp f ((hs_up_ne _ _ hAL).trans hA) hsc hc hs9 hcap hAn hLn ci hci (hel.upL hci0 hG) x fx ((hs_up_ne _ _ hxL).trans hxo)) cw_Jx4a65c_add_72be8 lk_Jx4a65c_131 im_Jx4a65c_add_72be8 se_Jx4a65c_add_72be8 (hs_recv hC hW (hs_up_eq _ _ _) rfl) hl.1 (by decide) (Nat.le_of_ble_eq_true rfl) dJx4a65c_add_9ea2d_20 (hs_kV (fun G1 k n H locs hI hk hn hW hL => ?_))
  replace hk : k ≤ 1 := hk
  replace hn : n ≤ 230 := hn
  have hI2 := al_P_up hA hG hI
  refine lv_iconst (v := 1) hx hb dJx4a65c_add_9ea2d_23 (by decide) ?_
  exact hs_zret hC hW hL hr hlocks (by show 0 + k ≤ 1; omega) (by show 0 + n ≤ 230; omega) dJx4a65c_add_9ea2d_24 rfl ⟨_, rfl, by rw [Nat.zero_add, Nat.zero_add]; exact hI2⟩
theorem al_S2 {E : hs_E} {G : hs_G} {A L : Nat} {x y z : va_E} (h : A ≠ L) : hs_up (hs_up (hs_up G L x) A y) L z = hs_up (hs_up G A y) L z := by
  rw [hs_up_sw _ h.symm, hs_up_up]
theorem al_m1 {sz : Nat} (h : 0 < sz) : nI sz - 1 = nI (sz - 1) := by
  obtain ⟨k, rfl⟩ : ∃ k, sz = k + 1 := ⟨sz - 1, by omega⟩
  exact nI_m1
theorem al_ES {E : hs_E} {G : hs_G} {L A cp sz A1 c1 k n ci : Nat} {f f1 f2 : Nat → Option Nat} {mc s : Int32} {A0 : Nat} {o : va_E} (hA : G A = some (al_a E cp f)) (hN : al_N E G A cp sz f A1 c1 f1 k n) (hG : G L = some (al_o mc A0 s)) (h0 : ci ≠ 0) (h : al_E G ci sz f) : al_E (hs_up (hs_up G A1 (al_a E c1 f2)) L o) ci sz f1 := by
  intro j y hj hy
  rw [hN.1 j hj] at hy
  obtain ⟨fs, h1⟩ := h j y hj hy
  exact ⟨fs, by rw [hs_up_ne _ _ (al_xL h0 hG h1), hs_up_ne _ _ (al_NL hA hN h1)]; exact h1⟩
set_option maxHeartbeats 4000000 in
set_option maxRecDepth 100000 in
/-- rangeCheckForAdd -/
theorem ct_range (E : hs_E) (G : hs_G) (L A sz : Nat) (mc : Int32) (hG : G L = some (al_o mc A (nI sz))) (i : Nat) (hi9 : i ≤ sz) (hs9 : sz < 2 ^ 31) : hM E yJx4a65c_rangeCheckForAdd_d00df ({ frames := 0, cells := 0, slots := 0, locals := 0 }) [.ref L, .int (nI i)] G (hs_pu none G) := by
  refine hs_ofW (cc := cJx4a65c_rangeCheckForAdd_d00df) (maxL := 2) (ret := none) (by decide) co_Jx4a65c_rangeCheckForAdd_d00df ?_
  intro p e s m args below meth c hC hlocks hr hin0 hnoh hW
  obtain ⟨hx, hb, hml, hown, hts, -⟩ := id hC
  have hE := hW
  have hL : ∀ q ∈ ([] : List Loc), (eH E).size ≤ q.base := fun q hq => nomatch hq
  have hl := lv_entry ([.ref L, .int (nI i)] : List Value) (n := 2) (Nat.le_of_ble_eq_true rfl)
  rw [lg_entry_eq]
  generalize (lg_sl [.ref L, .int (nI i)] ++ List.replicate (2 - (lg_sl [.ref L, .int (nI i)]).length) Slot.unset).toArray = ls at hl ⊢
  have hl : lv_has ls 2 [(0, .ref L), (1, .int (nI i))] := hl
  refine lv_iload_n hx hb dJx4a65c_rangeCheckForAdd_d00df_0 rfl (lv_at hl 1 rfl) ?_
  refine lv_aload_n hx hb dJx4a65c_rangeCheckForAdd_d00df_1 rfl (lv_at hl 0 rfl) ?_
  refine hs_get hC hW hi_Jx4a65c rfl 2 (by decide) lk_Jx4a65c_48 rfl hG rfl dJx4a65c_rangeCheckForAdd_d00df_2 ?_
  refine lv_icmp_gt (tgt := 12) hx hb dJx4a65c_rangeCheckForAdd_d00df_5 (by decide) (fun c5 => ?_) (fun c5 => ?_)
  · exact absurd c5 (Int32.not_lt.mpr ((nI_leI (by omega) (by omega)).mpr hi9))
  refine lv_iload_n hx hb dJx4a65c_rangeCheckForAdd_d00df_8 rfl (lv_at hl 1 rfl) ?_
  refine lv_if_ge (tgt := 25) hx hb dJx4a65c_rangeCheckForAdd_d00df_9 (by decide) (fun c9 => ?_) (fun c9 => ?_)
  · exact hs_vret hC hW hL hr hlocks (by decide) (by decide) dJx4a65c_rangeCheckForAdd_d00df_25 ⟨rfl, rfl, rfl, rfl⟩
  exact absurd c9 (fun z => z (Int32.not_lt.mp (al_nn (by omega))))
theorem al_ins {f f1 : Nat → Option Nat} {sz i j x : Nat} (h : ∀ j, j < sz → f1 j = f j) (hi : i ≤ sz) (hj : j < sz + 1) : va_up (va_cpy f1 f1 i (i + 1) (sz - i)) i (some x) j = if j < i then f j else if j = i then some x else f (j - 1) := by
  by_cases h1 : j < i
  · rw [if_pos h1, va_up_ne _ _ (by omega)]
    unfold va_cpy
    rw [if_neg (by omega)]
    exact h j (by omega)
  · rw [if_neg h1]
    by_cases h2 : j = i
    · rw [if_pos h2, h2, va_up_self]
    · rw [if_neg h2, va_up_ne _ _ h2]
      unfold va_cpy
      rw [if_pos (by omega), show i + (j - (i + 1)) = j - 1 by omega]
      exact h (j - 1) (by omega)
set_option maxHeartbeats 4000000 in
set_option maxRecDepth 100000 in
/-- add at a place -/
theorem ct_addAt (E : hs_E) (G : hs_G) (L A sz : Nat) (mc : Int32) (hG : G L = some (al_o mc A (nI sz))) (cp : Nat) (f : Nat → Option Nat) (hA : G A = some (al_a E cp f)) (hsc : sz ≤ cp) (hc : cp ≤ 230) (hs9 : sz < 150) (hcap : cp = 0 → A = E.2.2.2.2.2.2) (hAn : 0 < cp → (eH E).size ≤ A) (hLn : (eH E).size ≤ L) (ci : Nat) (hci : al_el ci) (hel : al_E G ci sz f) (x : Nat) (fx : List Value) (hxo : G x = some (.inr (ci, fx))) (i : Nat) (hi9 : i ≤ sz) : hM E yJx4a65c_add_7a177 ({ frames := 5, cells := 1, slots := 230, locals := 180 }) [.ref L, .int (nI i), .ref x] G (hs_V (al_P E G L A cp sz f i x (mc + 1))) := by
  refine hs_ofW (cc := cJx4a65c_add_7a177) (maxL := 5) (ret := none) (by decide) co_Jx4a65c_add_7a177 ?_
  intro p e s m args below meth c hC hlocks hr hin0 hnoh hW
  obtain ⟨hx, hb, hml, hown, hts, -⟩ := id hC
  have hE := hW
  have hL : ∀ q ∈ ([] : List Loc), (eH E).size ≤ q.base := fun q hq => nomatch hq
  have hl := lv_entry ([.ref L, .int (nI i), .ref x] : List Value) (n := 5) (Nat.le_of_ble_eq_true rfl)
  rw [lg_entry_eq]
  generalize (lg_sl [.ref L, .int (nI i), .ref x] ++ List.replicate (5 - (lg_sl [.ref L, .int (nI i), .ref x]).length) Slot.unset).toArray = ls at hl ⊢
  have hl : lv_has ls 5 [(0, .ref L), (1, .int (nI i)), (2, .ref x)] := hl
  obtain ⟨r9, h9, hca9, hci0⟩ := hci
  have hAL := al_ne hG hA
  have hxL := al_xL hci0 hG hxo
  refine lv_aload_n hx hb dJx4a65c_add_7a177_0 rfl (lv_at hl 0 rfl) ?_
  refine lv_iload_n hx hb dJx4a65c_add_7a177_1 rfl (lv_at hl 1 rfl) ?_
  refine hs_callV hC hs_Tok hW hL (ct_range E G L A sz mc hG i hi9 (by omega)) cw_Jx4a65c_rangeCheckForAdd_d00df lk_Jx4a65c_135 im_Jx4a65c_rangeCheckForAdd_d00df se_Jx4a65c_rangeCheckForAdd_d00df (hs_recv hC hW hG rfl) hl.1 (by decide) (Nat.le_of_ble_eq_true rfl) dJx4a65c_add_7a177_2 (hs_kp0 (fun H locs hW hL => ?_))
  refine lv_aload_n hx hb dJx4a65c_add_7a177_5 rfl (lv_at hl 0 rfl) ?_
  refine lv_dup hx hb dJx4a65c_add_7a177_6 rfl ?_
  refine hs_getS hC hW hi_Jx4a65c rfl 0 (by decide) lk_Jx4a65c_63 sf_mod hG rfl dJx4a65c_add_7a177_7 ?_
  refine lv_iconst (v := 1) hx hb dJx4a65c_add_7a177_10 (by decide) ?_
  refine lv_iadd hx hb dJx4a65c_add_7a177_11 ?_
  refine hs_putS hC hW hL hi_Jx4a65c tyJx4a65c tyJx4a65c_ok nmJx4a65c rfl 0 (by decide) lk_Jx4a65c_63 sf_mod rfl hG hLn rfl rfl (Nat.le_of_ble_eq_true rfl) dJx4a65c_add_7a177_12 (fun H locs hW hL => ?_)
  replace hW : hs_W (eD E) vwCl (eH E) (hs_up G L (al_o (mc + 1) A (nI sz))) H := hW
  have hel1 : al_E (hs_up G L (al_o (mc + 1) A (nI sz))) ci sz f := hel.upL hci0 hG
  refine lv_aload_n hx hb dJx4a65c_add_7a177_15 rfl (lv_at hl 0 rfl) ?_
  refine hs_get hC hW hi_Jx4a65c rfl 2 (by decide) lk_Jx4a65c_48 rfl (hs_up_eq _ _ _) rfl dJx4a65c_add_7a177_16 ?_
  refine lv_dup hx hb dJx4a65c_add_7a177_19 rfl ?_
  refine lv_istore_n (lv' := [(3, .int _), (0, .ref _), (1, .int _), (2, .ref _)]) hx hb dJx4a65c_add_7a177_20 rfl hl (by decide) rfl (fun ls hl => ?_)
  refine lv_aload_n hx hb dJx4a65c_add_7a177_21 rfl (lv_at hl 1 rfl) ?_
  refine hs_get hC hW hi_Jx4a65c rfl 1 (by decide) lk_Jx4a65c_9 rfl (hs_up_eq _ _ _) rfl dJx4a65c_add_7a177_22 ?_
  refine lv_dup hx hb dJx4a65c_add_7a177_25 rfl ?_
  refine lv_astore (lv' := [(4, .ref _), (3, .int _), (0, .ref _), (1, .int _), (2, .ref _)]) hx hb dJx4a65c_add_7a177_26 hl (by decide) rfl (fun ls hl => ?_)
  refine hs_alen (v := nI cp) hC hW 4 ((hs_up_ne _ _ hAL).trans hA) rfl rfl dJx4a65c_add_7a177_28 ?_
  refine lv_icmp_ne (tgt := 38) hx hb dJx4a65c_add_7a177_29 (by decide) (fun c29 => ?_) (fun c29 => ?_)
  · have hszc : sz < cp := Nat.lt_of_le_of_ne hsc (fun z => c29 (congrArg nI z))
    have hN : al_N E (hs_up G L (al_o (mc + 1) A (nI sz))) A cp sz f A cp f 0 0 := ⟨fun _ _ => rfl, hszc, by omega, hAn (by omega), Or.inl ⟨rfl, rfl, rfl, rfl⟩⟩
    have hS0 : hs_up G L (al_o (mc + 1) A (nI sz)) = hs_up (hs_up (hs_up G L (al_o (mc + 1) A (nI sz))) A (al_a E cp f)) L (al_o (mc + 1) A (nI sz)) := by rw [hs_up_id (G := (hs_up G L (al_o (mc + 1) A (nI sz)))) (a := A) ((hs_up_ne _ _ hAL).trans hA), hs_up_id (G := (hs_up G L (al_o (mc + 1) A (nI sz)))) (a := L) (hs_up_eq _ _ _)]
    rw [hS0] at hW
    have hA1L : L ≠ A := al_NL ((hs_up_ne _ _ hAL).trans hA) hN (hs_up_eq _ _ _)
    have hxA : x ≠ A := al_NL ((hs_up_ne _ _ hAL).trans hA) hN ((hs_up_ne _ _ hxL).trans hxo)
    have hxS : ∀ f9, (hs_up (hs_up (hs_up G L (al_o (mc + 1) A (nI sz))) A (al_a E cp f9)) L (al_o (mc + 1) A (nI sz))) x = some (.inr (ci, fx)) := fun f9 => by rw [hs_up_ne _ _ hxL, hs_up_ne _ _ hxA, hs_up_ne _ _ hxL]; exact hxo
    have helS := al_ES (f2 := f) (o := al_o (mc + 1) A (nI sz)) ((hs_up_ne _ _ hAL).trans hA) hN (hs_up_eq _ _ _) hci0 hel1
    have hc1 := hN.2.2.1
    have hN2 := hN.2.1
    refine lv_aload hx hb dJx4a65c_add_7a177_38 (lv_at hl 0 rfl) ?_
    refine lv_iload_n hx hb dJx4a65c_add_7a177_40 rfl (lv_at hl 3 rfl) ?_
    refine lv_aload hx hb dJx4a65c_add_7a177_41 (lv_at hl 0 rfl) ?_
    refine lv_iload_n hx hb dJx4a65c_add_7a177_43 rfl (lv_at hl 3 rfl) ?_
    refine lv_iconst (v := 1) hx hb dJx4a65c_add_7a177_44 (by decide) ?_
    refine lv_iadd hx hb dJx4a65c_add_7a177_45 ?_
    rw [nI_1]
    refine lv_iload_n hx hb dJx4a65c_add_7a177_46 rfl (lv_at hl 1 rfl) ?_
    refine lv_iload_n hx hb dJx4a65c_add_7a177_47 rfl (lv_at hl 3 rfl) ?_
    refine lv_isub hx hb dJx4a65c_add_7a177_48 ?_
    rw [pk_sub hi9]
    refine hs_copyq hC hW hL lk_Jx4a65c_112 na_arraycopy st_arraycopy ii_J10 4 ((hs_up_ne _ _ hA1L.symm).trans (hs_up_eq _ _ _)) ((hs_up_ne _ _ hA1L.symm).trans (hs_up_eq _ _ _)) hN.2.2.2.1 rfl hca9 (al_nn (by omega)) (al_nn (by omega)) (al_nn (by omega)) (by rw [nI_clamp (by omega), nI_clamp (by omega)]; omega) (by rw [nI_clamp (by omega), nI_clamp (by omega)]; omega) (fun t ht y hy => by
      rw [nI_clamp (by omega)] at hy ht
      obtain ⟨fs, z⟩ := helS (i + t) y (by omega) hy
      exact ⟨ci, r9, fs, h9, rfl, z⟩) hl.1 (by decide) (Nat.le_of_ble_eq_true rfl) dJx4a65c_add_7a177_49 (fun H locs hW hL => ?_)
    rw [al_S1 (E := E) hA1L] at hW
    refine lv_aload hx hb dJx4a65c_add_7a177_52 (lv_at hl 0 rfl) ?_
    refine lv_iload_n hx hb dJx4a65c_add_7a177_54 rfl (lv_at hl 3 rfl) ?_
    refine lv_aload_n hx hb dJx4a65c_add_7a177_55 rfl (lv_at hl 4 rfl) ?_
    refine hs_aast hC hW hL 4 ((hs_up_ne _ _ hA1L.symm).trans (hs_up_eq _ _ _)) hN.2.2.2.1 rfl (hxS _) h9 hca9 (vp_in_nI (by omega) (by omega)) dJx4a65c_add_7a177_56 (fun H locs hW hL => ?_)
    rw [al_S1 (E := E) hA1L] at hW
    refine lv_aload_n hx hb dJx4a65c_add_7a177_57 rfl (lv_at hl 2 rfl) ?_
    refine lv_iload_n hx hb dJx4a65c_add_7a177_58 rfl (lv_at hl 1 rfl) ?_
    refine lv_iconst (v := 1) hx hb dJx4a65c_add_7a177_59 (by decide) ?_
    refine lv_iadd hx hb dJx4a65c_add_7a177_60 ?_
    rw [nI_1]
    refine hs_put hC hW hL hi_Jx4a65c tyJx4a65c tyJx4a65c_ok nmJx4a65c rfl 2 (by decide) lk_Jx4a65c_48 rfl rfl (hs_up_eq _ _ _) hLn rfl rfl (Nat.le_of_ble_eq_true rfl) dJx4a65c_add_7a177_61 (fun H locs hW hL => ?_)
    rw [hs_up_up] at hW
    exact hs_vret hC hW hL hr hlocks (by show _ ≤ 1; first | decide | omega) (by show _ ≤ 230; omega) dJx4a65c_add_7a177_64 ⟨rfl, al_P_up hA hG ⟨_, _, _, _, hN, rfl, fun j hj => by
      rw [nI_clamp (by omega), nI_clamp (by omega), nI_clamp (by omega)]
      exact al_ins hN.1 hi9 hj⟩⟩
  have hszc : sz = cp := by rw [dt_nI (by omega) (by omega)] at c29; exact c29
  refine lv_aload_n hx hb dJx4a65c_add_7a177_32 rfl (lv_at hl 2 rfl) ?_
  refine hs_callV hC hs_Tok hW hL (ct_grow E (hs_up G L (al_o (mc + 1) A (nI sz))) L A sz (mc + 1) (hs_up_eq _ _ _) cp f ((hs_up_ne _ _ hAL).trans hA) hszc (by omega) hcap hLn ci ⟨r9, h9, hca9, hci0⟩ (hszc ▸ hel1)) cw_Jx4a65c_grow_d5877 lk_Jx4a65c_129 im_Jx4a65c_grow_d5877 se_Jx4a65c_grow_d5877 (hs_recv hC hW (hs_up_eq _ _ _) rfl) hl.1 (by decide) (Nat.le_of_ble_eq_true rfl) dJx4a65c_add_7a177_33 (hs_kO (fun q G1 k n H locs hI hk hn hW hL => ?_))
  obtain ⟨rfl, rfl, hfq, hqq, f1, hf1, rfl⟩ := hI
  refine lv_astore (lv' := [(4, .ref _), (3, .int _), (0, .ref _), (1, .int _), (2, .ref _)]) hx hb dJx4a65c_add_7a177_36 hl (by decide) rfl (fun ls hl => ?_)
  have hN : al_N E (hs_up G L (al_o (mc + 1) A (nI sz))) A cp sz f q (al_cap cp) f1 (0 + 1) (0 + al_cap cp) := ⟨fun j hj => hf1 j (by omega), by have := (al_cap_b (c := cp) (by omega)).1; omega, by have := (al_cap_b (c := cp) (by omega)).2.1; omega, hqq, Or.inr ⟨hfq, hszc, rfl, rfl, Nat.zero_add _⟩⟩
  have hA1L : L ≠ q := al_NL ((hs_up_ne _ _ hAL).trans hA) hN (hs_up_eq _ _ _)
  have hxA : x ≠ q := al_NL ((hs_up_ne _ _ hAL).trans hA) hN ((hs_up_ne _ _ hxL).trans hxo)
  have hxS : ∀ f9, (hs_up (hs_up (hs_up G L (al_o (mc + 1) A (nI sz))) q (al_a E (al_cap cp) f9)) L (al_o (mc + 1) q (nI sz))) x = some (.inr (ci, fx)) := fun f9 => by rw [hs_up_ne _ _ hxL, hs_up_ne _ _ hxA, hs_up_ne _ _ hxL]; exact hxo
  have helS := al_ES (f2 := f1) (o := al_o (mc + 1) q (nI sz)) ((hs_up_ne _ _ hAL).trans hA) hN (hs_up_eq _ _ _) hci0 hel1
  have hc1 := hN.2.2.1
  have hN2 := hN.2.1
  refine lv_aload hx hb dJx4a65c_add_7a177_38 (lv_at hl 0 rfl) ?_
  refine lv_iload_n hx hb dJx4a65c_add_7a177_40 rfl (lv_at hl 3 rfl) ?_
  refine lv_aload hx hb dJx4a65c_add_7a177_41 (lv_at hl 0 rfl) ?_
  refine lv_iload_n hx hb dJx4a65c_add_7a177_43 rfl (lv_at hl 3 rfl) ?_
  refine lv_iconst (v := 1) hx hb dJx4a65c_add_7a177_44 (by decide) ?_
  refine lv_iadd hx hb dJx4a65c_add_7a177_45 ?_
  rw [nI_1]
  refine lv_iload_n hx hb dJx4a65c_add_7a177_46 rfl (lv_at hl 1 rfl) ?_
  refine lv_iload_n hx hb dJx4a65c_add_7a177_47 rfl (lv_at hl 3 rfl) ?_
  refine lv_isub hx hb dJx4a65c_add_7a177_48 ?_
  rw [pk_sub hi9]
  refine hs_copyq hC hW hL lk_Jx4a65c_112 na_arraycopy st_arraycopy ii_J10 4 ((hs_up_ne _ _ hA1L.symm).trans (hs_up_eq _ _ _)) ((hs_up_ne _ _ hA1L.symm).trans (hs_up_eq _ _ _)) hN.2.2.2.1 rfl hca9 (al_nn (by omega)) (al_nn (by omega)) (al_nn (by omega)) (by rw [nI_clamp (by omega), nI_clamp (by omega)]; omega) (by rw [nI_clamp (by omega), nI_clamp (by omega)]; omega) (fun t ht y hy => by
      rw [nI_clamp (by omega)] at hy ht
      obtain ⟨fs, z⟩ := helS (i + t) y (by omega) hy
      exact ⟨ci, r9, fs, h9, rfl, z⟩) hl.1 (by decide) (Nat.le_of_ble_eq_true rfl) dJx4a65c_add_7a177_49 (fun H locs hW hL => ?_)
  rw [al_S1 (E := E) hA1L] at hW
  refine lv_aload hx hb dJx4a65c_add_7a177_52 (lv_at hl 0 rfl) ?_
  refine lv_iload_n hx hb dJx4a65c_add_7a177_54 rfl (lv_at hl 3 rfl) ?_
  refine lv_aload_n hx hb dJx4a65c_add_7a177_55 rfl (lv_at hl 4 rfl) ?_
  refine hs_aast hC hW hL 4 ((hs_up_ne _ _ hA1L.symm).trans (hs_up_eq _ _ _)) hN.2.2.2.1 rfl (hxS _) h9 hca9 (vp_in_nI (by omega) (by omega)) dJx4a65c_add_7a177_56 (fun H locs hW hL => ?_)
  rw [al_S1 (E := E) hA1L] at hW
  refine lv_aload_n hx hb dJx4a65c_add_7a177_57 rfl (lv_at hl 2 rfl) ?_
  refine lv_iload_n hx hb dJx4a65c_add_7a177_58 rfl (lv_at hl 1 rfl) ?_
  refine lv_iconst (v := 1) hx hb dJx4a65c_add_7a177_59 (by decide) ?_
  refine lv_iadd hx hb dJx4a65c_add_7a177_60 ?_
  rw [nI_1]
  refine hs_put hC hW hL hi_Jx4a65c tyJx4a65c tyJx4a65c_ok nmJx4a65c rfl 2 (by decide) lk_Jx4a65c_48 rfl rfl (hs_up_eq _ _ _) hLn rfl rfl (Nat.le_of_ble_eq_true rfl) dJx4a65c_add_7a177_61 (fun H locs hW hL => ?_)
  rw [hs_up_up] at hW
  exact hs_vret hC hW hL hr hlocks (by show _ ≤ 1; first | decide | omega) (by show _ ≤ 230; omega) dJx4a65c_add_7a177_64 ⟨rfl, al_P_up hA hG ⟨_, _, _, _, hN, rfl, fun j hj => by
      rw [nI_clamp (by omega), nI_clamp (by omega), nI_clamp (by omega)]
      exact al_ins hN.1 hi9 hj⟩⟩
theorem al_del {f : Nat → Option Nat} {sz i j : Nat} (hj : j < sz - 1) : va_cpy f f (i + 1) i (sz - 1 - i) j = f (if j < i then j else j + 1) := by
  unfold va_cpy
  by_cases h1 : j < i
  · rw [if_neg (by omega), if_pos h1]
  · rw [if_pos (by omega), if_neg h1, show i + 1 + (j - i) = j + 1 by omega]
set_option maxHeartbeats 4000000 in
set_option maxRecDepth 100000 in
/-- fastRemove -/
theorem ct_fastRemove (E : hs_E) (G : hs_G) (L A sz : Nat) (mc : Int32) (hG : G L = some (al_o mc A (nI sz))) (cp : Nat) (f : Nat → Option Nat) (hA : G A = some (al_a E cp f)) (hsc : sz ≤ cp) (hc : cp ≤ 230) (hAn : (eH E).size ≤ A) (hLn : (eH E).size ≤ L) (ci : Nat) (hci : al_el ci) (hel : al_E G ci sz f) (i : Nat) (hi9 : i < sz) : hM E yJx4a65c_fastRemove_b59b0 ({ frames := 1, cells := 0, slots := 0, locals := 40 }) [.ref L, .ref A, .int (nI i)] G (hs_V (fun G1 k n => k = 0 ∧ n = 0 ∧ ∃ f2 : Nat → Option Nat, (∀ j, j < sz - 1 → f2 j = f (if j < i then j else j + 1)) ∧ G1 = hs_up (hs_up G A (al_a E cp f2)) L (al_o (mc + 1) A (nI (sz - 1))))) := by
  refine hs_ofW (cc := cJx4a65c_fastRemove_b59b0) (maxL := 4) (ret := none) (by decide) co_Jx4a65c_fastRemove_b59b0 ?_
  intro p e s m args below meth c hC hlocks hr hin0 hnoh hW
  obtain ⟨hx, hb, hml, hown, hts, -⟩ := id hC
  have hE := hW
  have hL : ∀ q ∈ ([] : List Loc), (eH E).size ≤ q.base := fun q hq => nomatch hq
  have hl := lv_entry ([.ref L, .ref A, .int (nI i)] : List Value) (n := 4) (Nat.le_of_ble_eq_true rfl)
  rw [lg_entry_eq]
  generalize (lg_sl [.ref L, .ref A, .int (nI i)] ++ List.replicate (4 - (lg_sl [.ref L, .ref A, .int (nI i)]).length) Slot.unset).toArray = ls at hl ⊢
  have hl : lv_has ls 4 [(0, .ref L), (1, .ref A), (2, .int (nI i))] := hl
  obtain ⟨r9, h9, hca9, hci0⟩ := hci
  have hAL := al_ne hG hA
  refine lv_aload_n hx hb dJx4a65c_fastRemove_b59b0_0 rfl (lv_at hl 0 rfl) ?_
  refine lv_dup hx hb dJx4a65c_fastRemove_b59b0_1 rfl ?_
  refine hs_getS hC hW hi_Jx4a65c rfl 0 (by decide) lk_Jx4a65c_63 sf_mod hG rfl dJx4a65c_fastRemove_b59b0_2 ?_
  refine lv_iconst (v := 1) hx hb dJx4a65c_fastRemove_b59b0_5 (by decide) ?_
  refine lv_iadd hx hb dJx4a65c_fastRemove_b59b0_6 ?_
  refine hs_putS hC hW hL hi_Jx4a65c tyJx4a65c tyJx4a65c_ok nmJx4a65c rfl 0 (by decide) lk_Jx4a65c_63 sf_mod rfl hG hLn rfl rfl (Nat.le_of_ble_eq_true rfl) dJx4a65c_fastRemove_b59b0_7 (fun H locs hW hL => ?_)
  replace hW : hs_W (eD E) vwCl (eH E) (hs_up G L (al_o (mc + 1) A (nI sz))) H := hW
  have hel1 : al_E (hs_up G L (al_o (mc + 1) A (nI sz))) ci sz f := hel.upL hci0 hG
  refine lv_aload_n hx hb dJx4a65c_fastRemove_b59b0_10 rfl (lv_at hl 0 rfl) ?_
  refine hs_get hC hW hi_Jx4a65c rfl 2 (by decide) lk_Jx4a65c_48 rfl (hs_up_eq _ _ _) rfl dJx4a65c_fastRemove_b59b0_11 ?_
  refine lv_iconst (v := 1) hx hb dJx4a65c_fastRemove_b59b0_14 (by decide) ?_
  refine lv_isub hx hb dJx4a65c_fastRemove_b59b0_15 ?_
  rw [al_m1 (by omega)]
  refine lv_dup hx hb dJx4a65c_fastRemove_b59b0_16 rfl ?_
  refine lv_istore_n (lv' := [(3, .int _), (0, .ref _), (1, .ref _), (2, .int _)]) hx hb dJx4a65c_fastRemove_b59b0_17 rfl hl (by decide) rfl (fun ls hl => ?_)
  refine lv_iload_n hx hb dJx4a65c_fastRemove_b59b0_18 rfl (lv_at hl 3 rfl) ?_
  refine lv_icmp_le (tgt := 34) hx hb dJx4a65c_fastRemove_b59b0_19 (by decide) (fun c19 => ?_) (fun c19 => ?_)
  · rw [← hs_up_id (G := (hs_up G L (al_o (mc + 1) A (nI sz)))) (a := A) ((hs_up_ne _ _ hAL).trans hA)] at hW
    have hf1 : ∀ j, j < sz - 1 → f j = f (if j < i then j else j + 1) := fun j hj => by rw [if_pos (by rw [nI_leI (by omega) (by omega)] at c19; omega)]
    replace hW : hs_W (eD E) vwCl (eH E) (hs_up (hs_up G L (al_o (mc + 1) A (nI sz))) A (al_a E cp f)) H := hW
    refine lv_aload_n hx hb dJx4a65c_fastRemove_b59b0_34 rfl (lv_at hl 2 rfl) ?_
    refine lv_aload_n hx hb dJx4a65c_fastRemove_b59b0_35 rfl (lv_at hl 1 rfl) ?_
    refine lv_iload_n hx hb dJx4a65c_fastRemove_b59b0_36 rfl (lv_at hl 0 rfl) ?_
    refine lv_dup_x1 hx hb dJx4a65c_fastRemove_b59b0_37 rfl rfl ?_
    refine hs_put hC hW hL hi_Jx4a65c tyJx4a65c tyJx4a65c_ok nmJx4a65c rfl 2 (by decide) lk_Jx4a65c_48 rfl rfl ((hs_up_ne _ _ hAL.symm).trans (hs_up_eq _ _ _)) hLn rfl rfl (Nat.le_of_ble_eq_true rfl) dJx4a65c_fastRemove_b59b0_38 (fun H locs hW hL => ?_)
    refine lv_null hx hb dJx4a65c_fastRemove_b59b0_41 ?_
    refine hs_aastN hC hW hL 4 ((hs_up_ne _ _ hAL).trans (hs_up_eq _ _ _)) hAn rfl (vp_in_nI (by omega) (by omega)) dJx4a65c_fastRemove_b59b0_42 (fun H locs hW hL => ?_)
    rw [al_S1 (E := E) hAL.symm] at hW
    exact hs_vret hC hW hL hr hlocks (by decide) (by decide) dJx4a65c_fastRemove_b59b0_43 ⟨rfl, rfl, rfl, va_up f (nI (sz - 1)).toNatClampNeg none, (fun j hj => by rw [va_up_ne _ _ (by rw [nI_clamp (by omega)]; omega)]; exact hf1 j hj), al_S2 (E := E) hAL⟩
  have hlt9 : i < sz - 1 := by rw [nI_leI (by omega) (by omega)] at c19; omega
  refine lv_aload_n hx hb dJx4a65c_fastRemove_b59b0_22 rfl (lv_at hl 2 rfl) ?_
  refine lv_iload_n hx hb dJx4a65c_fastRemove_b59b0_23 rfl (lv_at hl 3 rfl) ?_
  refine lv_iconst (v := 1) hx hb dJx4a65c_fastRemove_b59b0_24 (by decide) ?_
  refine lv_iadd hx hb dJx4a65c_fastRemove_b59b0_25 ?_
  rw [nI_1]
  refine lv_aload_n hx hb dJx4a65c_fastRemove_b59b0_26 rfl (lv_at hl 2 rfl) ?_
  refine lv_iload_n hx hb dJx4a65c_fastRemove_b59b0_27 rfl (lv_at hl 3 rfl) ?_
  refine lv_iload_n hx hb dJx4a65c_fastRemove_b59b0_28 rfl (lv_at hl 0 rfl) ?_
  refine lv_iload_n hx hb dJx4a65c_fastRemove_b59b0_29 rfl (lv_at hl 3 rfl) ?_
  refine lv_isub hx hb dJx4a65c_fastRemove_b59b0_30 ?_
  rw [pk_sub (by omega)]
  refine hs_copyq hC hW hL lk_Jx4a65c_112 na_arraycopy st_arraycopy ii_J10 4 ((hs_up_ne _ _ hAL).trans hA) ((hs_up_ne _ _ hAL).trans hA) hAn rfl hca9 (al_nn (by omega)) (al_nn (by omega)) (al_nn (by omega)) (by rw [nI_clamp (by omega), nI_clamp (by omega)]; omega) (by rw [nI_clamp (by omega), nI_clamp (by omega)]; omega) (fun t ht y hy => by
      rw [nI_clamp (by omega)] at hy ht
      obtain ⟨fs, z⟩ := hel1 (i + 1 + t) y (by omega) hy
      exact ⟨ci, r9, fs, h9, rfl, z⟩) hl.1 (by decide) (Nat.le_of_ble_eq_true rfl) dJx4a65c_fastRemove_b59b0_31 (fun H locs hW hL => ?_)
  have hf1 : ∀ j, j < sz - 1 → (va_cpy f f (nI (i + 1)).toNatClampNeg (nI i).toNatClampNeg (nI (sz - 1 - i)).toNatClampNeg) j = f (if j < i then j else j + 1) := fun j hj => by rw [nI_clamp (by omega), nI_clamp (by omega), nI_clamp (by omega)]; exact al_del hj
  replace hW : hs_W (eD E) vwCl (eH E) (hs_up (hs_up G L (al_o (mc + 1) A (nI sz))) A (al_a E cp (va_cpy f f (nI (i + 1)).toNatClampNeg (nI i).toNatClampNeg (nI (sz - 1 - i)).toNatClampNeg))) H := hW
  refine lv_aload_n hx hb dJx4a65c_fastRemove_b59b0_34 rfl (lv_at hl 2 rfl) ?_
  refine lv_aload_n hx hb dJx4a65c_fastRemove_b59b0_35 rfl (lv_at hl 1 rfl) ?_
  refine lv_iload_n hx hb dJx4a65c_fastRemove_b59b0_36 rfl (lv_at hl 0 rfl) ?_
  refine lv_dup_x1 hx hb dJx4a65c_fastRemove_b59b0_37 rfl rfl ?_
  refine hs_put hC hW hL hi_Jx4a65c tyJx4a65c tyJx4a65c_ok nmJx4a65c rfl 2 (by decide) lk_Jx4a65c_48 rfl rfl ((hs_up_ne _ _ hAL.symm).trans (hs_up_eq _ _ _)) hLn rfl rfl (Nat.le_of_ble_eq_true rfl) dJx4a65c_fastRemove_b59b0_38 (fun H locs hW hL => ?_)
  refine lv_null hx hb dJx4a65c_fastRemove_b59b0_41 ?_
  refine hs_aastN hC hW hL 4 ((hs_up_ne _ _ hAL).trans (hs_up_eq _ _ _)) hAn rfl (vp_in_nI (by omega) (by omega)) dJx4a65c_fastRemove_b59b0_42 (fun H locs hW hL => ?_)
  rw [al_S1 (E := E) hAL.symm] at hW
  exact hs_vret hC hW hL hr hlocks (by decide) (by decide) dJx4a65c_fastRemove_b59b0_43 ⟨rfl, rfl, rfl, va_up (va_cpy f f (nI (i + 1)).toNatClampNeg (nI i).toNatClampNeg (nI (sz - 1 - i)).toNatClampNeg) (nI (sz - 1)).toNatClampNeg none, (fun j hj => by rw [va_up_ne _ _ (by rw [nI_clamp (by omega)]; omega)]; exact hf1 j hj), al_S2 (E := E) hAL⟩
set_option maxHeartbeats 4000000 in
set_option maxRecDepth 100000 in
/-- remove -/
theorem ct_remove (E : hs_E) (G : hs_G) (L A sz : Nat) (mc : Int32) (hG : G L = some (al_o mc A (nI sz))) (cp : Nat) (f : Nat → Option Nat) (hA : G A = some (al_a E cp f)) (hsc : sz ≤ cp) (hc : cp ≤ 230) (hAn : (eH E).size ≤ A) (hLn : (eH E).size ≤ L) (ci : Nat) (hci : al_el ci) (hel : al_E G ci sz f) (i : Nat) (hi9 : i < sz) (x : Nat) (hfx : f i = some x) : hM E yJx4a65c_remove_915e3 ({ frames := 2, cells := 0, slots := 0, locals := 70 }) [.ref L, .int (nI i)] G (hs_O (fun y G1 k n => y = x ∧ k = 0 ∧ n = 0 ∧ ∃ f2 : Nat → Option Nat, (∀ j, j < sz - 1 → f2 j = f (if j < i then j else j + 1)) ∧ G1 = hs_up (hs_up G A (al_a E cp f2)) L (al_o (mc + 1) A (nI (sz - 1))))) := by
  refine hs_ofW (cc := cJx4a65c_remove_915e3) (maxL := 4) (ret := (some (.object "java/lang/Object"))) (by decide) co_Jx4a65c_remove_915e3 ?_
  intro p e s m args below meth c hC hlocks hr hin0 hnoh hW
  obtain ⟨hx, hb, hml, hown, hts, -⟩ := id hC
  have hE := hW
  have hL : ∀ q ∈ ([] : List Loc), (eH E).size ≤ q.base := fun q hq => nomatch hq
  have hl := lv_entry ([.ref L, .int (nI i)] : List Value) (n := 4) (Nat.le_of_ble_eq_true rfl)
  rw [lg_entry_eq]
  generalize (lg_sl [.ref L, .int (nI i)] ++ List.replicate (4 - (lg_sl [.ref L, .int (nI i)]).length) Slot.unset).toArray = ls at hl ⊢
  have hl : lv_has ls 4 [(0, .ref L), (1, .int (nI i))] := hl
  refine lv_iload_n hx hb dJx4a65c_remove_915e3_0 rfl (lv_at hl 1 rfl) ?_
  refine lv_aload_n hx hb dJx4a65c_remove_915e3_1 rfl (lv_at hl 0 rfl) ?_
  refine hs_get hC hW hi_Jx4a65c rfl 2 (by decide) lk_Jx4a65c_48 rfl hG rfl dJx4a65c_remove_915e3_2 ?_
  refine hs_callS hC hs_Tok hW hL (ct_ci E G i sz hi9 (by omega)) cw_J15_checkIndex_7cf53 lk_Jx4a65c_118 st_J15_checkIndex_7cf53 hl.1 (by decide) (Nat.le_of_ble_eq_true rfl) dJx4a65c_remove_915e3_5 (hs_kp1 (fun H locs hW hL => ?_))
  refine lv_pop hx hb dJx4a65c_remove_915e3_8 rfl ?_
  refine lv_aload_n hx hb dJx4a65c_remove_915e3_9 rfl (lv_at hl 0 rfl) ?_
  refine hs_get hC hW hi_Jx4a65c rfl 1 (by decide) lk_Jx4a65c_9 rfl hG rfl dJx4a65c_remove_915e3_10 ?_
  refine lv_astore_n (lv' := [(2, .ref _), (0, .ref _), (1, .int _)]) hx hb dJx4a65c_remove_915e3_13 rfl hl (by decide) rfl (fun ls hl => ?_)
  refine lv_aload_n hx hb dJx4a65c_remove_915e3_14 rfl (lv_at hl 0 rfl) ?_
  refine lv_iload_n hx hb dJx4a65c_remove_915e3_15 rfl (lv_at hl 2 rfl) ?_
  refine hs_aald hC hW 4 (by decide) hA rfl (vp_in_nI (by omega) (by omega)) dJx4a65c_remove_915e3_16 ?_
  rw [show f (nI i).toNatClampNeg = some x by rw [nI_clamp (by omega)]; exact hfx, show va_rf (some x) = .ref x from rfl]
  refine lv_astore_n (lv' := [(3, .ref _), (2, .ref _), (0, .ref _), (1, .int _)]) hx hb dJx4a65c_remove_915e3_17 rfl hl (by decide) rfl (fun ls hl => ?_)
  refine lv_aload_n hx hb dJx4a65c_remove_915e3_18 rfl (lv_at hl 2 rfl) ?_
  refine lv_aload_n hx hb dJx4a65c_remove_915e3_19 rfl (lv_at hl 1 rfl) ?_
  refine lv_iload_n hx hb dJx4a65c_remove_915e3_20 rfl (lv_at hl 3 rfl) ?_
  refine hs_callV hC hs_Tok hW hL (ct_fastRemove E G L A sz mc hG cp f hA hsc hc hAn hLn ci hci hel i hi9) cw_Jx4a65c_fastRemove_b59b0 lk_Jx4a65c_144 im_Jx4a65c_fastRemove_b59b0 se_Jx4a65c_fastRemove_b59b0 (hs_recv hC hW hG rfl) hl.1 (by decide) (Nat.le_of_ble_eq_true rfl) dJx4a65c_remove_915e3_21 (hs_kV (fun G1 k n H locs hI hk hn hW hL => ?_))
  obtain ⟨rfl, rfl, hI2⟩ := hI
  refine lv_aload_n hx hb dJx4a65c_remove_915e3_24 rfl (lv_at hl 0 rfl) ?_
  exact hs_aret hC hW hL hr (Or.inl ⟨_, rfl⟩) (Or.inr ⟨_, rfl⟩) hlocks (by decide) (by decide) dJx4a65c_remove_915e3_25 ⟨x, rfl, rfl, rfl, rfl, hI2⟩
set_option maxHeartbeats 4000000 in
set_option maxRecDepth 100000 in
/-- AbstractCollection -/
theorem ct_acInit (E : hs_E) (G : hs_G) (L : Nat) : hM E yJxa1e45_init_da8c8 ({ frames := 1, cells := 0, slots := 0, locals := 30 }) [.ref L] G (hs_pu none G) := by
  refine hs_ofW (cc := cJxa1e45_init_da8c8) (maxL := 1) (ret := none) (by decide) co_Jxa1e45_init_da8c8 ?_
  intro p e s m args below meth c hC hlocks hr hin0 hnoh hW
  obtain ⟨hx, hb, hml, hown, hts, -⟩ := id hC
  have hE := hW
  have hL : ∀ q ∈ ([] : List Loc), (eH E).size ≤ q.base := fun q hq => nomatch hq
  have hl := lv_entry ([.ref L] : List Value) (n := 1) (Nat.le_of_ble_eq_true rfl)
  rw [lg_entry_eq]
  generalize (lg_sl [.ref L] ++ List.replicate (1 - (lg_sl [.ref L]).length) Slot.unset).toArray = ls at hl ⊢
  have hl : lv_has ls 1 [(0, .ref L)] := hl
  refine lv_aload_n hx hb dJxa1e45_init_da8c8_0 rfl (lv_at hl 0 rfl) ?_
  refine W.objInit hx hb hown (hts _ lk_Jxa1e45_1) (hts _ im_objectInit) (hts _ co_objectInit) rfl (by rw [hml]; exact hl.1) rfl dJxa1e45_init_da8c8_1 (by decide) (Nat.le_of_ble_eq_true rfl) ?_
  refine W.eq (g2 := F0 m 4 ls _) rfl ?_
  exact hs_vret hC hW hL hr hlocks (by decide) (by decide) dJxa1e45_init_da8c8_4 ⟨rfl, rfl, rfl, rfl⟩
set_option maxHeartbeats 4000000 in
set_option maxRecDepth 100000 in
/-- AbstractList -/
theorem ct_atInit (E : hs_E) (G : hs_G) (L : Nat) (fs : List Value) (mc : Int32) (v w9 : Value) (hG : G L = some (.inr (0, [.int mc, v, w9]))) (hLn : (eH E).size ≤ L) : hM E yJxc12de_init_da8c8 ({ frames := 2, cells := 0, slots := 0, locals := 60 }) [.ref L] G (hs_V (fun G1 k n => k = 0 ∧ n = 0 ∧ G1 = hs_up G L (.inr (0, [.int 0, v, w9])))) := by
  refine hs_ofW (cc := cJxc12de_init_da8c8) (maxL := 1) (ret := none) (by decide) co_Jxc12de_init_da8c8 ?_
  intro p e s m args below meth c hC hlocks hr hin0 hnoh hW
  obtain ⟨hx, hb, hml, hown, hts, -⟩ := id hC
  have hE := hW
  have hL : ∀ q ∈ ([] : List Loc), (eH E).size ≤ q.base := fun q hq => nomatch hq
  have hl := lv_entry ([.ref L] : List Value) (n := 1) (Nat.le_of_ble_eq_true rfl)
  rw [lg_entry_eq]
  generalize (lg_sl [.ref L] ++ List.replicate (1 - (lg_sl [.ref L]).length) Slot.unset).toArray = ls at hl ⊢
  have hl : lv_has ls 1 [(0, .ref L)] := hl
  refine lv_aload_n hx hb dJxc12de_init_da8c8_0 rfl (lv_at hl 0 rfl) ?_
  refine hs_callI hC hs_Tok hW hL (ct_acInit E G L) cw_Jxa1e45_init_da8c8 lk_Jxc12de_1 im_Jxa1e45_init_da8c8 rfl hl.1 (by decide) (Nat.le_of_ble_eq_true rfl) dJxc12de_init_da8c8_1 (hs_kp0 (fun H locs hW hL => ?_))
  refine lv_aload_n hx hb dJxc12de_init_da8c8_4 rfl (lv_at hl 0 rfl) ?_
  refine lv_iconst (v := 0) hx hb dJxc12de_init_da8c8_5 (by decide) ?_
  refine hs_put hC hW hL hi_Jx4a65c tyJx4a65c tyJx4a65c_ok nmJx4a65c rfl 0 (by decide) lk_Jxc12de_7 rfl rfl hG hLn rfl rfl (Nat.le_of_ble_eq_true rfl) dJxc12de_init_da8c8_6 (fun H locs hW hL => ?_)
  exact hs_vret hC hW hL hr hlocks (by decide) (by decide) dJxc12de_init_da8c8_9 ⟨rfl, rfl, rfl, rfl⟩
set_option maxHeartbeats 4000000 in
set_option maxRecDepth 100000 in
/-- ArrayList -/
theorem ct_alInit (E : hs_E) (G : hs_G) (L : Nat) (hG : G L = some (.inr (0, [.int 0, .null, .int 0]))) (hLn : (eH E).size ≤ L) : hM E yJx4a65c_init_da8c8 ({ frames := 3, cells := 0, slots := 0, locals := 90 }) [.ref L] G (hs_V (fun G1 k n => k = 0 ∧ n = 0 ∧ G1 = hs_up G L (al_o 0 E.2.2.2.2.2.2 (nI 0)))) := by
  refine hs_ofW (cc := cJx4a65c_init_da8c8) (maxL := 1) (ret := none) (by decide) co_Jx4a65c_init_da8c8 ?_
  intro p e s m args below meth c hC hlocks hr hin0 hnoh hW
  obtain ⟨hx, hb, hml, hown, hts, -⟩ := id hC
  have hE := hW
  have hL : ∀ q ∈ ([] : List Loc), (eH E).size ≤ q.base := fun q hq => nomatch hq
  have hl := lv_entry ([.ref L] : List Value) (n := 1) (Nat.le_of_ble_eq_true rfl)
  rw [lg_entry_eq]
  generalize (lg_sl [.ref L] ++ List.replicate (1 - (lg_sl [.ref L]).length) Slot.unset).toArray = ls at hl ⊢
  have hl : lv_has ls 1 [(0, .ref L)] := hl
  refine lv_aload_n hx hb dJx4a65c_init_da8c8_0 rfl (lv_at hl 0 rfl) ?_
  refine hs_callI hC hs_Tok hW hL (ct_atInit E G L [] 0 .null (.int 0) hG hLn) cw_Jxc12de_init_da8c8 lk_Jx4a65c_1 im_Jxc12de_init_da8c8 rfl hl.1 (by decide) (Nat.le_of_ble_eq_true rfl) dJx4a65c_init_da8c8_1 (hs_kV (fun G1 k n H locs hI hk hn hW hL => ?_))
  obtain ⟨rfl, rfl, rfl⟩ := hI
  refine lv_aload_n hx hb dJx4a65c_init_da8c8_4 rfl (lv_at hl 0 rfl) ?_
  refine hs_gets hC hW (List.mem_cons_of_mem _ List.mem_cons_self) lk_Jx4a65c_39 dJx4a65c_init_da8c8_5 ?_
  refine hs_put hC hW hL hi_Jx4a65c tyJx4a65c tyJx4a65c_ok nmJx4a65c rfl 1 (by decide) lk_Jx4a65c_9 rfl rfl (hs_up_eq _ _ _) hLn rfl rfl (Nat.le_of_ble_eq_true rfl) dJx4a65c_init_da8c8_8 (fun H locs hW hL => ?_)
  rw [hs_up_up] at hW
  exact hs_vret hC hW hL hr hlocks (by decide) (by decide) dJx4a65c_init_da8c8_11 ⟨rfl, rfl, rfl, rfl⟩
