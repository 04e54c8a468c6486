/-! the class: takeIn, absorb told -/
set_option maxHeartbeats 4000000 in
set_option maxRecDepth 100000 in
/-- Group.takeIn -/
theorem ct_X1_takeIn (E : hs_E) (t : cl_t) (cap X : Nat → Nat) (d : Nat) (G : hs_G) (hT : cl_T E t cap X d G) (g : Nat) (hg : t g = some (53, 0)) (a : Nat) (ha : t a = some (50, 0)) (L A sz : Nat) (mc : Int32) (f : Nat → Option Nat) (hGr : G g = some (.inr (2, [.ref L]))) (hLt : t L = some (54, g)) (hLo : G L = some (al_o mc A (nI sz))) (hLa : G A = some (al_a E (cap L) f)) (hsz : sz < 6) (h99 : X 99 ≠ 0) (hn0 : ∀ (nu te : Int32) (t1 s1 s2 : Nat) (st du ql am fa pr ip : Int32) (g9 : Value), G a = some (cl_tr nu te t1 s1 s2 st du ql am fa pr ip g9) → st ≠ 0) : hM E yX1_takeIn ({ frames := 6, cells := 1, slots := 230, locals := 230 }) [.ref g, .ref a] G (hs_V (cl_TI E t cap X d G L sz a g f)) := by
  refine hs_ofW (cc := cX1_takeIn) (maxL := 3) (ret := none) (by decide) co_X1_takeIn ?_
  intro p e s m args below meth c hC hlocks hr hin0 hnoh hW
  obtain ⟨hx, hb, hml, hown, hts, -⟩ := id hC
  have hE := hW
  have hL : ∀ q ∈ ([] : List Loc), (eH E).size ≤ q.base := fun q hq => nomatch hq
  have hl := lv_entry ([.ref g, .ref a] : List Value) (n := 3) (Nat.le_of_ble_eq_true rfl)
  rw [lg_entry_eq]
  generalize (lg_sl [.ref g, .ref a] ++ List.replicate (3 - (lg_sl [.ref g, .ref a]).length) Slot.unset).toArray = ls at hl ⊢
  have hl : lv_has ls 3 [(0, .ref g), (1, .ref a)] := hl
  obtain ⟨f9, hLa9, hsc, hmx, hcp, hel, hAA⟩ := (hT.l54 hLt).at hLo (by omega)
  have e9 : f9 = f := by (rw [hLa] at hLa9; cases hLa9; rfl)
  rw [e9] at hel
  obtain ⟨nu8, te8, t8, s6, s7, st8, du8, ql8, am8, fa8, pr8, ip8, g8, hXa, -⟩ := hT.tr ha
  refine lv_aload_n hx hb dX1_takeIn_0 rfl (lv_at hl 0 rfl) ?_
  refine hs_get hC hW hi_X1 rfl 0 (by decide) lk_X1_10 rfl hGr rfl dX1_takeIn_1 ?_
  refine hs_callV hC hs_Tok hW hL (ct_size E G L A sz mc hLo) cw_Jx4a65c_size_8abf5 lk_X1_16 im_Jx4a65c_size_8abf5 se_Jx4a65c_size_8abf5 (hs_recv hC hW hLo rfl) hl.1 (by decide) (Nat.le_of_ble_eq_true rfl) dX1_takeIn_4 (hs_kp1 (fun H locs hW hL => ?_))
  refine lv_istore_n (lv' := [(2, .int _), (0, .ref _), (1, .ref _)]) hx hb dX1_takeIn_7 rfl hl (by decide) rfl (fun ls hl => ?_)
  refine hs_loop (σ := Nat) (fun x => match x with | j => j) (fun x H locs ls => match x with | j => (j ≤ sz) ∧ hs_W (eD E) vwCl (eH E) (G) H ∧ (∀ q ∈ locs, (eH E).size ≤ q.base) ∧ lv_has ls 3 [(0, .ref g), (1, .ref a), (2, .int (nI j))]) ?_ sz _ _ _ ⟨Nat.le_refl _, hW, hL, (lv_sub hl [1, 2, 0] rfl)⟩
  rintro j H locs ls ⟨hinv, hW, hL, hl⟩ ih
  replace hW : hs_W (eD E) vwCl (eH E) (G) H := hW
  replace hl : lv_has ls 3 [(0, .ref g), (1, .ref a), (2, .int (nI j))] := hl
  refine lv_iload_n hx hb dX1_takeIn_8 rfl (lv_at hl 2 rfl) ?_
  refine lv_if_le (tgt := 41) hx hb dX1_takeIn_9 (by decide) (fun c9 => ?_) (fun c9 => ?_)
  · refine lv_aload_n hx hb dX1_takeIn_41 rfl (lv_at hl 0 rfl) ?_
    refine hs_get hC hW hi_X1 rfl 0 (by decide) lk_X1_10 rfl hGr rfl dX1_takeIn_42 ?_
    refine lv_iload_n hx hb dX1_takeIn_45 rfl (lv_at hl 2 rfl) ?_
    refine lv_aload_n hx hb dX1_takeIn_46 rfl (lv_at hl 1 rfl) ?_
    refine hs_callV hC hs_Tok hW hL (ct_addAt E G L A sz mc hLo (cap L) f hLa hsc (by omega) (by omega) (fun z => hAA.elim (fun w => w.1) (fun w => absurd z (by omega))) (fun z => hT.sz (hAA.resolve_left (fun w => by omega)).1) (hT.sz hLt) 6 cl_el6 (cl_elT hT hel) a _ hXa _ (by omega)) cw_Jx4a65c_add_7a177 lk_X1_30 im_Jx4a65c_add_7a177 se_Jx4a65c_add_7a177 (hs_recv hC hW hLo rfl) hl.1 (by decide) (Nat.le_of_ble_eq_true rfl) dX1_takeIn_47 (hs_kV (fun G1 k n H locs hI hk hn hW hL => ?_))
    obtain ⟨A1, c1, hT1, hF1, hL1, hc1, hk1, hn1, hk2, hn2, hfr, hA1t, f2, hLa2, hf2⟩ := hT.add2 hLt (Or.inr (Or.inr ⟨rfl, rfl, rfl⟩)) hLa hLo hAA hcp hsz (by omega) hel ha (fun _ => h99) hI
    have hb1 := hF1.1 _ _ ha
    obtain ⟨nu7, te7, t7, u6, u7, st7, du7, ql7, am7, fa7, pr7, ip7, g7, hX7, k1, k2, k3, k4⟩ := hT1.tr hb1
    have haL : L ≠ a := fun z => by rw [z, ha] at hLt; cases hLt
    have hst7 := hn0 _ _ _ _ _ _ _ _ _ _ _ _ _ ((hfr a _ ha haL.symm (by simp)).symm.trans hX7)
    have haA : A1 ≠ a := fun z => by rw [z] at hLa2; rw [hX7] at hLa2; cases hLa2
    refine lv_aload_n hx hb dX1_takeIn_50 rfl (lv_at hl 1 rfl) ?_
    refine lv_aload_n hx hb dX1_takeIn_51 rfl (lv_at hl 0 rfl) ?_
    refine hs_putN hC hW hL hi_X5 tyX5 tyX5_ok nmX5 rfl 12 (by decide) lk_X1_34 rfl rfl hX7 (hT1.sz hb1) rfl rfl (Nat.le_of_ble_eq_true rfl) dX1_takeIn_52 (fun H locs hW hL => ?_)
    have hT2 := hT1.pT (nu := nu7) (te := te7) (st := st7) (du := du7) (ql := ql7) (am := am7) (fa := fa7) (pr := pr7) (ip := ip7) hb1 k1 k2 k3 (Or.inr ⟨g, rfl, hF1.1 _ _ hg⟩) (hT1.b hb1 _ _ _ _ _ _ _ _ _ _ _ _ _ hX7) (fun z => absurd z h99) (fun z => absurd z hst7)
    exact hs_vret hC hW hL hr hlocks (by show 0 + k ≤ 1; omega) (by show 0 + n ≤ 230; omega) dX1_takeIn_55 ⟨rfl, by omega, by omega, _, _, _, A1, f2, _, hT2.1, hF1.tr hT2.2, (by rw [hs_up_ne _ _ haL]; exact hL1), (by rw [hs_up_ne _ _ haA, va_up_self]; exact hLa2), va_up_self _ _ _, by omega, hf2, (fun q z => va_up_ne _ _ z), ⟨_, _, _, _, _, _, _, _, _, _, _, _, hs_up_eq _ _ _⟩, (fun q kq z1 z2 => by
      by_cases w : q = A1
      · rw [w, va_up_self] at z1
        cases z1
        exact absurd rfl z2
      · rw [va_up_ne _ _ w] at z1
        exact z1), fun q kq z1 z2 z3 z4 => by
      rw [hs_up_ne _ _ z4]
      exact hfr q kq z1 z2 z3⟩
  obtain ⟨j, rfl⟩ := mo_pos c9
  have hlt : j < sz := by omega
  obtain ⟨x9, hfx, htx⟩ := hel j hlt
  obtain ⟨nu9, te9, t9, s8, s9, st9, du9, ql9, am9, fa9, pr9, ip9, g9, hX, ht1, ht2, ht3, hg9⟩ := hT.tr htx
  refine lv_aload_n hx hb dX1_takeIn_12 rfl (lv_at hl 0 rfl) ?_
  refine hs_get hC hW hi_X1 rfl 0 (by decide) lk_X1_10 rfl hGr rfl dX1_takeIn_13 ?_
  refine lv_iload_n hx hb dX1_takeIn_16 rfl (lv_at hl 2 rfl) ?_
  refine lv_iconst (v := 1) hx hb dX1_takeIn_17 (by decide) ?_
  refine lv_isub hx hb dX1_takeIn_18 ?_
  rw [nI_m1]
  refine hs_callV hC hs_Tok hW hL (ct_get E G L A sz mc hLo (cap L) f hLa (by omega) j x9 hlt hsc hfx) cw_Jx4a65c_get_915e3 lk_X1_20 im_Jx4a65c_get_915e3 se_Jx4a65c_get_915e3 (hs_recv hC hW hLo rfl) hl.1 (by decide) (Nat.le_of_ble_eq_true rfl) dX1_takeIn_19 (hs_kp1 (fun H locs hW hL => ?_))
  refine hs_cast hC hW lk_X1_24 ca_X5_X5 hX rfl dX1_takeIn_22 ?_
  refine hs_getN hC hW hi_X5 rfl 0 (by decide) lk_X1_26 rfl hX rfl dX1_takeIn_25 ?_
  refine lv_aload_n hx hb dX1_takeIn_28 rfl (lv_at hl 1 rfl) ?_
  refine hs_getN hC hW hi_X5 rfl 0 (by decide) lk_X1_26 rfl hXa rfl dX1_takeIn_29 ?_
  refine lv_icmp_le (tgt := 41) hx hb dX1_takeIn_32 (by decide) (fun c32 => ?_) (fun c32 => ?_)
  · refine lv_aload_n hx hb dX1_takeIn_41 rfl (lv_at hl 0 rfl) ?_
    refine hs_get hC hW hi_X1 rfl 0 (by decide) lk_X1_10 rfl hGr rfl dX1_takeIn_42 ?_
    refine lv_iload_n hx hb dX1_takeIn_45 rfl (lv_at hl 2 rfl) ?_
    refine lv_aload_n hx hb dX1_takeIn_46 rfl (lv_at hl 1 rfl) ?_
    refine hs_callV hC hs_Tok hW hL (ct_addAt E G L A sz mc hLo (cap L) f hLa hsc (by omega) (by omega) (fun z => hAA.elim (fun w => w.1) (fun w => absurd z (by omega))) (fun z => hT.sz (hAA.resolve_left (fun w => by omega)).1) (hT.sz hLt) 6 cl_el6 (cl_elT hT hel) a _ hXa _ (by omega)) cw_Jx4a65c_add_7a177 lk_X1_30 im_Jx4a65c_add_7a177 se_Jx4a65c_add_7a177 (hs_recv hC hW hLo rfl) hl.1 (by decide) (Nat.le_of_ble_eq_true rfl) dX1_takeIn_47 (hs_kV (fun G1 k n H locs hI hk hn hW hL => ?_))
    obtain ⟨A1, c1, hT1, hF1, hL1, hc1, hk1, hn1, hk2, hn2, hfr, hA1t, f2, hLa2, hf2⟩ := hT.add2 hLt (Or.inr (Or.inr ⟨rfl, rfl, rfl⟩)) hLa hLo hAA hcp hsz (by omega) hel ha (fun _ => h99) hI
    have hb1 := hF1.1 _ _ ha
    obtain ⟨nu7, te7, t7, u6, u7, st7, du7, ql7, am7, fa7, pr7, ip7, g7, hX7, k1, k2, k3, k4⟩ := hT1.tr hb1
    have haL : L ≠ a := fun z => by rw [z, ha] at hLt; cases hLt
    have hst7 := hn0 _ _ _ _ _ _ _ _ _ _ _ _ _ ((hfr a _ ha haL.symm (by simp)).symm.trans hX7)
    have haA : A1 ≠ a := fun z => by rw [z] at hLa2; rw [hX7] at hLa2; cases hLa2
    refine lv_aload_n hx hb dX1_takeIn_50 rfl (lv_at hl 1 rfl) ?_
    refine lv_aload_n hx hb dX1_takeIn_51 rfl (lv_at hl 0 rfl) ?_
    refine hs_putN hC hW hL hi_X5 tyX5 tyX5_ok nmX5 rfl 12 (by decide) lk_X1_34 rfl rfl hX7 (hT1.sz hb1) rfl rfl (Nat.le_of_ble_eq_true rfl) dX1_takeIn_52 (fun H locs hW hL => ?_)
    have hT2 := hT1.pT (nu := nu7) (te := te7) (st := st7) (du := du7) (ql := ql7) (am := am7) (fa := fa7) (pr := pr7) (ip := ip7) hb1 k1 k2 k3 (Or.inr ⟨g, rfl, hF1.1 _ _ hg⟩) (hT1.b hb1 _ _ _ _ _ _ _ _ _ _ _ _ _ hX7) (fun z => absurd z h99) (fun z => absurd z hst7)
    exact hs_vret hC hW hL hr hlocks (by show 0 + k ≤ 1; omega) (by show 0 + n ≤ 230; omega) dX1_takeIn_55 ⟨rfl, by omega, by omega, _, _, _, A1, f2, _, hT2.1, hF1.tr hT2.2, (by rw [hs_up_ne _ _ haL]; exact hL1), (by rw [hs_up_ne _ _ haA, va_up_self]; exact hLa2), va_up_self _ _ _, by omega, hf2, (fun q z => va_up_ne _ _ z), ⟨_, _, _, _, _, _, _, _, _, _, _, _, hs_up_eq _ _ _⟩, (fun q kq z1 z2 => by
      by_cases w : q = A1
      · rw [w, va_up_self] at z1
        cases z1
        exact absurd rfl z2
      · rw [va_up_ne _ _ w] at z1
        exact z1), fun q kq z1 z2 z3 z4 => by
      rw [hs_up_ne _ _ z4]
      exact hfr q kq z1 z2 z3⟩
  refine lv_iinc (lv' := [(2, .int _), (0, .ref _), (1, .ref _)]) hx hb dX1_takeIn_35 hl (k := 2) rfl rfl (by decide) rfl (fun ls hl => ?_)
  refine lv_goto (tgt := 8) hx hb dX1_takeIn_38 (by decide) ?_
  rw [hs_dec] at hl
  exact ih j _ _ _ (by show j < j + 1; omega) ⟨by omega, hW, hL, (lv_sub hl [1, 2, 0] rfl)⟩
set_option maxHeartbeats 4000000 in
set_option maxRecDepth 100000 in
/-- Group.absorb -/
theorem ct_X1_absorb (E : hs_E) (t : cl_t) (cap X : Nat → Nat) (d : Nat) (G : hs_G) (hT : cl_T E t cap X d G) (g : Nat) (hg : t g = some (53, 0)) (h99 : X 99 = 0) (o : Nat) (ho : t o = some (53, 0)) (L A sz : Nat) (mc : Int32) (hGr : G g = some (.inr (2, [.ref L]))) (hLt : t L = some (54, g)) (hLo : G L = some (al_o mc A (nI sz))) (Lo Ao so : Nat) (mo9 : Int32) (hGo : G o = some (.inr (2, [.ref Lo]))) (hLto : t Lo = some (54, o)) (hLoo : G Lo = some (al_o mo9 Ao (nI so))) (hgo : g ≠ o) (hsum : sz + so ≤ 6) : hM E yX1_absorb ({ frames := 7, cells := 6, slots := 1380, locals := 270 }) [.ref g, .ref o] G (hs_V (cl_M E t cap X d G 6 1380)) := by
  refine hs_ofW (cc := cX1_absorb) (maxL := 3) (ret := none) (by decide) co_X1_absorb ?_
  intro p e s m args below meth c hC hlocks hr hin0 hnoh hW
  obtain ⟨hx, hb, hml, hown, hts, -⟩ := id hC
  have hE := hW
  have hL : ∀ q ∈ ([] : List Loc), (eH E).size ≤ q.base := fun q hq => nomatch hq
  have hl := lv_entry ([.ref g, .ref o] : List Value) (n := 3) (Nat.le_of_ble_eq_true rfl)
  rw [lg_entry_eq]
  generalize (lg_sl [.ref g, .ref o] ++ List.replicate (3 - (lg_sl [.ref g, .ref o]).length) Slot.unset).toArray = ls at hl ⊢
  have hl : lv_has ls 3 [(0, .ref g), (1, .ref o)] := hl
  obtain ⟨f, hLa, hsc0, -, -, hel0, hAA0⟩ := (hT.l54 hLt).at hLo (by omega)
  obtain ⟨fo, hLao, hsco, -, hcpo, helo, hAAo⟩ := (hT.l54 hLto).at hLoo (by omega)
  obtain ⟨hinj1, hmem1⟩ := (hT.D h99 hLt).at hLo (by omega) hLa
  obtain ⟨hinjo, hmemo⟩ := (hT.D h99 hLto).at hLoo (by omega) hLao
  have hLoL : Lo ≠ L := fun z => by rw [z, hLt] at hLto; cases hLto; exact hgo rfl
  have hsep : ∀ u v, u < sz → v < so → f u ≠ fo v := fun u v hu hv z => by (obtain ⟨x, x1, -, x3⟩ := hmem1 u hu; obtain ⟨y, y1, -, y3⟩ := hmemo v hv; rw [x1, y1] at z; cases z; exact hgo (x3.uniq y3))
  have hto : ∀ u, u < so → ∀ y, fo u = some y → t y = some (50, 0) := fun u hu y hy => by (obtain ⟨x, x1, x2, -⟩ := hmemo u hu; rw [hy] at x1; cases x1; exact x2)
  have hk50 : ∀ q kq, t q = some kq → kq.1 ≠ 50 → ∀ u, u < so → fo u ≠ some q := fun q kq hq hk u hu z => by (have y := hto u hu q z; rw [hq] at y; cases y; exact hk rfl)
  have hEn : ∀ q k, t q = some k → q ≠ eE E := fun q k hq w => by (have y1 := hT.sz hq; have y2 := hT.2.2.2.1.1; omega)
  refine lv_iconst (v := 0) hx hb dX1_absorb_0 (by decide) ?_
  refine lv_istore_n (lv' := [(2, .int _), (0, .ref _), (1, .ref _)]) hx hb dX1_absorb_1 rfl hl (by decide) rfl (fun ls hl => ?_)
  refine hs_loopC (σ := Nat × cl_t × (Nat → Nat) × hs_G × Int32 × Nat × (Nat → Option Nat)) (fun x => match x with | (i, t1, cap1, G1, mc1, A1, f1) => so - i) (fun x kk nn H locs ls => match x with | (i, t1, cap1, G1, mc1, A1, f1) => (i ≤ so ∧ kk ≤ i ∧ nn ≤ 230 * i ∧ cl_T E t1 cap1 (va_up X 99 1) d G1 ∧ cl_F t G t1 G1 ∧ G1 L = some (al_o mc1 A1 (nI (sz + i))) ∧ (∀ q, q ≠ L → cap1 q = cap q) ∧ cl_ab E t G L g sz i f fo t1 cap1 G1 A1 f1) ∧ hs_W (eD E) vwCl (eH E) (G1) H ∧ (∀ q ∈ locs, (eH E).size ≤ q.base) ∧ lv_has ls 3 [(0, .ref g), (1, .ref o), (2, .int (nI i))]) ?_ (0, t, cap, G, mc, A, f) 0 0 _ _ _ ⟨⟨Nat.zero_le _, Nat.le_refl _, Nat.le_refl _, hT.off, cl_F.rf, hLo, fun _ _ => rfl, hLa, hAA0.imp (fun z => z.1) (fun z => z.1), fun j hj => Or.inl ⟨j, by omega, rfl⟩, fun j j' hj hj' z => hinj1 j j' (by omega) (by omega) z, fun u hu => absurd hu (Nat.not_lt_zero _), fun q kq hq _ => hq, fun q kq _ _ _ _ => rfl⟩, hW, hL, (lv_sub hl [1, 2, 0] rfl)⟩
  rintro ⟨i, t1, cap1, G1, mc1, A1, f1⟩ kk nn H locs ls ⟨⟨i1, i2, i3, i4, i5, i6, i10, i11⟩, hW, hL, hl⟩ ih
  replace hW : hs_W (eD E) vwCl (eH E) (G1) H := hW
  replace hl : lv_has ls 3 [(0, .ref g), (1, .ref o), (2, .int (nI i))] := hl
  have i7 : G1 g = G g := i11.2.2.2.2.2.2 g _ hg (fun z => by rw [z, hLt] at hg; cases hg) (by simp) (fun u hu => hk50 _ _ hg (by simp) u (by omega))
  have i8 : G1 o = G o := i11.2.2.2.2.2.2 o _ ho (fun z => by rw [z, hLt] at ho; cases ho) (by simp) (fun u hu => hk50 _ _ ho (by simp) u (by omega))
  have i9 : G1 Lo = G Lo := i11.2.2.2.2.2.2 Lo _ hLto hLoL (by simp) (fun u hu => hk50 _ _ hLto (by simp) u (by omega))
  have hLo1 : G1 Lo = some (al_o mo9 Ao (nI so)) := i9.trans hLoo
  have hGo1 : G1 o = some (.inr (2, [.ref Lo])) := i8.trans hGo
  have hGr1 : G1 g = some (.inr (2, [.ref L])) := i7.trans hGr
  have hLto1 := i5.1 _ _ hLto
  have hLt1 := i5.1 _ _ hLt
  have hg1 := i5.1 _ _ hg
  have iA : G1 Ao = G Ao := by (rcases hAAo with z | z; exact i5.2.1 _ (by (cases hh : t1 Ao with | none => rfl | some k => (have y1 := i4.sz hh; have y2 := hT.2.2.2.1.1; have y3 := z.1; omega))); exact i11.2.2.2.2.2.2 Ao _ z.1 (fun w => by rw [w, hLt] at z; cases z.1) (fun w => by cases w; exact hLoL rfl) (fun u hu => hk50 _ _ z.1 (by simp) u (by omega)))
  have hcL := i10 Lo hLoL
  have hLa9 : G1 Ao = some (al_a E (cap1 Lo) fo) := by rw [iA, hcL]; exact hLao
  have hsc9 : so ≤ cap1 Lo := by rw [hcL]; exact hsco
  have hAA9 : (Ao = eE E ∧ cap1 Lo = 0) ∨ (t1 Ao = some (60, Lo) ∧ 0 < cap1 Lo) := by rw [hcL]; exact hAAo.imp id (fun z => ⟨i5.1 _ _ z.1, z.2⟩)
  have hcp9 : cap1 Lo ≤ 223 := by rw [hcL]; exact hcpo
  refine lv_iload_n hx hb dX1_absorb_2 rfl (lv_at hl 2 rfl) ?_
  refine lv_aload_n hx hb dX1_absorb_3 rfl (lv_at hl 1 rfl) ?_
  refine hs_get hC hW hi_X1 rfl 0 (by decide) lk_X1_10 rfl hGo1 rfl dX1_absorb_4 ?_
  refine hs_callV hC hs_Tok hW hL (ct_size E G1 Lo Ao so mo9 hLo1) cw_Jx4a65c_size_8abf5 lk_X1_16 im_Jx4a65c_size_8abf5 se_Jx4a65c_size_8abf5 (hs_recv hC hW hLo1 rfl) hl.1 (by refine ⟨by decide, by decide, ?_, ?_⟩ <;> dsimp only <;> omega) (Nat.le_of_ble_eq_true rfl) dX1_absorb_7 (hs_kp1 (fun H locs hW hL => ?_))
  refine lv_icmp_ge (tgt := 34) hx hb dX1_absorb_10 (by decide) (fun c10 => ?_) (fun c10 => ?_)
  · refine lv_aload_n hx hb dX1_absorb_34 rfl (lv_at hl 1 rfl) ?_
    refine hs_get hC hW hi_X1 rfl 0 (by decide) lk_X1_10 rfl hGo1 rfl dX1_absorb_35 ?_
    refine hs_callV hC hs_Tok hW hL (ct_clear E G1 Lo Ao so mo9 hLo1 (cap1 Lo) fo hLa9 (by omega) hsc9 (fun z => i4.sz (hAA9.resolve_left (fun w => by omega)).1) (i4.sz hLto1)) cw_Jx4a65c_clear_da8c8 lk_X1_42 im_Jx4a65c_clear_da8c8 se_Jx4a65c_clear_da8c8 (hs_recv hC hW hLo1 rfl) hl.1 (by refine ⟨by decide, by decide, ?_, ?_⟩ <;> dsimp only <;> omega) (Nat.le_of_ble_eq_true rfl) dX1_absorb_38 (hs_kV (fun G2 k2 n2 H locs hI hk hn hW hL => ?_))
    obtain ⟨rfl, rfl, f7, hf7, rfl⟩ := hI
    have hi9 : i = so := by (have y : so ≤ i := (nI_leI (by omega) (by omega)).mp c10; omega)
    rw [hi9] at i6 i11
    have hT3 := i4.clear hLto1 (Or.inr (Or.inr ⟨rfl, rfl, rfl⟩)) hLo1 hLa9 hsc9 hcp9 hAA9 hf7
    have hT4 := hT3.1.on (fun _ L9 g9 hL9 => i11.fin hT h99 i5 i4 i10 hg hGr hLt hsum i6 ho hGo hLto hgo hmemo hmem1 hLa9 hAA9 hsc9 hf7 L9 g9 hL9)
    have hc9 : cap1 (X 9) = cap (X 9) := i10 _ (fun z => by have := hT.tag 9 (by decide); rw [z, hLt] at this; cases this)
    exact hs_vret hC hW hL hr hlocks (by show kk + 0 ≤ 6; omega) (by show nn + 0 ≤ 1380; omega) dX1_absorb_41 ⟨rfl, t1, cap1, hT4, i5.tr hT3.2, by omega, by omega, by omega⟩
  have hlt : i < so := Nat.not_le.mp fun z => c10 ((nI_leI (by omega) (by omega)).mpr z)
  obtain ⟨x9, hfx, htx0, hgo9⟩ := hmemo i hlt
  have htx := i5.1 _ _ htx0
  obtain ⟨nu9, te9, t9, s8, s9, st9, du9, ql9, am9, fa9, pr9, ip9, g9, hX, ht1, ht2, ht3, hg9⟩ := i4.tr htx
  have hX0 : G1 x9 = G x9 := i11.2.2.2.2.2.2 x9 _ htx0 (fun z => by rw [z, hLt] at htx0; cases htx0) (by simp) (fun u hu z => by (have y := hinjo u i (by omega) hlt (z.trans hfx.symm); omega))
  refine lv_aload_n hx hb dX1_absorb_13 rfl (lv_at hl 0 rfl) ?_
  refine lv_aload_n hx hb dX1_absorb_14 rfl (lv_at hl 1 rfl) ?_
  refine hs_get hC hW hi_X1 rfl 0 (by decide) lk_X1_10 rfl hGo1 rfl dX1_absorb_15 ?_
  refine lv_iload_n hx hb dX1_absorb_18 rfl (lv_at hl 2 rfl) ?_
  refine hs_callV hC hs_Tok hW hL (ct_get E G1 Lo Ao so mo9 hLo1 (cap1 Lo) fo hLa9 (by omega) i x9 hlt hsc9 hfx) cw_Jx4a65c_get_915e3 lk_X1_20 im_Jx4a65c_get_915e3 se_Jx4a65c_get_915e3 (hs_recv hC hW hLo1 rfl) hl.1 (by refine ⟨by decide, by decide, ?_, ?_⟩ <;> dsimp only <;> omega) (Nat.le_of_ble_eq_true rfl) dX1_absorb_19 (hs_kp1 (fun H locs hW hL => ?_))
  refine hs_cast hC hW lk_X1_24 ca_X5_X5 hX rfl dX1_absorb_22 ?_
  refine hs_callV hC hs_Tok hW hL (ct_X1_takeIn E t1 cap1 (va_up X 99 1) d G1 i4 g hg1 x9 htx L A1 (sz + i) mc1 f1 hGr1 hLt1 i6 i11.1 (by omega) (by rw [va_up_self]; decide) (fun nu te t1 s1 s2 st du ql am fa pr ip g9 hq z => by (have q1 := hX0.symm.trans hq; have q2 := hT.u htx0 _ _ _ _ _ _ _ _ _ _ _ _ _ q1 z; obtain ⟨_, _, _, _, _, _, _, _, _, _, _, _, w⟩ := hgo9; rw [q1] at w; cases w; cases q2))) cw_X1_takeIn lk_X1_38 im_X1_takeIn se_X1_takeIn (hs_recv hC hW hGr1 rfl) hl.1 (by refine ⟨by decide, by decide, ?_, ?_⟩ <;> dsimp only <;> omega) (Nat.le_of_ble_eq_true rfl) dX1_absorb_25 (hs_kV (fun G2 k2 n2 H locs hI hk hn hW hL => ?_))
  obtain ⟨hk2, hn2, t2, cap2, mc2, A2, f2, pl2, hT2, hF2, hL2, hA2, hA2t, hpl2, hf2, hcap2, hgr2, hold2, hfr2⟩ := hI
  refine lv_iinc (lv' := [(2, .int _), (0, .ref _), (1, .ref _)]) hx hb dX1_absorb_28 hl (k := 2) rfl rfl (by decide) rfl (fun ls hl => ?_)
  refine lv_goto (tgt := 2) hx hb dX1_absorb_31 (by decide) ?_
  rw [hs_inc] at hl
  exact ih (i + 1, t2, cap2, G2, mc2, A2, f2) (kk + k2) (nn + n2) _ _ _ (by show so - (i + 1) < so - i; omega) ⟨⟨by omega, by omega, by omega, hT2, i5.tr hF2, hL2, fun q z => (hcap2 q z).trans (i10 q z), i11.step hlt hfx hLt hsep hinjo hto i5.1 hA2 hA2t hpl2 hf2 hgr2 hold2 hfr2⟩, hW, hL, (lv_sub hl [1, 2, 0] rfl)⟩
