/-! the class: drop told -/
theorem cl_D.at {E : hs_E} {t : cl_t} {cap : Nat → Nat} {G : hs_G} {L g A sz : Nat} {mc : Int32} {f : Nat → Option Nat} (h : cl_D E t cap G L g) (hLo : G L = some (al_o mc A (nI sz))) (hs : sz ≤ 6) (hLa : G A = some (al_a E (cap L) f)) : (∀ i j, i < sz → j < sz → f i = f j → i = j) ∧ ∀ j, j < sz → ∃ x : Nat, f j = some x ∧ t x = some (50, 0) ∧ cl_gr (G x) g := by
  obtain ⟨mc', A', sz', f', h1, h2, h3, h4, h5, h6, -⟩ := h
  have e := hLo.symm.trans h1
  simp only [Option.some.injEq, Sum.inr.injEq, Prod.mk.injEq, List.cons.injEq, Value.int.injEq, Value.ref.injEq, and_true, true_and] at e
  obtain ⟨rfl, rfl, e3⟩ := e
  rw [dt_nI (by omega) (by omega)] at e3
  subst e3
  have e4 := hLa.symm.trans h2
  cases e4
  exact ⟨h5, h6⟩
theorem cl_rm {f f2 : Nat → Option Nat} {sz i : Nat} (hi : i < sz) (hf : ∀ j, j < sz - 1 → f2 j = f (if j < i then j else j + 1)) (h : ∀ i j, i < sz → j < sz → f i = f j → i = j) : ∀ a b, a < sz - 1 → b < sz - 1 → f2 a = f2 b → a = b := by
  intro a b ha hb e
  rw [hf a ha, hf b hb] at e
  have := h _ _ (by split <;> omega) (by split <;> omega) e
  split at this <;> split at this <;> omega
set_option maxHeartbeats 4000000 in
set_option maxRecDepth 100000 in
/-- Group.drop -/
theorem ct_X1_drop (E : hs_E) (t : cl_t) (cap X : Nat → Nat) (d : Nat) (G : hs_G) (hT : cl_T E t cap X d G) (g L A sz : Nat) (mc : Int32) (f : Nat → Option Nat) (hLt : t L = some (54, g)) (hGr : G g = some (.inr (2, [.ref L]))) (hLo : G L = some (al_o mc A (nI sz))) (hLa : G A = some (al_a E (cap L) f)) (hsc : sz ≤ cap L) (hmx : sz ≤ 6) (hcp : cap L ≤ 223) (hel : ∀ j, j < sz → ∃ x : Nat, f j = some x ∧ t x = some (50, 0)) (hAA : (A = eE E ∧ cap L = 0) ∨ (t A = some (60, L) ∧ 0 < cap L)) (a : Nat) : hM E yX1_drop ({ frames := 3, cells := 0, slots := 0, locals := 100 }) [.ref g, .ref a] G (hs_V (fun G1 k n => k = 0 ∧ n = 0 ∧ cl_T E t cap X d G1 ∧ cl_F t G t G1 ∧ ((G1 = G ∧ ∀ u, u < sz → f u ≠ some a) ∨ ∃ (i : Nat) (f2 : Nat → Option Nat) (mc2 : Int32), i < sz ∧ f i = some a ∧ (∀ u, u < i → f u ≠ some a) ∧ (∀ j, j < sz - 1 → f2 j = f (if j < i then j else j + 1)) ∧ G1 = hs_up (hs_up G A (al_a E (cap L) f2)) L (al_o mc2 A (nI (sz - 1)))))) := by
  refine hs_ofW (cc := cX1_drop) (maxL := 3) (ret := none) (by decide) co_X1_drop ?_
  intro p e s m args below meth c hC hlocks hr hin0 hnoh hW
  obtain ⟨hx, hb, hml, hown, hts, -⟩ := id hC
  have hE := hW
  have hL : ∀ q ∈ ([] : List Loc), (eH E).size ≤ q.base := fun q hq => nomatch hq
  have hl := lv_entry ([.ref g, .ref a] : List Value) (n := 3) (Nat.le_of_ble_eq_true rfl)
  rw [lg_entry_eq]
  generalize (lg_sl [.ref g, .ref a] ++ List.replicate (3 - (lg_sl [.ref g, .ref a]).length) Slot.unset).toArray = ls at hl ⊢
  have hl : lv_has ls 3 [(0, .ref g), (1, .ref a)] := hl
  refine lv_iconst (v := 0) hx hb dX1_drop_0 (by decide) ?_
  refine lv_istore_n (lv' := [(2, .int _), (0, .ref _), (1, .ref _)]) hx hb dX1_drop_1 rfl hl (by decide) rfl (fun ls hl => ?_)
  refine hs_loop (σ := Nat) (fun x => match x with | j => sz - j) (fun x H locs ls => match x with | j => (j ≤ sz ∧ ∀ u, u < j → f u ≠ some a) ∧ hs_W (eD E) vwCl (eH E) (G) H ∧ (∀ q ∈ locs, (eH E).size ≤ q.base) ∧ lv_has ls 3 [(0, .ref g), (1, .ref a), (2, .int (nI j))]) ?_ 0 _ _ _ ⟨⟨Nat.zero_le _, fun u hu => absurd hu (Nat.not_lt_zero _)⟩, hW, hL, (lv_sub hl [1, 2, 0] rfl)⟩
  rintro j H locs ls ⟨hinv, hW, hL, hl⟩ ih
  replace hW : hs_W (eD E) vwCl (eH E) (G) H := hW
  replace hl : lv_has ls 3 [(0, .ref g), (1, .ref a), (2, .int (nI j))] := hl
  refine lv_iload_n hx hb dX1_drop_2 rfl (lv_at hl 2 rfl) ?_
  refine lv_aload_n hx hb dX1_drop_3 rfl (lv_at hl 0 rfl) ?_
  refine hs_get hC hW hi_X1 rfl 0 (by decide) lk_X1_10 rfl hGr rfl dX1_drop_4 ?_
  refine hs_callV hC hs_Tok hW hL (ct_size E G L A sz mc hLo) cw_Jx4a65c_size_8abf5 lk_X1_16 im_Jx4a65c_size_8abf5 se_Jx4a65c_size_8abf5 (hs_recv hC hW hLo rfl) hl.1 (by decide) (Nat.le_of_ble_eq_true rfl) dX1_drop_7 (hs_kp1 (fun H locs hW hL => ?_))
  refine lv_icmp_ge (tgt := 43) hx hb dX1_drop_10 (by decide) (fun c10 => ?_) (fun c10 => ?_)
  · exact hs_vret hC hW hL hr hlocks (by decide) (by decide) dX1_drop_43 ⟨rfl, rfl, rfl, hT, cl_F.rf, Or.inl ⟨rfl, fun u hu => hinv.2 u (Nat.lt_of_lt_of_le hu ((nI_leI (by omega) (by omega)).mp c10))⟩⟩
  have hlt : j < sz := Nat.not_le.mp fun z => c10 ((nI_leI (by omega) (by omega)).mpr z)
  obtain ⟨x9, hfx, htx⟩ := hel j hlt
  have hA60 : t A = some (60, L) ∧ 0 < cap L := hAA.resolve_left (fun z => by omega)
  refine lv_aload_n hx hb dX1_drop_13 rfl (lv_at hl 0 rfl) ?_
  refine hs_get hC hW hi_X1 rfl 0 (by decide) lk_X1_10 rfl hGr rfl dX1_drop_14 ?_
  refine lv_iload_n hx hb dX1_drop_17 rfl (lv_at hl 2 rfl) ?_
  refine hs_callV hC hs_Tok hW hL (ct_get E G L A sz mc hLo (cap L) f hLa (by omega) j x9 hlt hsc hfx) cw_Jx4a65c_get_915e3 lk_X1_20 im_Jx4a65c_get_915e3 se_Jx4a65c_get_915e3 (hs_recv hC hW hLo rfl) hl.1 (by decide) (Nat.le_of_ble_eq_true rfl) dX1_drop_18 (hs_kp1 (fun H locs hW hL => ?_))
  refine lv_aload_n hx hb dX1_drop_21 rfl (lv_at hl 1 rfl) ?_
  refine lv_acmp_ne (rx := some _) (ry := some _) (tgt := 37) hx hb dX1_drop_22 (by decide) (fun c22 => ?_) (fun c22 => ?_)
  · refine lv_iinc (lv' := [(2, .int _), (0, .ref _), (1, .ref _)]) hx hb dX1_drop_37 hl (k := 2) rfl rfl (by decide) rfl (fun ls hl => ?_)
    refine lv_goto (tgt := 2) hx hb dX1_drop_40 (by decide) ?_
    rw [hs_inc] at hl
    exact ih (j + 1) _ _ _ (by show sz - (j + 1) < sz - j; omega) ⟨⟨by omega, fun u hu => (Nat.lt_or_ge u j).elim (fun z => hinv.2 u z) (fun z => by rw [show u = j by omega, hfx]; exact fun y => c22 (by first | exact y | (cases y; rfl) | (simp only [Option.some.injEq] at y; rw [y])))⟩, hW, hL, (lv_sub hl [1, 2, 0] rfl)⟩
  refine lv_aload_n hx hb dX1_drop_25 rfl (lv_at hl 0 rfl) ?_
  refine hs_get hC hW hi_X1 rfl 0 (by decide) lk_X1_10 rfl hGr rfl dX1_drop_26 ?_
  refine lv_iload_n hx hb dX1_drop_29 rfl (lv_at hl 2 rfl) ?_
  refine hs_callV hC hs_Tok hW hL (ct_remove E G L A sz mc hLo (cap L) f hLa hsc (by omega) (hT.sz hA60.1) (hT.sz hLt) 6 cl_el6 (cl_elT hT hel) j hlt x9 hfx) cw_Jx4a65c_remove_915e3 lk_X1_45 im_Jx4a65c_remove_915e3 se_Jx4a65c_remove_915e3 (hs_recv hC hW hLo rfl) hl.1 (by decide) (Nat.le_of_ble_eq_true rfl) dX1_drop_30 (hs_kO (fun y9 G1 k n H locs hI hk hn hW hL => ?_))
  obtain ⟨rfl, rfl, rfl, f8, hf8, rfl⟩ := hI
  have hT1 := hT.list0 (mc := mc + 1) (f := f8) (sz := sz - 1) hLt (Or.inr (Or.inr ⟨rfl, rfl, rfl⟩)) hA60.1 (by omega) (by omega) (by omega) hA60.2 (fun u hu => by rw [hf8 u hu]; exact hel _ (by split <;> omega)) (fun z _ => ⟨cl_rm hlt hf8 ((hT.D z hLt).at hLo hmx hLa).1, fun u hu => by rw [hf8 u hu]; exact ((hT.D z hLt).at hLo hmx hLa).2 _ (by split <;> omega)⟩)
  refine lv_pop hx hb dX1_drop_33 rfl ?_
  refine lv_goto (tgt := 43) hx hb dX1_drop_34 (by decide) ?_
  exact hs_vret hC hW hL hr hlocks (by decide) (by decide) dX1_drop_43 ⟨rfl, rfl, rfl, hT1.1, hT1.2, Or.inr ⟨j, f8, mc + 1, hlt, by rw [hfx]; first | exact c22 | (rw [c22]) | (cases c22; rfl), hinv.2, hf8, rfl⟩⟩
