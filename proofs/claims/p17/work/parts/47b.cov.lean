/-! the class: what is covered -/
/-- a trade's deliverer, receiver, security -/
def tdG (G : hs_G) (x : Nat) : Nat × Nat × Nat := match G x with
  | some (.inr (_, [_, _, .ref t1, _, _, _, _, _, _, _, _, _, _])) => match G t1 with
    | some (.inr (_, [.int de, .int re, .int se, _, _, _, _])) => (de.toNatClampNeg, re.toNatClampNeg, se.toNatClampNeg)
    | _ => (0, 0, 0)
  | _ => (0, 0, 0)
theorem tdG_at {G : hs_G} {x t1 s1 s2 de re se dy lg : Nat} {nu te st du ql am fa pr ip q0 m0 : Int32} {g : Value} (hX : G x = some (cl_tr nu te t1 s1 s2 st du ql am fa pr ip g)) (hTe : G t1 = some (cl_te de re se q0 m0 dy lg)) (h1 : de < 16) (h2 : re < 16) (h3 : se < 8) : tdG G x = (de, re, se) := by
  unfold tdG
  rw [hX]
  simp only []
  rw [hTe]
  simp only []
  rw [nI_clamp (by omega), nI_clamp (by omega), nI_clamp (by omega)]
/-- with all that the list f changes the u-th one's deliverer and receiver have enough -/
def cvm (X : Nat → Nat) (G : hs_G) (f : Nat → Option Nat) (sz u : Nat) : Prop := ∀ y, f u = some y → 0 ≤ (vv X (20 + (tdG G y).1) ((tdG G y).2.2 + 1)).toInt + tsum G f (tdG G y).1 ((tdG G y).2.2 + 1) sz ∧ 0 ≤ (vv X (20 + (tdG G y).2.1) 0).toInt + tsum G f (tdG G y).2.1 0 sz
theorem cl_s1 {s : Nat} (h : s < 8) : (nI s - -1).toNatClampNeg = s + 1 := by
  have key : ∀ s : Fin 8, (nI s.val - -1).toNatClampNeg = s.val + 1 := by decide +kernel
  exact key ⟨s, h⟩
theorem cl_s0 : ((-1 : Int32) - -1).toNatClampNeg = 0 := by decide +kernel
theorem i64_nl {a : Int64} (h : ¬ lg_cmp a 0 < 0) : 0 ≤ a.toInt := by
  rw [lg_cmp_lt, Int64.lt_iff_toInt_lt, Int64.toInt_zero] at h
  omega
theorem i64_gz {a : Int64} (h : lg_cmp a 0 ≥ 0) : 0 ≤ a.toInt := by
  have h2 : 0 ≤ lg_cmp a 0 := h
  rw [lg_cmp_ge, Int64.le_iff_toInt_le, Int64.toInt_zero] at h2
  exact h2
set_option maxHeartbeats 4000000 in
set_option maxRecDepth 100000 in
/-- isCovered -/
theorem ct_X7_isCovered (E : hs_E) (t : cl_t) (cap X : Nat → Nat) (d : Nat) (G : hs_G) (hT : cl_T E t cap X d G) (g L A sz : Nat) (mc : Int32) (f : Nat → Option Nat) (hGr : G g = some (.inr (2, [.ref L]))) (hLo : G L = some (al_o mc A (nI sz))) (hLa : G A = some (al_a E (cap L) f)) (hsc : sz ≤ cap L) (hmx : sz ≤ 6) (hcp : cap L ≤ 223) (hel : ∀ j, j < sz → ∃ x : Nat, f j = some x ∧ t x = some (50, 0)) (hJ : vJ X) (hB : X 97 ≤ 1152921504606846976) : hM E yX7_isCovered ({ frames := 4, cells := 0, slots := 0, locals := 130 }) [.ref (X 0), .ref g] G (fun r G1 k n => ∃ x : Int32, hs_pu (some (.int x)) G r G1 k n ∧ (x = 0 ∨ x = 1) ∧ (x = 1 → ∀ u, u < sz → cvm X G f sz u)) := by
  refine hs_ofW (cc := cX7_isCovered) (maxL := 9) (ret := (some .boolean)) (by decide) co_X7_isCovered ?_
  intro p e s m args below meth c hC hlocks hr hin0 hnoh hW
  obtain ⟨hx, hb, hml, hown, hts, -⟩ := id hC
  have hE := hW
  have hL : ∀ q ∈ ([] : List Loc), (eH E).size ≤ q.base := fun q hq => nomatch hq
  have hl := lv_entry ([.ref (X 0), .ref g] : List Value) (n := 9) (Nat.le_of_ble_eq_true rfl)
  rw [lg_entry_eq]
  generalize (lg_sl [.ref (X 0), .ref g] ++ List.replicate (9 - (lg_sl [.ref (X 0), .ref g]).length) Slot.unset).toArray = ls at hl ⊢
  have hl : lv_has ls 9 [(0, .ref (X 0)), (1, .ref g)] := hl
  refine lv_iconst (v := 0) hx hb dX7_isCovered_0 (by decide) ?_
  refine lv_istore_n (lv' := [(2, .int _), (0, .ref _), (1, .ref _)]) hx hb dX7_isCovered_1 rfl hl (by decide) rfl (fun ls hl => ?_)
  refine hs_loop (σ := Nat) (fun x => match x with | j => sz - j) (fun x H locs ls => match x with | j => (j ≤ sz ∧ ∀ u, u < j → cvm X G f sz u) ∧ hs_W (eD E) vwCl (eH E) (G) H ∧ (∀ q ∈ locs, (eH E).size ≤ q.base) ∧ lv_has ls 9 [(0, .ref (X 0)), (1, .ref g), (2, .int (nI j))]) ?_ 0 _ _ _ ⟨⟨Nat.zero_le _, fun u hu => absurd hu (Nat.not_lt_zero _)⟩, hW, hL, (lv_sub hl [1, 2, 0] rfl)⟩
  rintro j H locs ls ⟨hinv, hW, hL, hl⟩ ih
  replace hW : hs_W (eD E) vwCl (eH E) (G) H := hW
  replace hl : lv_has ls 9 [(0, .ref (X 0)), (1, .ref g), (2, .int (nI j))] := hl
  refine lv_iload_n hx hb dX7_isCovered_2 rfl (lv_at hl 2 rfl) ?_
  refine lv_aload_n hx hb dX7_isCovered_3 rfl (lv_at hl 1 rfl) ?_
  refine hs_getN hC hW hi_X1 rfl 0 (by decide) lk_X7_277 rfl hGr rfl dX7_isCovered_4 ?_
  refine hs_callV hC hs_Tok hW hL (ct_size E G L A sz mc hLo) cw_Jx4a65c_size_8abf5 lk_X7_81 im_Jx4a65c_size_8abf5 se_Jx4a65c_size_8abf5 (hs_recv hC hW hLo rfl) hl.1 (by decide) (Nat.le_of_ble_eq_true rfl) dX7_isCovered_7 (hs_kp1 (fun H locs hW hL => ?_))
  refine lv_icmp_ge (tgt := 106) hx hb dX7_isCovered_10 (by decide) (fun c10 => ?_) (fun c10 => ?_)
  · have hj8 : j = sz := Nat.le_antisymm hinv.1 ((nI_leI (by omega) (by omega)).mp c10)
    refine lv_iconst (v := 1) hx hb dX7_isCovered_106 (by decide) ?_
    exact hs_zret hC hW hL hr hlocks (by decide) (by decide) dX7_isCovered_107 (by rfl) ⟨_, ⟨rfl, rfl, rfl, rfl⟩, ⟨Or.inr rfl, fun _ => hj8 ▸ hinv.2⟩⟩
  have hlt : j < sz := Nat.not_le.mp fun z => c10 ((nI_leI (by omega) (by omega)).mpr z)
  obtain ⟨x9, hfx, htx⟩ := hel j hlt
  obtain ⟨nu9, te9, t9, s8, s9, st9, du9, ql9, am9, fa9, pr9, ip9, g9, hX, ht1, ht2, ht3, hg9⟩ := hT.tr htx
  obtain ⟨de9, re9, se9, qq9, aa9, dy9, lg9, hTe, hde, hre, hse, hdy, hlg⟩ := hT.te ht1
  have hv1 := hJ.le (i := se9 + 1) (by omega) hde
  have hv2 := hJ.le (i := 0) (by omega) hre
  have hcv := ct_X1_changeOf E t cap X d G hT g L A sz mc f hGr hLo hLa hsc hmx hcp hel de9 (se9 + 1) hde (by omega)
  rw [nI_m1] at hcv
  have hcw := ct_X1_changeOf E t cap X d G hT g L A sz mc f hGr hLo hLa hsc hmx hcp hel re9 0 hre (by omega)
  rw [show nI 0 - 1 = (-1 : Int32) by decide +kernel] at hcw
  refine lv_aload_n hx hb dX7_isCovered_13 rfl (lv_at hl 1 rfl) ?_
  refine hs_getN hC hW hi_X1 rfl 0 (by decide) lk_X7_277 rfl hGr rfl dX7_isCovered_14 ?_
  refine lv_iload_n hx hb dX7_isCovered_17 rfl (lv_at hl 2 rfl) ?_
  refine hs_callV hC hs_Tok hW hL (ct_get E G L A sz mc hLo (cap L) f hLa (by omega) j x9 hlt hsc hfx) cw_Jx4a65c_get_915e3 lk_X7_202 im_Jx4a65c_get_915e3 se_Jx4a65c_get_915e3 (hs_recv hC hW hLo rfl) hl.1 (by decide) (Nat.le_of_ble_eq_true rfl) dX7_isCovered_18 (hs_kp1 (fun H locs hW hL => ?_))
  refine hs_cast hC hW lk_X7_99 ca_X5_X5 hX rfl dX7_isCovered_21 ?_
  refine hs_getN hC hW hi_X5 rfl 2 (by decide) lk_X7_172 rfl hX rfl dX7_isCovered_24 ?_
  refine lv_astore_n (lv' := [(3, .ref _), (0, .ref _), (1, .ref _), (2, .int _)]) hx hb dX7_isCovered_27 rfl hl (by decide) rfl (fun ls hl => ?_)
  refine lv_aload_n hx hb dX7_isCovered_28 rfl (lv_at hl 0 rfl) ?_
  refine hs_getN hC hW hi_X4 rfl 2 (by decide) lk_X7_182 rfl hTe rfl dX7_isCovered_29 ?_
  refine lv_istore (lv' := [(4, .int _), (3, .ref _), (0, .ref _), (1, .ref _), (2, .int _)]) hx hb dX7_isCovered_32 hl (by decide) rfl (fun ls hl => ?_)
  refine lv_aload_n hx hb dX7_isCovered_34 rfl (lv_at hl 2 rfl) ?_
  refine hs_get hC hW hi_X7 rfl 1 (by decide) lk_X7_19 rfl hT.house rfl dX7_isCovered_35 ?_
  refine lv_aload_n hx hb dX7_isCovered_38 rfl (lv_at hl 1 rfl) ?_
  refine hs_getN hC hW hi_X4 rfl 0 (by decide) lk_X7_176 rfl hTe rfl dX7_isCovered_39 ?_
  refine lv_iload hx hb dX7_isCovered_42 (lv_at hl 0 rfl) ?_
  refine hs_callVN hC hs_Tok hW hL (ct_X6_held E t cap X d G hT de9 hde _ (cl_as hse)) cw_X6_held lk_X7_56 im_X6_held se_X6_held (hs_recv hC hW hT.vault rfl) hl.1 (by decide) (Nat.le_of_ble_eq_true rfl) dX7_isCovered_44 (hs_kp1 (fun H locs hW hL => ?_))
  rw [cl_s1 hse]
  refine lv_aload_n hx hb dX7_isCovered_47 rfl (lv_at hl 3 rfl) ?_
  refine lv_aload_n hx hb dX7_isCovered_48 rfl (lv_at hl 1 rfl) ?_
  refine hs_getN hC hW hi_X4 rfl 0 (by decide) lk_X7_176 rfl hTe rfl dX7_isCovered_49 ?_
  refine lv_iload hx hb dX7_isCovered_52 (lv_at hl 0 rfl) ?_
  refine hs_callVN hC hs_Tok hW hL hcv cw_X1_changeOf lk_X7_280 im_X1_changeOf se_X1_changeOf (hs_recv hC hW hGr rfl) hl.1 (by decide) (Nat.le_of_ble_eq_true rfl) dX7_isCovered_54 (hs_keJ (fun y H locs hJy hW hL => ?_))
  refine lv_ladd hx hb dX7_isCovered_57 ?_
  refine lv_lstore (lv' := [(5, .long _), (4, .int _), (3, .ref _), (0, .ref _), (1, .ref _), (2, .int _)]) hx hb dX7_isCovered_58 hl (by decide) rfl (fun ls hl => ?_)
  refine lv_aload_n hx hb dX7_isCovered_60 rfl (lv_at hl 3 rfl) ?_
  refine hs_get hC hW hi_X7 rfl 1 (by decide) lk_X7_19 rfl hT.house rfl dX7_isCovered_61 ?_
  refine lv_aload_n hx hb dX7_isCovered_64 rfl (lv_at hl 2 rfl) ?_
  refine hs_getN hC hW hi_X4 rfl 1 (by decide) lk_X7_179 rfl hTe rfl dX7_isCovered_65 ?_
  refine lv_iconst (v := (-1)) hx hb dX7_isCovered_68 (by decide) ?_
  refine hs_callVN hC hs_Tok hW hL (ct_X6_held E t cap X d G hT re9 hre _ cl_as1) cw_X6_held lk_X7_56 im_X6_held se_X6_held (hs_recv hC hW hT.vault rfl) hl.1 (by decide) (Nat.le_of_ble_eq_true rfl) dX7_isCovered_69 (hs_kp1 (fun H locs hW hL => ?_))
  rw [cl_s0]
  refine lv_aload_n hx hb dX7_isCovered_72 rfl (lv_at hl 4 rfl) ?_
  refine lv_aload_n hx hb dX7_isCovered_73 rfl (lv_at hl 2 rfl) ?_
  refine hs_getN hC hW hi_X4 rfl 1 (by decide) lk_X7_179 rfl hTe rfl dX7_isCovered_74 ?_
  refine lv_iconst (v := (-1)) hx hb dX7_isCovered_77 (by decide) ?_
  refine hs_callVN hC hs_Tok hW hL hcw cw_X1_changeOf lk_X7_280 im_X1_changeOf se_X1_changeOf (hs_recv hC hW hGr rfl) hl.1 (by decide) (Nat.le_of_ble_eq_true rfl) dX7_isCovered_78 (hs_keJ (fun z H locs hJz hW hL => ?_))
  refine lv_ladd hx hb dX7_isCovered_81 ?_
  refine lv_lstore (lv' := [(7, .long _), (5, .long _), (4, .int _), (3, .ref _), (0, .ref _), (1, .ref _), (2, .int _)]) hx hb dX7_isCovered_82 hl (by decide) rfl (fun ls hl => ?_)
  refine lv_lload hx hb dX7_isCovered_84 (lv_at hl 1 rfl) ?_
  refine lv_lconst (v := 0) hx hb dX7_isCovered_86 (by decide) ?_
  refine W.lcmp hx hb dX7_isCovered_87 ?_
  refine lv_if_lt (tgt := 98) hx hb dX7_isCovered_88 (by decide) (fun c88 => ?_) (fun c88 => ?_)
  · refine lv_iconst (v := 0) hx hb dX7_isCovered_98 (by decide) ?_
    exact hs_zret hC hW hL hr hlocks (by decide) (by decide) dX7_isCovered_99 (by rfl) ⟨_, ⟨rfl, rfl, rfl, rfl⟩, ⟨Or.inl rfl, fun z => absurd z (by decide)⟩⟩
  refine lv_lload hx hb dX7_isCovered_91 (lv_at hl 0 rfl) ?_
  refine lv_lconst (v := 0) hx hb dX7_isCovered_93 (by decide) ?_
  refine W.lcmp hx hb dX7_isCovered_94 ?_
  refine lv_if_ge (tgt := 100) hx hb dX7_isCovered_95 (by decide) (fun c95 => ?_) (fun c95 => ?_)
  · refine lv_iinc (lv' := [(2, .int _), (7, .long _), (5, .long _), (4, .int _), (3, .ref _), (0, .ref _), (1, .ref _)]) hx hb dX7_isCovered_100 hl (k := 6) rfl rfl (by decide) rfl (fun ls hl => ?_)
    refine lv_goto (tgt := 2) hx hb dX7_isCovered_103 (by decide) ?_
    rw [hs_inc] at hl
    have a1 := i64_nl c88
    have a2 := i64_gz c95
    rw [i64_add (by omega) (by omega), hJy.1] at a1
    rw [i64_add (by omega) (by omega), hJz.1] at a2
    have hcu : cvm X G f sz j := fun y hy => by rw [hfx] at hy; cases hy; rw [tdG_at hX hTe hde hre hse]; exact ⟨a1, a2⟩
    exact ih (j + 1) _ _ _ (by show sz - (j + 1) < sz - j; omega) ⟨⟨by omega, fun u hu => (Nat.lt_or_ge u j).elim (fun z => hinv.2 u z) (fun z => by rw [show u = j by omega]; exact hcu)⟩, hW, hL, (lv_sub hl [5, 6, 0] rfl)⟩
  refine lv_iconst (v := 0) hx hb dX7_isCovered_98 (by decide) ?_
  exact hs_zret hC hW hL hr hlocks (by decide) (by decide) dX7_isCovered_99 (by rfl) ⟨_, ⟨rfl, rfl, rfl, rfl⟩, ⟨Or.inl rfl, fun z => absurd z (by decide)⟩⟩
