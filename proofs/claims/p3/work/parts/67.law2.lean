/-! the cases of the law's switch -/
set_option maxHeartbeats 4000000 in
set_option maxRecDepth 100000 in
theorem lw_case0 (E : hs_E) (hST : E.1.stackTraces = false) {p : Program} {e : Env} {s : State} {m : MethodId} {args : Array Value} {below : List Frame} {meth : Method} {c : Code} {Q : State → Prop} (hC : hs_C (eD E) vwCl (eT E) (eZ E) (eH E) hs_Ts p s m args c cL_law 8 RL) {b L : Nat} {xs : Nat → Int32} (hX : va_X b L xs s (eH E)) (hbl : b < (eH E).size) {i : Int32} (hi0 : vp_in (i) L) (hi1 : vp_in (i + 1) L) (hi2 : vp_in (i + 2) L) (hi3 : vp_in (i + 3) L) (hi4 : vp_in (i + 4) L) (hi5 : vp_in (i + 5) L) (hi6 : vp_in (i + 6) L) (hi7 : vp_in (i + 7) L) (hi8 : vp_in (i + 8) L) {x o mo : Nat} {ar : Nat → Nat} {ix : Nat → Option Nat} {G : hs_G} (hB : lw_B E x o mo ar ix G) {H : Heap} {locs : List Loc} {ls : Array Slot} {cells slots : Nat} (hW : hs_W (eD E) vwCl (eH E) G H) (hL : ∀ q ∈ locs, (eH E).size ≤ q.base) (hl : lv_has ls 8 [(0, .ref b), (1, .ref x), (2, .ref mo), (3, .ref o), (4, .int i)]) (hc9 : cells + 500 ≤ 601024) (hn9 : slots + 3000 ≤ 7293034)
    (kk : lw_Kk E p e s m args below meth c b i x o mo ar ix cells slots Q 855) : W p E.1 e room_1 s m args below meth c H locs cells slots Q (F0 m 120 ls []) := by
  obtain ⟨X, t, cap, d, sc, mI, mL, f9, rfl, hS, hR⟩ := hB
  obtain ⟨hx, hb, hml, hown, hts, -⟩ := id hC
  obtain ⟨hT, ho, hto, hos, -⟩ := id hS
  refine lv_aload_n hx hb dL_law_120 rfl (lv_at hl 1 rfl) ?_
  refine lv_aload_n hx hb dL_law_121 rfl (lv_at hl 0 rfl) ?_
  refine lv_iload hx hb dL_law_122 (lv_at hl 4 rfl) ?_
  refine lv_iconst (v := 1) hx hb dL_law_124 (by decide) ?_
  refine lv_iadd hx hb dL_law_125 ?_
  refine hs_sld hC hW hX hbl hi1 dL_law_126 ?_
  refine lv_aload_n hx hb dL_law_127 rfl (lv_at hl 0 rfl) ?_
  refine lv_iload hx hb dL_law_128 (lv_at hl 4 rfl) ?_
  refine lv_iconst (v := 2) hx hb dL_law_130 (by decide) ?_
  refine lv_iadd hx hb dL_law_131 ?_
  refine hs_sld hC hW hX hbl hi2 dL_law_132 ?_
  refine lv_aload_n hx hb dL_law_133 rfl (lv_at hl 0 rfl) ?_
  refine lv_iload hx hb dL_law_134 (lv_at hl 4 rfl) ?_
  refine lv_iconst (v := 3) hx hb dL_law_136 (by decide) ?_
  refine lv_iadd hx hb dL_law_137 ?_
  refine hs_sld hC hW hX hbl hi3 dL_law_138 ?_
  refine lv_aload_n hx hb dL_law_139 rfl (lv_at hl 3 rfl) ?_
  refine hs_callST hC hs_Tok hW hL (ct_L_fund E hST t cap X d G hT o f9 ho hto hos _ _ _) cw_L_fund lk_L_68 st_L_fund hl.1 ⟨by decide, by decide, (by show cells + 1 ≤ 601024; omega), (by show slots + 6 ≤ 7293034; omega)⟩ (Nat.le_of_ble_eq_true rfl) dL_law_140 (hs_kI (fun z G1 k n H locs hI hk hn hW hL => ?_))
  replace hk : k ≤ 1 := hk
  replace hn : n ≤ 6 := hn
  obtain ⟨t1, cap1, f1, hS1⟩ := lw_cls hS (hI)
  obtain ⟨N1, S1, hI1⟩ := hS1.2.2.2.2.2.2.2.2.2.2
  replace hW := lw_W hS1 hW
  refine lv_istore (lv' := [(5, .int _), (0, .ref _), (1, .ref _), (2, .ref _), (3, .ref _), (4, .int _)]) hx hb dL_law_143 hl (by decide) rfl (fun ls hl => ?_)
  refine lv_aload_n hx hb dL_law_145 rfl (lv_at hl 3 rfl) ?_
  refine lv_aload_n hx hb dL_law_146 rfl (lv_at hl 1 rfl) ?_
  refine lv_iload hx hb dL_law_147 (lv_at hl 5 rfl) ?_
  refine lv_iconst (v := 1) hx hb dL_law_149 (by decide) ?_
  refine lv_iadd hx hb dL_law_150 ?_
  refine hs_sld hC hW hX hbl hi1 dL_law_151 ?_
  refine lv_aload_n hx hb dL_law_152 rfl (lv_at hl 1 rfl) ?_
  refine lv_iload hx hb dL_law_153 (lv_at hl 5 rfl) ?_
  refine lv_iconst (v := 2) hx hb dL_law_155 (by decide) ?_
  refine lv_iadd hx hb dL_law_156 ?_
  refine hs_sld hC hW hX hbl hi2 dL_law_157 ?_
  refine lv_aload_n hx hb dL_law_158 rfl (lv_at hl 1 rfl) ?_
  refine lv_iload hx hb dL_law_159 (lv_at hl 5 rfl) ?_
  refine lv_iconst (v := 3) hx hb dL_law_161 (by decide) ?_
  refine lv_iadd hx hb dL_law_162 ?_
  refine hs_sld hC hW hX hbl hi3 dL_law_163 ?_
  refine hs_callV hC hs_Tok hW hL (ct_X8_fund E mo ar ix sc mI mL G1 hS1.2.2.2.2.1 _ _ _) cw_X8_fund lk_L_73 im_X8_fund se_X8_fund (hs_recv hC hW mo_obj rfl) hl.1 ⟨by decide, by decide, (by show cells + k + 0 ≤ 601024; omega), (by show slots + n + 0 ≤ 7293034; omega)⟩ (Nat.le_of_ble_eq_true rfl) dL_law_164 (lw_kJ (dm2 := d) hS1 (fun v sc2 mI2 mL2 h => ⟨h.1, lw_keep hI1 h.2.1 h.2.2⟩) (fun x sc2 mI2 mL2 H locs hI2 hS2 hW hL => ?_))
  refine lv_lstore (lv' := [(6, .long _), (5, .int _), (0, .ref _), (1, .ref _), (2, .ref _), (3, .ref _), (4, .int _)]) hx hb dL_law_167 hl (by decide) rfl (fun ls hl => ?_)
  refine lv_goto (tgt := 855) hx hb dL_law_169 (by decide) ?_
  exact kk _ _ _ _ k n (by omega) (by omega) ⟨X, _, _, _, _, _, _, _, rfl, hS2, hR.of (congrFun hI2.2.1 2)⟩ hW hL (lv_sub hl [2, 3, 4, 5, 6] rfl)
set_option maxHeartbeats 4000000 in
set_option maxRecDepth 100000 in
theorem lw_case1 (E : hs_E) (hST : E.1.stackTraces = false) {p : Program} {e : Env} {s : State} {m : MethodId} {args : Array Value} {below : List Frame} {meth : Method} {c : Code} {Q : State → Prop} (hC : hs_C (eD E) vwCl (eT E) (eZ E) (eH E) hs_Ts p s m args c cL_law 8 RL) {b L : Nat} {xs : Nat → Int32} (hX : va_X b L xs s (eH E)) (hbl : b < (eH E).size) {i : Int32} (hi0 : vp_in (i) L) (hi1 : vp_in (i + 1) L) (hi2 : vp_in (i + 2) L) (hi3 : vp_in (i + 3) L) (hi4 : vp_in (i + 4) L) (hi5 : vp_in (i + 5) L) (hi6 : vp_in (i + 6) L) (hi7 : vp_in (i + 7) L) (hi8 : vp_in (i + 8) L) {x o mo : Nat} {ar : Nat → Nat} {ix : Nat → Option Nat} {G : hs_G} (hB : lw_B E x o mo ar ix G) {H : Heap} {locs : List Loc} {ls : Array Slot} {cells slots : Nat} (hW : hs_W (eD E) vwCl (eH E) G H) (hL : ∀ q ∈ locs, (eH E).size ≤ q.base) (hl : lv_has ls 8 [(0, .ref b), (1, .ref x), (2, .ref mo), (3, .ref o), (4, .int i)]) (hc9 : cells + 500 ≤ 601024) (hn9 : slots + 3000 ≤ 7293034)
    (kk : lw_Kk E p e s m args below meth c b i x o mo ar ix cells slots Q 855) : W p E.1 e room_1 s m args below meth c H locs cells slots Q (F0 m 172 ls []) := by
  obtain ⟨X, t, cap, d, sc, mI, mL, f9, rfl, hS, hR⟩ := hB
  obtain ⟨hx, hb, hml, hown, hts, -⟩ := id hC
  obtain ⟨hT, ho, hto, hos, -⟩ := id hS
  by_cases hok : nI d < xs (i + 1).toNatClampNeg ∧ xs (i + 1).toNatClampNeg ≤ 20000
  · refine lv_aload_n hx hb dL_law_172 rfl (lv_at hl 1 rfl) ?_
    refine lv_aload_n hx hb dL_law_173 rfl (lv_at hl 0 rfl) ?_
    refine lv_iload hx hb dL_law_174 (lv_at hl 4 rfl) ?_
    refine lv_iconst (v := 1) hx hb dL_law_176 (by decide) ?_
    refine lv_iadd hx hb dL_law_177 ?_
    refine hs_sld hC hW hX hbl hi1 dL_law_178 ?_
    refine lv_aload_n hx hb dL_law_179 rfl (lv_at hl 3 rfl) ?_
    refine hs_callST hC hs_Tok hW hL (ct_L_holiday E hST t cap X d G hT o f9 ho hto hos _) cw_L_holiday lk_L_74 st_L_holiday hl.1 ⟨by decide, by decide, (by show cells + 1 ≤ 601024; omega), (by show slots + 6 ≤ 7293034; omega)⟩ (Nat.le_of_ble_eq_true rfl) dL_law_180 (hs_kI (fun z G1 k n H locs hI hk hn hW hL => ?_))
    replace hk : k ≤ 1 := hk
    replace hn : n ≤ 6 := hn
    obtain ⟨rfl, j, f2, hdy, hj1, hj2, hf2, hH⟩ := hI.resolve_right (fun z => z.2.1 hok)
    obtain ⟨t1, cap1, hS1⟩ := lw_clsf hS hH
    obtain ⟨N1, S1, hI1⟩ := hS1.2.2.2.2.2.2.2.2.2.2
    replace hW := lw_W hS1 hW
    refine lv_istore (lv' := [(5, .int _), (0, .ref _), (1, .ref _), (2, .ref _), (3, .ref _), (4, .int _)]) hx hb dL_law_183 hl (by decide) rfl (fun ls hl => ?_)
    refine lv_aload_n hx hb dL_law_185 rfl (lv_at hl 3 rfl) ?_
    refine lv_aload_n hx hb dL_law_186 rfl (lv_at hl 1 rfl) ?_
    refine lv_iload hx hb dL_law_187 (lv_at hl 5 rfl) ?_
    refine lv_iconst (v := 1) hx hb dL_law_189 (by decide) ?_
    refine lv_iadd hx hb dL_law_190 ?_
    refine hs_sld hC hW hX hbl hi1 dL_law_191 ?_
    refine hs_callV hC hs_Tok hW hL (ct_X8_holiday E mo ar ix sc mI mL G1 hS1.2.2.2.2.1 _ N1 d S1 hI1) cw_X8_holiday lk_L_77 im_X8_holiday se_X8_holiday (hs_recv hC hW mo_obj rfl) hl.1 ⟨by decide, by decide, (by show cells + k + 0 ≤ 601024; omega), (by show slots + n + 0 ≤ 7293034; omega)⟩ (Nat.le_of_ble_eq_true rfl) dL_law_192 (lw_kI (dm2 := d) hS1 (fun v sc2 mI2 mL2 h => lw_hol h) (fun x sc2 mI2 mL2 H locs hI2 hS2 hW hL => ?_))
    have hP9 := (lw_hc hI1.2.2.1 hI1.2.2.2.1).mpr hok
    have e0 : sc2 0 = 0 := by rw [hI2.2.1, if_pos hP9]
    obtain ⟨e1, e2⟩ := hI2.2.2.1 hP9
    have hcl : (xs (i + 1).toNatClampNeg).toNatClampNeg = j := by rw [hdy]; exact nI_clamp (by omega)
    rw [hcl] at e1 e2
    simp only [Option.some.injEq, Value.int.injEq] at e1
    refine lv_istore (lv' := [(6, .int _), (5, .int _), (0, .ref _), (1, .ref _), (2, .ref _), (3, .ref _), (4, .int _)]) hx hb dL_law_195 hl (by decide) rfl (fun ls hl => ?_)
    refine lv_aload_n hx hb dL_law_197 rfl (lv_at hl 4 rfl) ?_
    refine hs_callV hC hs_Tok hW hL (ct_X8_thrown E mo ar ix sc2 mI2 mL2 G1 hS1.2.2.2.2.1) cw_X8_thrown lk_L_78 im_X8_thrown se_X8_thrown (hs_recv hC hW mo_obj rfl) hl.1 ⟨by decide, by decide, (by show cells + k + 0 ≤ 601024; omega), (by show slots + n + 0 ≤ 7293034; omega)⟩ (Nat.le_of_ble_eq_true rfl) dL_law_198 (hs_kp1 (fun H locs hW hL => ?_))
    rw [e0]
    refine lv_iload hx hb dL_law_201 (lv_at hl 1 rfl) ?_
    refine lv_icmp_eq (tgt := 208) hx hb dL_law_203 (by decide) (fun c203 => ?_) (fun c203 => ?_)
    · refine lv_iload hx hb dL_law_208 (lv_at hl 1 rfl) ?_
      refine lv_if_ne (tgt := 232) hx hb dL_law_210 (by decide) (fun c210 => ?_) (fun c210 => ?_)
      · exact absurd c210 (by first | decide | simp [mo_up])
      refine lv_aload_n hx hb dL_law_213 rfl (lv_at hl 5 rfl) ?_
      refine lv_iconst (v := 0) hx hb dL_law_214 (by decide) ?_
      refine hs_lald hC hW 1 hS2.2.1 rfl (vp_in_nI (n := 0) (by decide) (by decide)) dL_law_215 ?_
      rw [show (0 : Int32).toNatClampNeg = 0 from rfl, hf2]
      refine lv_iload hx hb dL_law_216 (lv_at hl 0 rfl) ?_
      refine lv_if_eq (tgt := 225) hx hb dL_law_218 (by decide) (fun c218 => ?_) (fun c218 => ?_)
      · refine lv_lconst (v := 0) hx hb dL_law_225 (by decide) ?_
        refine W.lcmp hx hb dL_law_226 ?_
        refine lv_if_eq (tgt := 232) hx hb dL_law_227 (by decide) (fun c227 => ?_) (fun c227 => ?_)
        · refine lv_goto (tgt := 855) hx hb dL_law_232 (by decide) ?_
          exact kk _ _ _ _ k n (by omega) (by omega) ⟨hv_mk X j, _, _, _, _, _, _, _, hv_mk_lo (by decide), hS2, hR.mk e2⟩ hW hL (lv_sub hl [2, 3, 4, 5, 6] rfl)
        exact absurd ((lg_cmp_eq _ _).mpr (by first | exact (lw_hx e1 (hR j hj2)).1 c218 | exact (lw_hx e1 (hR j hj2)).2 c218)) c227
      refine lv_lconst (v := 1) hx hb dL_law_221 (by decide) ?_
      refine lv_goto (tgt := 226) hx hb dL_law_222 (by decide) ?_
      refine W.lcmp hx hb dL_law_226 ?_
      refine lv_if_eq (tgt := 232) hx hb dL_law_227 (by decide) (fun c227 => ?_) (fun c227 => ?_)
      · refine lv_goto (tgt := 855) hx hb dL_law_232 (by decide) ?_
        exact kk _ _ _ _ k n (by omega) (by omega) ⟨hv_mk X j, _, _, _, _, _, _, _, hv_mk_lo (by decide), hS2, hR.mk e2⟩ hW hL (lv_sub hl [2, 3, 4, 5, 6] rfl)
      exact absurd ((lg_cmp_eq _ _).mpr (by first | exact (lw_hx e1 (hR j hj2)).1 c218 | exact (lw_hx e1 (hR j hj2)).2 c218)) c227
    exact absurd c203 (by first | decide | simp [mo_up])
  · refine lv_aload_n hx hb dL_law_172 rfl (lv_at hl 1 rfl) ?_
    refine lv_aload_n hx hb dL_law_173 rfl (lv_at hl 0 rfl) ?_
    refine lv_iload hx hb dL_law_174 (lv_at hl 4 rfl) ?_
    refine lv_iconst (v := 1) hx hb dL_law_176 (by decide) ?_
    refine lv_iadd hx hb dL_law_177 ?_
    refine hs_sld hC hW hX hbl hi1 dL_law_178 ?_
    refine lv_aload_n hx hb dL_law_179 rfl (lv_at hl 3 rfl) ?_
    refine hs_callST hC hs_Tok hW hL (ct_L_holiday E hST t cap X d G hT o f9 ho hto hos _) cw_L_holiday lk_L_74 st_L_holiday hl.1 ⟨by decide, by decide, (by show cells + 1 ≤ 601024; omega), (by show slots + 6 ≤ 7293034; omega)⟩ (Nat.le_of_ble_eq_true rfl) dL_law_180 (hs_kI (fun z G1 k n H locs hI hk hn hW hL => ?_))
    replace hk : k ≤ 1 := hk
    replace hn : n ≤ 6 := hn
    obtain ⟨rfl, -, hG1⟩ := hI.resolve_left (fun ⟨_, j, f, e, h1, h2, _⟩ => lw_nok hok e h1 h2)
    rw [hG1] at hW
    have hS1 := hS
    obtain ⟨N1, S1, hI1⟩ := hS1.2.2.2.2.2.2.2.2.2.2
    replace hW := lw_W hS1 hW
    refine lv_istore (lv' := [(5, .int _), (0, .ref _), (1, .ref _), (2, .ref _), (3, .ref _), (4, .int _)]) hx hb dL_law_183 hl (by decide) rfl (fun ls hl => ?_)
    refine lv_aload_n hx hb dL_law_185 rfl (lv_at hl 3 rfl) ?_
    refine lv_aload_n hx hb dL_law_186 rfl (lv_at hl 1 rfl) ?_
    refine lv_iload hx hb dL_law_187 (lv_at hl 5 rfl) ?_
    refine lv_iconst (v := 1) hx hb dL_law_189 (by decide) ?_
    refine lv_iadd hx hb dL_law_190 ?_
    refine hs_sld hC hW hX hbl hi1 dL_law_191 ?_
    refine hs_callV hC hs_Tok hW hL (ct_X8_holiday E mo ar ix sc mI mL G hS1.2.2.2.2.1 _ N1 d S1 hI1) cw_X8_holiday lk_L_77 im_X8_holiday se_X8_holiday (hs_recv hC hW mo_obj rfl) hl.1 ⟨by decide, by decide, (by show cells + k + 0 ≤ 601024; omega), (by show slots + n + 0 ≤ 7293034; omega)⟩ (Nat.le_of_ble_eq_true rfl) dL_law_192 (lw_kI (dm2 := d) hS1 (fun v sc2 mI2 mL2 h => lw_hol h) (fun x sc2 mI2 mL2 H locs hI2 hS2 hW hL => ?_))
    have hP9 := fun z => hok ((lw_hc hI1.2.2.1 hI1.2.2.2.1).mp z)
    have e0 : sc2 0 = 1 := by rw [hI2.2.1, if_neg hP9]
    have e2 := (hI2.2.2.2 hP9).2
    refine lv_istore (lv' := [(6, .int _), (5, .int _), (0, .ref _), (1, .ref _), (2, .ref _), (3, .ref _), (4, .int _)]) hx hb dL_law_195 hl (by decide) rfl (fun ls hl => ?_)
    refine lv_aload_n hx hb dL_law_197 rfl (lv_at hl 4 rfl) ?_
    refine hs_callV hC hs_Tok hW hL (ct_X8_thrown E mo ar ix sc2 mI2 mL2 G hS1.2.2.2.2.1) cw_X8_thrown lk_L_78 im_X8_thrown se_X8_thrown (hs_recv hC hW mo_obj rfl) hl.1 ⟨by decide, by decide, (by show cells + k + 0 ≤ 601024; omega), (by show slots + n + 0 ≤ 7293034; omega)⟩ (Nat.le_of_ble_eq_true rfl) dL_law_198 (hs_kp1 (fun H locs hW hL => ?_))
    rw [e0]
    refine lv_iload hx hb dL_law_201 (lv_at hl 1 rfl) ?_
    refine lv_icmp_eq (tgt := 208) hx hb dL_law_203 (by decide) (fun c203 => ?_) (fun c203 => ?_)
    · refine lv_iload hx hb dL_law_208 (lv_at hl 1 rfl) ?_
      refine lv_if_ne (tgt := 232) hx hb dL_law_210 (by decide) (fun c210 => ?_) (fun c210 => ?_)
      · refine lv_goto (tgt := 855) hx hb dL_law_232 (by decide) ?_
        exact kk _ _ _ _ k n (by omega) (by omega) ⟨X, _, _, _, _, _, _, _, rfl, hS2, hR.of e2⟩ hW hL (lv_sub hl [2, 3, 4, 5, 6] rfl)
      exact absurd c210 (by first | decide | simp [mo_up])
    exact absurd c203 (by first | decide | simp [mo_up])
set_option maxHeartbeats 4000000 in
set_option maxRecDepth 100000 in
theorem lw_case2 (E : hs_E) (hST : E.1.stackTraces = false) {p : Program} {e : Env} {s : State} {m : MethodId} {args : Array Value} {below : List Frame} {meth : Method} {c : Code} {Q : State → Prop} (hC : hs_C (eD E) vwCl (eT E) (eZ E) (eH E) hs_Ts p s m args c cL_law 8 RL) {b L : Nat} {xs : Nat → Int32} (hX : va_X b L xs s (eH E)) (hbl : b < (eH E).size) {i : Int32} (hi0 : vp_in (i) L) (hi1 : vp_in (i + 1) L) (hi2 : vp_in (i + 2) L) (hi3 : vp_in (i + 3) L) (hi4 : vp_in (i + 4) L) (hi5 : vp_in (i + 5) L) (hi6 : vp_in (i + 6) L) (hi7 : vp_in (i + 7) L) (hi8 : vp_in (i + 8) L) {x o mo : Nat} {ar : Nat → Nat} {ix : Nat → Option Nat} {G : hs_G} (hB : lw_B E x o mo ar ix G) {H : Heap} {locs : List Loc} {ls : Array Slot} {cells slots : Nat} (hW : hs_W (eD E) vwCl (eH E) G H) (hL : ∀ q ∈ locs, (eH E).size ≤ q.base) (hl : lv_has ls 8 [(0, .ref b), (1, .ref x), (2, .ref mo), (3, .ref o), (4, .int i)]) (hc9 : cells + 500 ≤ 601024) (hn9 : slots + 3000 ≤ 7293034)
    (kk : lw_Kk E p e s m args below meth c b i x o mo ar ix cells slots Q 855) : W p E.1 e room_1 s m args below meth c H locs cells slots Q (F0 m 235 ls []) := by
  obtain ⟨X, t, cap, d, sc, mI, mL, f9, rfl, hS, hR⟩ := hB
  obtain ⟨hx, hb, hml, hown, hts, -⟩ := id hC
  obtain ⟨hT, ho, hto, hos, -⟩ := id hS
  refine lv_aload_n hx hb dL_law_235 rfl (lv_at hl 1 rfl) ?_
  refine lv_aload_n hx hb dL_law_236 rfl (lv_at hl 0 rfl) ?_
  refine lv_iload hx hb dL_law_237 (lv_at hl 4 rfl) ?_
  refine lv_iconst (v := 1) hx hb dL_law_239 (by decide) ?_
  refine lv_iadd hx hb dL_law_240 ?_
  refine hs_sld hC hW hX hbl hi1 dL_law_241 ?_
  refine lv_aload_n hx hb dL_law_242 rfl (lv_at hl 0 rfl) ?_
  refine lv_iload hx hb dL_law_243 (lv_at hl 4 rfl) ?_
  refine lv_iconst (v := 2) hx hb dL_law_245 (by decide) ?_
  refine lv_iadd hx hb dL_law_246 ?_
  refine hs_sld hC hW hX hbl hi2 dL_law_247 ?_
  refine lv_aload_n hx hb dL_law_248 rfl (lv_at hl 0 rfl) ?_
  refine lv_iload hx hb dL_law_249 (lv_at hl 4 rfl) ?_
  refine lv_iconst (v := 3) hx hb dL_law_251 (by decide) ?_
  refine lv_iadd hx hb dL_law_252 ?_
  refine hs_sld hC hW hX hbl hi3 dL_law_253 ?_
  refine lv_if_eq (tgt := 261) hx hb dL_law_254 (by decide) (fun c254 => ?_) (fun c254 => ?_)
  · refine lv_iconst (v := 0) hx hb dL_law_261 (by decide) ?_
    refine lv_aload_n hx hb dL_law_262 rfl (lv_at hl 0 rfl) ?_
    refine lv_iload hx hb dL_law_263 (lv_at hl 4 rfl) ?_
    refine lv_iconst (v := 4) hx hb dL_law_265 (by decide) ?_
    refine lv_iadd hx hb dL_law_266 ?_
    refine hs_sld hC hW hX hbl hi4 dL_law_267 ?_
    refine lv_aload_n hx hb dL_law_268 rfl (lv_at hl 0 rfl) ?_
    refine lv_iload hx hb dL_law_269 (lv_at hl 4 rfl) ?_
    refine lv_iconst (v := 5) hx hb dL_law_271 (by decide) ?_
    refine lv_iadd hx hb dL_law_272 ?_
    refine hs_sld hC hW hX hbl hi5 dL_law_273 ?_
    refine lv_aload_n hx hb dL_law_274 rfl (lv_at hl 0 rfl) ?_
    refine lv_iload hx hb dL_law_275 (lv_at hl 4 rfl) ?_
    refine lv_bipush (v := 6) hx hb dL_law_277 (by decide) ?_
    refine lv_iadd hx hb dL_law_279 ?_
    refine hs_sld hC hW hX hbl hi6 dL_law_280 ?_
    refine lv_aload_n hx hb dL_law_281 rfl (lv_at hl 0 rfl) ?_
    refine lv_iload hx hb dL_law_282 (lv_at hl 4 rfl) ?_
    refine lv_bipush (v := 7) hx hb dL_law_284 (by decide) ?_
    refine lv_iadd hx hb dL_law_286 ?_
    refine hs_sld hC hW hX hbl hi7 dL_law_287 ?_
    refine lv_aload_n hx hb dL_law_288 rfl (lv_at hl 0 rfl) ?_
    refine lv_iload hx hb dL_law_289 (lv_at hl 4 rfl) ?_
    refine lv_bipush (v := 8) hx hb dL_law_291 (by decide) ?_
    refine lv_iadd hx hb dL_law_293 ?_
    refine hs_sld hC hW hX hbl hi8 dL_law_294 ?_
    refine lv_aload_n hx hb dL_law_295 rfl (lv_at hl 3 rfl) ?_
    refine hs_callST hC hs_Tok hW hL (ct_L_tell E hST t cap X d G hT o f9 ho hto hos _ _ _ _ _ _ _ _) cw_L_tell lk_L_81 st_L_tell hl.1 ⟨by decide, by decide, (by show cells + 5 ≤ 601024; omega), (by show slots + 260 ≤ 7293034; omega)⟩ (Nat.le_of_ble_eq_true rfl) dL_law_296 (hs_kI (fun z G1 k n H locs hI hk hn hW hL => ?_))
    replace hk : k ≤ 5 := hk
    replace hn : n ≤ 260 := hn
    obtain ⟨t1, cap1, f1, hS1⟩ := lw_cls hS (hI)
    obtain ⟨N1, S1, hI1⟩ := hS1.2.2.2.2.2.2.2.2.2.2
    replace hW := lw_W hS1 hW
    refine lv_istore (lv' := [(5, .int _), (0, .ref _), (1, .ref _), (2, .ref _), (3, .ref _), (4, .int _)]) hx hb dL_law_299 hl (by decide) rfl (fun ls hl => ?_)
    refine lv_aload_n hx hb dL_law_301 rfl (lv_at hl 3 rfl) ?_
    refine lv_aload_n hx hb dL_law_302 rfl (lv_at hl 1 rfl) ?_
    refine lv_iload hx hb dL_law_303 (lv_at hl 5 rfl) ?_
    refine lv_iconst (v := 1) hx hb dL_law_305 (by decide) ?_
    refine lv_iadd hx hb dL_law_306 ?_
    refine hs_sld hC hW hX hbl hi1 dL_law_307 ?_
    refine lv_aload_n hx hb dL_law_308 rfl (lv_at hl 1 rfl) ?_
    refine lv_iload hx hb dL_law_309 (lv_at hl 5 rfl) ?_
    refine lv_iconst (v := 2) hx hb dL_law_311 (by decide) ?_
    refine lv_iadd hx hb dL_law_312 ?_
    refine hs_sld hC hW hX hbl hi2 dL_law_313 ?_
    refine lv_aload_n hx hb dL_law_314 rfl (lv_at hl 1 rfl) ?_
    refine lv_iload hx hb dL_law_315 (lv_at hl 5 rfl) ?_
    refine lv_iconst (v := 3) hx hb dL_law_317 (by decide) ?_
    refine lv_iadd hx hb dL_law_318 ?_
    refine hs_sld hC hW hX hbl hi3 dL_law_319 ?_
    refine lv_if_eq (tgt := 327) hx hb dL_law_320 (by decide) (fun c320 => ?_) (fun c320 => ?_)
    · refine lv_iconst (v := 0) hx hb dL_law_327 (by decide) ?_
      refine lv_aload_n hx hb dL_law_328 rfl (lv_at hl 1 rfl) ?_
      refine lv_iload hx hb dL_law_329 (lv_at hl 5 rfl) ?_
      refine lv_iconst (v := 4) hx hb dL_law_331 (by decide) ?_
      refine lv_iadd hx hb dL_law_332 ?_
      refine hs_sld hC hW hX hbl hi4 dL_law_333 ?_
      refine lv_aload_n hx hb dL_law_334 rfl (lv_at hl 1 rfl) ?_
      refine lv_iload hx hb dL_law_335 (lv_at hl 5 rfl) ?_
      refine lv_iconst (v := 5) hx hb dL_law_337 (by decide) ?_
      refine lv_iadd hx hb dL_law_338 ?_
      refine hs_sld hC hW hX hbl hi5 dL_law_339 ?_
      refine lv_aload_n hx hb dL_law_340 rfl (lv_at hl 1 rfl) ?_
      refine lv_iload hx hb dL_law_341 (lv_at hl 5 rfl) ?_
      refine lv_bipush (v := 6) hx hb dL_law_343 (by decide) ?_
      refine lv_iadd hx hb dL_law_345 ?_
      refine hs_sld hC hW hX hbl hi6 dL_law_346 ?_
      refine lv_aload_n hx hb dL_law_347 rfl (lv_at hl 1 rfl) ?_
      refine lv_iload hx hb dL_law_348 (lv_at hl 5 rfl) ?_
      refine lv_bipush (v := 7) hx hb dL_law_350 (by decide) ?_
      refine lv_iadd hx hb dL_law_352 ?_
      refine hs_sld hC hW hX hbl hi7 dL_law_353 ?_
      refine lv_aload_n hx hb dL_law_354 rfl (lv_at hl 1 rfl) ?_
      refine lv_iload hx hb dL_law_355 (lv_at hl 5 rfl) ?_
      refine lv_bipush (v := 8) hx hb dL_law_357 (by decide) ?_
      refine lv_iadd hx hb dL_law_359 ?_
      refine hs_sld hC hW hX hbl hi8 dL_law_360 ?_
      refine hs_callV hC hs_Tok hW hL (ct_X8_tell E mo ar ix sc mI mL G1 hS1.2.2.2.2.1 _ _ _ _ _ _ _ _ N1 d S1 hI1) cw_X8_tell lk_L_84 im_X8_tell se_X8_tell (hs_recv hC hW mo_obj rfl) hl.1 ⟨by decide, by decide, (by show cells + k + 0 ≤ 601024; omega), (by show slots + n + 0 ≤ 7293034; omega)⟩ (Nat.le_of_ble_eq_true rfl) dL_law_361 (lw_kI (dm2 := d) hS1 (fun v sc2 mI2 mL2 h => ⟨h.1, h.2.2⟩) (fun x sc2 mI2 mL2 H locs hI2 hS2 hW hL => ?_))
      refine lv_istore (lv' := [(6, .int _), (5, .int _), (0, .ref _), (1, .ref _), (2, .ref _), (3, .ref _), (4, .int _)]) hx hb dL_law_364 hl (by decide) rfl (fun ls hl => ?_)
      refine lv_goto (tgt := 855) hx hb dL_law_366 (by decide) ?_
      exact kk _ _ _ _ k n (by omega) (by omega) ⟨X, _, _, _, _, _, _, _, rfl, hS2, hR.of hI2.2.1⟩ hW hL (lv_sub hl [2, 3, 4, 5, 6] rfl)
    refine lv_iconst (v := 1) hx hb dL_law_323 (by decide) ?_
    refine lv_goto (tgt := 328) hx hb dL_law_324 (by decide) ?_
    refine lv_aload_n hx hb dL_law_328 rfl (lv_at hl 1 rfl) ?_
    refine lv_iload hx hb dL_law_329 (lv_at hl 5 rfl) ?_
    refine lv_iconst (v := 4) hx hb dL_law_331 (by decide) ?_
    refine lv_iadd hx hb dL_law_332 ?_
    refine hs_sld hC hW hX hbl hi4 dL_law_333 ?_
    refine lv_aload_n hx hb dL_law_334 rfl (lv_at hl 1 rfl) ?_
    refine lv_iload hx hb dL_law_335 (lv_at hl 5 rfl) ?_
    refine lv_iconst (v := 5) hx hb dL_law_337 (by decide) ?_
    refine lv_iadd hx hb dL_law_338 ?_
    refine hs_sld hC hW hX hbl hi5 dL_law_339 ?_
    refine lv_aload_n hx hb dL_law_340 rfl (lv_at hl 1 rfl) ?_
    refine lv_iload hx hb dL_law_341 (lv_at hl 5 rfl) ?_
    refine lv_bipush (v := 6) hx hb dL_law_343 (by decide) ?_
    refine lv_iadd hx hb dL_law_345 ?_
    refine hs_sld hC hW hX hbl hi6 dL_law_346 ?_
    refine lv_aload_n hx hb dL_law_347 rfl (lv_at hl 1 rfl) ?_
    refine lv_iload hx hb dL_law_348 (lv_at hl 5 rfl) ?_
    refine lv_bipush (v := 7) hx hb dL_law_350 (by decide) ?_
    refine lv_iadd hx hb dL_law_352 ?_
    refine hs_sld hC hW hX hbl hi7 dL_law_353 ?_
    refine lv_aload_n hx hb dL_law_354 rfl (lv_at hl 1 rfl) ?_
    refine lv_iload hx hb dL_law_355 (lv_at hl 5 rfl) ?_
    refine lv_bipush (v := 8) hx hb dL_law_357 (by decide) ?_
    refine lv_iadd hx hb dL_law_359 ?_
    refine hs_sld hC hW hX hbl hi8 dL_law_360 ?_
    refine hs_callV hC hs_Tok hW hL (ct_X8_tell E mo ar ix sc mI mL G1 hS1.2.2.2.2.1 _ _ _ _ _ _ _ _ N1 d S1 hI1) cw_X8_tell lk_L_84 im_X8_tell se_X8_tell (hs_recv hC hW mo_obj rfl) hl.1 ⟨by decide, by decide, (by show cells + k + 0 ≤ 601024; omega), (by show slots + n + 0 ≤ 7293034; omega)⟩ (Nat.le_of_ble_eq_true rfl) dL_law_361 (lw_kI (dm2 := d) hS1 (fun v sc2 mI2 mL2 h => ⟨h.1, h.2.2⟩) (fun x sc2 mI2 mL2 H locs hI2 hS2 hW hL => ?_))
    refine lv_istore (lv' := [(6, .int _), (5, .int _), (0, .ref _), (1, .ref _), (2, .ref _), (3, .ref _), (4, .int _)]) hx hb dL_law_364 hl (by decide) rfl (fun ls hl => ?_)
    refine lv_goto (tgt := 855) hx hb dL_law_366 (by decide) ?_
    exact kk _ _ _ _ k n (by omega) (by omega) ⟨X, _, _, _, _, _, _, _, rfl, hS2, hR.of hI2.2.1⟩ hW hL (lv_sub hl [2, 3, 4, 5, 6] rfl)
  refine lv_iconst (v := 1) hx hb dL_law_257 (by decide) ?_
  refine lv_goto (tgt := 262) hx hb dL_law_258 (by decide) ?_
  refine lv_aload_n hx hb dL_law_262 rfl (lv_at hl 0 rfl) ?_
  refine lv_iload hx hb dL_law_263 (lv_at hl 4 rfl) ?_
  refine lv_iconst (v := 4) hx hb dL_law_265 (by decide) ?_
  refine lv_iadd hx hb dL_law_266 ?_
  refine hs_sld hC hW hX hbl hi4 dL_law_267 ?_
  refine lv_aload_n hx hb dL_law_268 rfl (lv_at hl 0 rfl) ?_
  refine lv_iload hx hb dL_law_269 (lv_at hl 4 rfl) ?_
  refine lv_iconst (v := 5) hx hb dL_law_271 (by decide) ?_
  refine lv_iadd hx hb dL_law_272 ?_
  refine hs_sld hC hW hX hbl hi5 dL_law_273 ?_
  refine lv_aload_n hx hb dL_law_274 rfl (lv_at hl 0 rfl) ?_
  refine lv_iload hx hb dL_law_275 (lv_at hl 4 rfl) ?_
  refine lv_bipush (v := 6) hx hb dL_law_277 (by decide) ?_
  refine lv_iadd hx hb dL_law_279 ?_
  refine hs_sld hC hW hX hbl hi6 dL_law_280 ?_
  refine lv_aload_n hx hb dL_law_281 rfl (lv_at hl 0 rfl) ?_
  refine lv_iload hx hb dL_law_282 (lv_at hl 4 rfl) ?_
  refine lv_bipush (v := 7) hx hb dL_law_284 (by decide) ?_
  refine lv_iadd hx hb dL_law_286 ?_
  refine hs_sld hC hW hX hbl hi7 dL_law_287 ?_
  refine lv_aload_n hx hb dL_law_288 rfl (lv_at hl 0 rfl) ?_
  refine lv_iload hx hb dL_law_289 (lv_at hl 4 rfl) ?_
  refine lv_bipush (v := 8) hx hb dL_law_291 (by decide) ?_
  refine lv_iadd hx hb dL_law_293 ?_
  refine hs_sld hC hW hX hbl hi8 dL_law_294 ?_
  refine lv_aload_n hx hb dL_law_295 rfl (lv_at hl 3 rfl) ?_
  refine hs_callST hC hs_Tok hW hL (ct_L_tell E hST t cap X d G hT o f9 ho hto hos _ _ _ _ _ _ _ _) cw_L_tell lk_L_81 st_L_tell hl.1 ⟨by decide, by decide, (by show cells + 5 ≤ 601024; omega), (by show slots + 260 ≤ 7293034; omega)⟩ (Nat.le_of_ble_eq_true rfl) dL_law_296 (hs_kI (fun z G1 k n H locs hI hk hn hW hL => ?_))
  replace hk : k ≤ 5 := hk
  replace hn : n ≤ 260 := hn
  obtain ⟨t1, cap1, f1, hS1⟩ := lw_cls hS (hI)
  obtain ⟨N1, S1, hI1⟩ := hS1.2.2.2.2.2.2.2.2.2.2
  replace hW := lw_W hS1 hW
  refine lv_istore (lv' := [(5, .int _), (0, .ref _), (1, .ref _), (2, .ref _), (3, .ref _), (4, .int _)]) hx hb dL_law_299 hl (by decide) rfl (fun ls hl => ?_)
  refine lv_aload_n hx hb dL_law_301 rfl (lv_at hl 3 rfl) ?_
  refine lv_aload_n hx hb dL_law_302 rfl (lv_at hl 1 rfl) ?_
  refine lv_iload hx hb dL_law_303 (lv_at hl 5 rfl) ?_
  refine lv_iconst (v := 1) hx hb dL_law_305 (by decide) ?_
  refine lv_iadd hx hb dL_law_306 ?_
  refine hs_sld hC hW hX hbl hi1 dL_law_307 ?_
  refine lv_aload_n hx hb dL_law_308 rfl (lv_at hl 1 rfl) ?_
  refine lv_iload hx hb dL_law_309 (lv_at hl 5 rfl) ?_
  refine lv_iconst (v := 2) hx hb dL_law_311 (by decide) ?_
  refine lv_iadd hx hb dL_law_312 ?_
  refine hs_sld hC hW hX hbl hi2 dL_law_313 ?_
  refine lv_aload_n hx hb dL_law_314 rfl (lv_at hl 1 rfl) ?_
  refine lv_iload hx hb dL_law_315 (lv_at hl 5 rfl) ?_
  refine lv_iconst (v := 3) hx hb dL_law_317 (by decide) ?_
  refine lv_iadd hx hb dL_law_318 ?_
  refine hs_sld hC hW hX hbl hi3 dL_law_319 ?_
  refine lv_if_eq (tgt := 327) hx hb dL_law_320 (by decide) (fun c320 => ?_) (fun c320 => ?_)
  · refine lv_iconst (v := 0) hx hb dL_law_327 (by decide) ?_
    refine lv_aload_n hx hb dL_law_328 rfl (lv_at hl 1 rfl) ?_
    refine lv_iload hx hb dL_law_329 (lv_at hl 5 rfl) ?_
    refine lv_iconst (v := 4) hx hb dL_law_331 (by decide) ?_
    refine lv_iadd hx hb dL_law_332 ?_
    refine hs_sld hC hW hX hbl hi4 dL_law_333 ?_
    refine lv_aload_n hx hb dL_law_334 rfl (lv_at hl 1 rfl) ?_
    refine lv_iload hx hb dL_law_335 (lv_at hl 5 rfl) ?_
    refine lv_iconst (v := 5) hx hb dL_law_337 (by decide) ?_
    refine lv_iadd hx hb dL_law_338 ?_
    refine hs_sld hC hW hX hbl hi5 dL_law_339 ?_
    refine lv_aload_n hx hb dL_law_340 rfl (lv_at hl 1 rfl) ?_
    refine lv_iload hx hb dL_law_341 (lv_at hl 5 rfl) ?_
    refine lv_bipush (v := 6) hx hb dL_law_343 (by decide) ?_
    refine lv_iadd hx hb dL_law_345 ?_
    refine hs_sld hC hW hX hbl hi6 dL_law_346 ?_
    refine lv_aload_n hx hb dL_law_347 rfl (lv_at hl 1 rfl) ?_
    refine lv_iload hx hb dL_law_348 (lv_at hl 5 rfl) ?_
    refine lv_bipush (v := 7) hx hb dL_law_350 (by decide) ?_
    refine lv_iadd hx hb dL_law_352 ?_
    refine hs_sld hC hW hX hbl hi7 dL_law_353 ?_
    refine lv_aload_n hx hb dL_law_354 rfl (lv_at hl 1 rfl) ?_
    refine lv_iload hx hb dL_law_355 (lv_at hl 5 rfl) ?_
    refine lv_bipush (v := 8) hx hb dL_law_357 (by decide) ?_
    refine lv_iadd hx hb dL_law_359 ?_
    refine hs_sld hC hW hX hbl hi8 dL_law_360 ?_
    refine hs_callV hC hs_Tok hW hL (ct_X8_tell E mo ar ix sc mI mL G1 hS1.2.2.2.2.1 _ _ _ _ _ _ _ _ N1 d S1 hI1) cw_X8_tell lk_L_84 im_X8_tell se_X8_tell (hs_recv hC hW mo_obj rfl) hl.1 ⟨by decide, by decide, (by show cells + k + 0 ≤ 601024; omega), (by show slots + n + 0 ≤ 7293034; omega)⟩ (Nat.le_of_ble_eq_true rfl) dL_law_361 (lw_kI (dm2 := d) hS1 (fun v sc2 mI2 mL2 h => ⟨h.1, h.2.2⟩) (fun x sc2 mI2 mL2 H locs hI2 hS2 hW hL => ?_))
    refine lv_istore (lv' := [(6, .int _), (5, .int _), (0, .ref _), (1, .ref _), (2, .ref _), (3, .ref _), (4, .int _)]) hx hb dL_law_364 hl (by decide) rfl (fun ls hl => ?_)
    refine lv_goto (tgt := 855) hx hb dL_law_366 (by decide) ?_
    exact kk _ _ _ _ k n (by omega) (by omega) ⟨X, _, _, _, _, _, _, _, rfl, hS2, hR.of hI2.2.1⟩ hW hL (lv_sub hl [2, 3, 4, 5, 6] rfl)
  refine lv_iconst (v := 1) hx hb dL_law_323 (by decide) ?_
  refine lv_goto (tgt := 328) hx hb dL_law_324 (by decide) ?_
  refine lv_aload_n hx hb dL_law_328 rfl (lv_at hl 1 rfl) ?_
  refine lv_iload hx hb dL_law_329 (lv_at hl 5 rfl) ?_
  refine lv_iconst (v := 4) hx hb dL_law_331 (by decide) ?_
  refine lv_iadd hx hb dL_law_332 ?_
  refine hs_sld hC hW hX hbl hi4 dL_law_333 ?_
  refine lv_aload_n hx hb dL_law_334 rfl (lv_at hl 1 rfl) ?_
  refine lv_iload hx hb dL_law_335 (lv_at hl 5 rfl) ?_
  refine lv_iconst (v := 5) hx hb dL_law_337 (by decide) ?_
  refine lv_iadd hx hb dL_law_338 ?_
  refine hs_sld hC hW hX hbl hi5 dL_law_339 ?_
  refine lv_aload_n hx hb dL_law_340 rfl (lv_at hl 1 rfl) ?_
  refine lv_iload hx hb dL_law_341 (lv_at hl 5 rfl) ?_
  refine lv_bipush (v := 6) hx hb dL_law_343 (by decide) ?_
  refine lv_iadd hx hb dL_law_345 ?_
  refine hs_sld hC hW hX hbl hi6 dL_law_346 ?_
  refine lv_aload_n hx hb dL_law_347 rfl (lv_at hl 1 rfl) ?_
  refine lv_iload hx hb dL_law_348 (lv_at hl 5 rfl) ?_
  refine lv_bipush (v := 7) hx hb dL_law_350 (by decide) ?_
  refine lv_iadd hx hb dL_law_352 ?_
  refine hs_sld hC hW hX hbl hi7 dL_law_353 ?_
  refine lv_aload_n hx hb dL_law_354 rfl (lv_at hl 1 rfl) ?_
  refine lv_iload hx hb dL_law_355 (lv_at hl 5 rfl) ?_
  refine lv_bipush (v := 8) hx hb dL_law_357 (by decide) ?_
  refine lv_iadd hx hb dL_law_359 ?_
  refine hs_sld hC hW hX hbl hi8 dL_law_360 ?_
  refine hs_callV hC hs_Tok hW hL (ct_X8_tell E mo ar ix sc mI mL G1 hS1.2.2.2.2.1 _ _ _ _ _ _ _ _ N1 d S1 hI1) cw_X8_tell lk_L_84 im_X8_tell se_X8_tell (hs_recv hC hW mo_obj rfl) hl.1 ⟨by decide, by decide, (by show cells + k + 0 ≤ 601024; omega), (by show slots + n + 0 ≤ 7293034; omega)⟩ (Nat.le_of_ble_eq_true rfl) dL_law_361 (lw_kI (dm2 := d) hS1 (fun v sc2 mI2 mL2 h => ⟨h.1, h.2.2⟩) (fun x sc2 mI2 mL2 H locs hI2 hS2 hW hL => ?_))
  refine lv_istore (lv' := [(6, .int _), (5, .int _), (0, .ref _), (1, .ref _), (2, .ref _), (3, .ref _), (4, .int _)]) hx hb dL_law_364 hl (by decide) rfl (fun ls hl => ?_)
  refine lv_goto (tgt := 855) hx hb dL_law_366 (by decide) ?_
  exact kk _ _ _ _ k n (by omega) (by omega) ⟨X, _, _, _, _, _, _, _, rfl, hS2, hR.of hI2.2.1⟩ hW hL (lv_sub hl [2, 3, 4, 5, 6] rfl)
set_option maxHeartbeats 4000000 in
set_option maxRecDepth 100000 in
theorem lw_case3 (E : hs_E) (hST : E.1.stackTraces = false) {p : Program} {e : Env} {s : State} {m : MethodId} {args : Array Value} {below : List Frame} {meth : Method} {c : Code} {Q : State → Prop} (hC : hs_C (eD E) vwCl (eT E) (eZ E) (eH E) hs_Ts p s m args c cL_law 8 RL) {b L : Nat} {xs : Nat → Int32} (hX : va_X b L xs s (eH E)) (hbl : b < (eH E).size) {i : Int32} (hi0 : vp_in (i) L) (hi1 : vp_in (i + 1) L) (hi2 : vp_in (i + 2) L) (hi3 : vp_in (i + 3) L) (hi4 : vp_in (i + 4) L) (hi5 : vp_in (i + 5) L) (hi6 : vp_in (i + 6) L) (hi7 : vp_in (i + 7) L) (hi8 : vp_in (i + 8) L) {x o mo : Nat} {ar : Nat → Nat} {ix : Nat → Option Nat} {G : hs_G} (hB : lw_B E x o mo ar ix G) {H : Heap} {locs : List Loc} {ls : Array Slot} {cells slots : Nat} (hW : hs_W (eD E) vwCl (eH E) G H) (hL : ∀ q ∈ locs, (eH E).size ≤ q.base) (hl : lv_has ls 8 [(0, .ref b), (1, .ref x), (2, .ref mo), (3, .ref o), (4, .int i)]) (hc9 : cells + 500 ≤ 601024) (hn9 : slots + 3000 ≤ 7293034)
    (kk : lw_Kk E p e s m args below meth c b i x o mo ar ix cells slots Q 855) : W p E.1 e room_1 s m args below meth c H locs cells slots Q (F0 m 369 ls []) := by
  obtain ⟨X, t, cap, d, sc, mI, mL, f9, rfl, hS, hR⟩ := hB
  obtain ⟨hx, hb, hml, hown, hts, -⟩ := id hC
  obtain ⟨hT, ho, hto, hos, -⟩ := id hS
  refine lv_aload_n hx hb dL_law_369 rfl (lv_at hl 1 rfl) ?_
  refine lv_aload_n hx hb dL_law_370 rfl (lv_at hl 0 rfl) ?_
  refine lv_iload hx hb dL_law_371 (lv_at hl 4 rfl) ?_
  refine lv_iconst (v := 1) hx hb dL_law_373 (by decide) ?_
  refine lv_iadd hx hb dL_law_374 ?_
  refine hs_sld hC hW hX hbl hi1 dL_law_375 ?_
  refine lv_aload_n hx hb dL_law_376 rfl (lv_at hl 0 rfl) ?_
  refine lv_iload hx hb dL_law_377 (lv_at hl 4 rfl) ?_
  refine lv_iconst (v := 2) hx hb dL_law_379 (by decide) ?_
  refine lv_iadd hx hb dL_law_380 ?_
  refine hs_sld hC hW hX hbl hi2 dL_law_381 ?_
  refine lv_aload_n hx hb dL_law_382 rfl (lv_at hl 0 rfl) ?_
  refine lv_iload hx hb dL_law_383 (lv_at hl 4 rfl) ?_
  refine lv_iconst (v := 3) hx hb dL_law_385 (by decide) ?_
  refine lv_iadd hx hb dL_law_386 ?_
  refine hs_sld hC hW hX hbl hi3 dL_law_387 ?_
  refine lv_if_eq (tgt := 395) hx hb dL_law_388 (by decide) (fun c388 => ?_) (fun c388 => ?_)
  · refine lv_iconst (v := 0) hx hb dL_law_395 (by decide) ?_
    refine lv_aload_n hx hb dL_law_396 rfl (lv_at hl 3 rfl) ?_
    refine hs_callST hC hs_Tok hW hL (ct_L_hold E hST t cap X d G hT o f9 ho hto hos _ _ _ (by first | exact Or.inl rfl | exact Or.inr rfl)) cw_L_hold lk_L_85 st_L_hold hl.1 ⟨by decide, by decide, (by show cells + 1 ≤ 601024; omega), (by show slots + 6 ≤ 7293034; omega)⟩ (Nat.le_of_ble_eq_true rfl) dL_law_397 (hs_kI (fun z G1 k n H locs hI hk hn hW hL => ?_))
    replace hk : k ≤ 1 := hk
    replace hn : n ≤ 6 := hn
    obtain ⟨t1, cap1, f1, hS1⟩ := lw_cls hS (hI)
    obtain ⟨N1, S1, hI1⟩ := hS1.2.2.2.2.2.2.2.2.2.2
    replace hW := lw_W hS1 hW
    refine lv_istore (lv' := [(5, .int _), (0, .ref _), (1, .ref _), (2, .ref _), (3, .ref _), (4, .int _)]) hx hb dL_law_400 hl (by decide) rfl (fun ls hl => ?_)
    refine lv_aload_n hx hb dL_law_402 rfl (lv_at hl 3 rfl) ?_
    refine lv_aload_n hx hb dL_law_403 rfl (lv_at hl 1 rfl) ?_
    refine lv_iload hx hb dL_law_404 (lv_at hl 5 rfl) ?_
    refine lv_iconst (v := 1) hx hb dL_law_406 (by decide) ?_
    refine lv_iadd hx hb dL_law_407 ?_
    refine hs_sld hC hW hX hbl hi1 dL_law_408 ?_
    refine lv_aload_n hx hb dL_law_409 rfl (lv_at hl 1 rfl) ?_
    refine lv_iload hx hb dL_law_410 (lv_at hl 5 rfl) ?_
    refine lv_iconst (v := 2) hx hb dL_law_412 (by decide) ?_
    refine lv_iadd hx hb dL_law_413 ?_
    refine hs_sld hC hW hX hbl hi2 dL_law_414 ?_
    refine lv_aload_n hx hb dL_law_415 rfl (lv_at hl 1 rfl) ?_
    refine lv_iload hx hb dL_law_416 (lv_at hl 5 rfl) ?_
    refine lv_iconst (v := 3) hx hb dL_law_418 (by decide) ?_
    refine lv_iadd hx hb dL_law_419 ?_
    refine hs_sld hC hW hX hbl hi3 dL_law_420 ?_
    refine lv_if_eq (tgt := 428) hx hb dL_law_421 (by decide) (fun c421 => ?_) (fun c421 => ?_)
    · refine lv_iconst (v := 0) hx hb dL_law_428 (by decide) ?_
      refine hs_callV hC hs_Tok hW hL (ct_X8_hold E mo ar ix sc mI mL G1 hS1.2.2.2.2.1 _ _ _ N1 d S1 hI1) cw_X8_hold lk_L_88 im_X8_hold se_X8_hold (hs_recv hC hW mo_obj rfl) hl.1 ⟨by decide, by decide, (by show cells + k + 0 ≤ 601024; omega), (by show slots + n + 0 ≤ 7293034; omega)⟩ (Nat.le_of_ble_eq_true rfl) dL_law_429 (lw_kI (dm2 := d) hS1 (fun v sc2 mI2 mL2 h => ⟨h.1, h.2.1⟩) (fun x sc2 mI2 mL2 H locs hI2 hS2 hW hL => ?_))
      refine lv_istore (lv' := [(6, .int _), (5, .int _), (0, .ref _), (1, .ref _), (2, .ref _), (3, .ref _), (4, .int _)]) hx hb dL_law_432 hl (by decide) rfl (fun ls hl => ?_)
      refine lv_goto (tgt := 855) hx hb dL_law_434 (by decide) ?_
      exact kk _ _ _ _ k n (by omega) (by omega) ⟨X, _, _, _, _, _, _, _, rfl, hS2, hR.of hI2.2.2⟩ hW hL (lv_sub hl [2, 3, 4, 5, 6] rfl)
    refine lv_iconst (v := 1) hx hb dL_law_424 (by decide) ?_
    refine lv_goto (tgt := 429) hx hb dL_law_425 (by decide) ?_
    refine hs_callV hC hs_Tok hW hL (ct_X8_hold E mo ar ix sc mI mL G1 hS1.2.2.2.2.1 _ _ _ N1 d S1 hI1) cw_X8_hold lk_L_88 im_X8_hold se_X8_hold (hs_recv hC hW mo_obj rfl) hl.1 ⟨by decide, by decide, (by show cells + k + 0 ≤ 601024; omega), (by show slots + n + 0 ≤ 7293034; omega)⟩ (Nat.le_of_ble_eq_true rfl) dL_law_429 (lw_kI (dm2 := d) hS1 (fun v sc2 mI2 mL2 h => ⟨h.1, h.2.1⟩) (fun x sc2 mI2 mL2 H locs hI2 hS2 hW hL => ?_))
    refine lv_istore (lv' := [(6, .int _), (5, .int _), (0, .ref _), (1, .ref _), (2, .ref _), (3, .ref _), (4, .int _)]) hx hb dL_law_432 hl (by decide) rfl (fun ls hl => ?_)
    refine lv_goto (tgt := 855) hx hb dL_law_434 (by decide) ?_
    exact kk _ _ _ _ k n (by omega) (by omega) ⟨X, _, _, _, _, _, _, _, rfl, hS2, hR.of hI2.2.2⟩ hW hL (lv_sub hl [2, 3, 4, 5, 6] rfl)
  refine lv_iconst (v := 1) hx hb dL_law_391 (by decide) ?_
  refine lv_goto (tgt := 396) hx hb dL_law_392 (by decide) ?_
  refine lv_aload_n hx hb dL_law_396 rfl (lv_at hl 3 rfl) ?_
  refine hs_callST hC hs_Tok hW hL (ct_L_hold E hST t cap X d G hT o f9 ho hto hos _ _ _ (by first | exact Or.inl rfl | exact Or.inr rfl)) cw_L_hold lk_L_85 st_L_hold hl.1 ⟨by decide, by decide, (by show cells + 1 ≤ 601024; omega), (by show slots + 6 ≤ 7293034; omega)⟩ (Nat.le_of_ble_eq_true rfl) dL_law_397 (hs_kI (fun z G1 k n H locs hI hk hn hW hL => ?_))
  replace hk : k ≤ 1 := hk
  replace hn : n ≤ 6 := hn
  obtain ⟨t1, cap1, f1, hS1⟩ := lw_cls hS (hI)
  obtain ⟨N1, S1, hI1⟩ := hS1.2.2.2.2.2.2.2.2.2.2
  replace hW := lw_W hS1 hW
  refine lv_istore (lv' := [(5, .int _), (0, .ref _), (1, .ref _), (2, .ref _), (3, .ref _), (4, .int _)]) hx hb dL_law_400 hl (by decide) rfl (fun ls hl => ?_)
  refine lv_aload_n hx hb dL_law_402 rfl (lv_at hl 3 rfl) ?_
  refine lv_aload_n hx hb dL_law_403 rfl (lv_at hl 1 rfl) ?_
  refine lv_iload hx hb dL_law_404 (lv_at hl 5 rfl) ?_
  refine lv_iconst (v := 1) hx hb dL_law_406 (by decide) ?_
  refine lv_iadd hx hb dL_law_407 ?_
  refine hs_sld hC hW hX hbl hi1 dL_law_408 ?_
  refine lv_aload_n hx hb dL_law_409 rfl (lv_at hl 1 rfl) ?_
  refine lv_iload hx hb dL_law_410 (lv_at hl 5 rfl) ?_
  refine lv_iconst (v := 2) hx hb dL_law_412 (by decide) ?_
  refine lv_iadd hx hb dL_law_413 ?_
  refine hs_sld hC hW hX hbl hi2 dL_law_414 ?_
  refine lv_aload_n hx hb dL_law_415 rfl (lv_at hl 1 rfl) ?_
  refine lv_iload hx hb dL_law_416 (lv_at hl 5 rfl) ?_
  refine lv_iconst (v := 3) hx hb dL_law_418 (by decide) ?_
  refine lv_iadd hx hb dL_law_419 ?_
  refine hs_sld hC hW hX hbl hi3 dL_law_420 ?_
  refine lv_if_eq (tgt := 428) hx hb dL_law_421 (by decide) (fun c421 => ?_) (fun c421 => ?_)
  · refine lv_iconst (v := 0) hx hb dL_law_428 (by decide) ?_
    refine hs_callV hC hs_Tok hW hL (ct_X8_hold E mo ar ix sc mI mL G1 hS1.2.2.2.2.1 _ _ _ N1 d S1 hI1) cw_X8_hold lk_L_88 im_X8_hold se_X8_hold (hs_recv hC hW mo_obj rfl) hl.1 ⟨by decide, by decide, (by show cells + k + 0 ≤ 601024; omega), (by show slots + n + 0 ≤ 7293034; omega)⟩ (Nat.le_of_ble_eq_true rfl) dL_law_429 (lw_kI (dm2 := d) hS1 (fun v sc2 mI2 mL2 h => ⟨h.1, h.2.1⟩) (fun x sc2 mI2 mL2 H locs hI2 hS2 hW hL => ?_))
    refine lv_istore (lv' := [(6, .int _), (5, .int _), (0, .ref _), (1, .ref _), (2, .ref _), (3, .ref _), (4, .int _)]) hx hb dL_law_432 hl (by decide) rfl (fun ls hl => ?_)
    refine lv_goto (tgt := 855) hx hb dL_law_434 (by decide) ?_
    exact kk _ _ _ _ k n (by omega) (by omega) ⟨X, _, _, _, _, _, _, _, rfl, hS2, hR.of hI2.2.2⟩ hW hL (lv_sub hl [2, 3, 4, 5, 6] rfl)
  refine lv_iconst (v := 1) hx hb dL_law_424 (by decide) ?_
  refine lv_goto (tgt := 429) hx hb dL_law_425 (by decide) ?_
  refine hs_callV hC hs_Tok hW hL (ct_X8_hold E mo ar ix sc mI mL G1 hS1.2.2.2.2.1 _ _ _ N1 d S1 hI1) cw_X8_hold lk_L_88 im_X8_hold se_X8_hold (hs_recv hC hW mo_obj rfl) hl.1 ⟨by decide, by decide, (by show cells + k + 0 ≤ 601024; omega), (by show slots + n + 0 ≤ 7293034; omega)⟩ (Nat.le_of_ble_eq_true rfl) dL_law_429 (lw_kI (dm2 := d) hS1 (fun v sc2 mI2 mL2 h => ⟨h.1, h.2.1⟩) (fun x sc2 mI2 mL2 H locs hI2 hS2 hW hL => ?_))
  refine lv_istore (lv' := [(6, .int _), (5, .int _), (0, .ref _), (1, .ref _), (2, .ref _), (3, .ref _), (4, .int _)]) hx hb dL_law_432 hl (by decide) rfl (fun ls hl => ?_)
  refine lv_goto (tgt := 855) hx hb dL_law_434 (by decide) ?_
  exact kk _ _ _ _ k n (by omega) (by omega) ⟨X, _, _, _, _, _, _, _, rfl, hS2, hR.of hI2.2.2⟩ hW hL (lv_sub hl [2, 3, 4, 5, 6] rfl)
set_option maxHeartbeats 4000000 in
set_option maxRecDepth 100000 in
theorem lw_case4 (E : hs_E) (hST : E.1.stackTraces = false) {p : Program} {e : Env} {s : State} {m : MethodId} {args : Array Value} {below : List Frame} {meth : Method} {c : Code} {Q : State → Prop} (hC : hs_C (eD E) vwCl (eT E) (eZ E) (eH E) hs_Ts p s m args c cL_law 8 RL) {b L : Nat} {xs : Nat → Int32} (hX : va_X b L xs s (eH E)) (hbl : b < (eH E).size) {i : Int32} (hi0 : vp_in (i) L) (hi1 : vp_in (i + 1) L) (hi2 : vp_in (i + 2) L) (hi3 : vp_in (i + 3) L) (hi4 : vp_in (i + 4) L) (hi5 : vp_in (i + 5) L) (hi6 : vp_in (i + 6) L) (hi7 : vp_in (i + 7) L) (hi8 : vp_in (i + 8) L) {x o mo : Nat} {ar : Nat → Nat} {ix : Nat → Option Nat} {G : hs_G} (hB : lw_B E x o mo ar ix G) {H : Heap} {locs : List Loc} {ls : Array Slot} {cells slots : Nat} (hW : hs_W (eD E) vwCl (eH E) G H) (hL : ∀ q ∈ locs, (eH E).size ≤ q.base) (hl : lv_has ls 8 [(0, .ref b), (1, .ref x), (2, .ref mo), (3, .ref o), (4, .int i)]) (hc9 : cells + 500 ≤ 601024) (hn9 : slots + 3000 ≤ 7293034)
    (kk : lw_Kk E p e s m args below meth c b i x o mo ar ix cells slots Q 855) : W p E.1 e room_1 s m args below meth c H locs cells slots Q (F0 m 437 ls []) := by
  obtain ⟨X, t, cap, d, sc, mI, mL, f9, rfl, hS, hR⟩ := hB
  obtain ⟨hx, hb, hml, hown, hts, -⟩ := id hC
  obtain ⟨hT, ho, hto, hos, -⟩ := id hS
  refine lv_aload_n hx hb dL_law_437 rfl (lv_at hl 1 rfl) ?_
  refine lv_aload_n hx hb dL_law_438 rfl (lv_at hl 0 rfl) ?_
  refine lv_iload hx hb dL_law_439 (lv_at hl 4 rfl) ?_
  refine lv_iconst (v := 1) hx hb dL_law_441 (by decide) ?_
  refine lv_iadd hx hb dL_law_442 ?_
  refine hs_sld hC hW hX hbl hi1 dL_law_443 ?_
  refine lv_aload_n hx hb dL_law_444 rfl (lv_at hl 0 rfl) ?_
  refine lv_iload hx hb dL_law_445 (lv_at hl 4 rfl) ?_
  refine lv_iconst (v := 2) hx hb dL_law_447 (by decide) ?_
  refine lv_iadd hx hb dL_law_448 ?_
  refine hs_sld hC hW hX hbl hi2 dL_law_449 ?_
  refine lv_aload_n hx hb dL_law_450 rfl (lv_at hl 0 rfl) ?_
  refine lv_iload hx hb dL_law_451 (lv_at hl 4 rfl) ?_
  refine lv_iconst (v := 3) hx hb dL_law_453 (by decide) ?_
  refine lv_iadd hx hb dL_law_454 ?_
  refine hs_sld hC hW hX hbl hi3 dL_law_455 ?_
  refine lv_if_eq (tgt := 463) hx hb dL_law_456 (by decide) (fun c456 => ?_) (fun c456 => ?_)
  · refine lv_iconst (v := 0) hx hb dL_law_463 (by decide) ?_
    refine lv_aload_n hx hb dL_law_464 rfl (lv_at hl 3 rfl) ?_
    refine hs_callST hC hs_Tok hW hL (ct_L_rank E hST t cap X d G hT o f9 ho hto hos _ _ _ (by first | exact Or.inl rfl | exact Or.inr rfl)) cw_L_rank lk_L_89 st_L_rank hl.1 ⟨by decide, by decide, (by show cells + 1 ≤ 601024; omega), (by show slots + 6 ≤ 7293034; omega)⟩ (Nat.le_of_ble_eq_true rfl) dL_law_465 (hs_kI (fun z G1 k n H locs hI hk hn hW hL => ?_))
    replace hk : k ≤ 1 := hk
    replace hn : n ≤ 6 := hn
    obtain ⟨t1, cap1, f1, hS1⟩ := lw_cls hS (hI)
    obtain ⟨N1, S1, hI1⟩ := hS1.2.2.2.2.2.2.2.2.2.2
    replace hW := lw_W hS1 hW
    refine lv_istore (lv' := [(5, .int _), (0, .ref _), (1, .ref _), (2, .ref _), (3, .ref _), (4, .int _)]) hx hb dL_law_468 hl (by decide) rfl (fun ls hl => ?_)
    refine lv_aload_n hx hb dL_law_470 rfl (lv_at hl 3 rfl) ?_
    refine lv_aload_n hx hb dL_law_471 rfl (lv_at hl 1 rfl) ?_
    refine lv_iload hx hb dL_law_472 (lv_at hl 5 rfl) ?_
    refine lv_iconst (v := 1) hx hb dL_law_474 (by decide) ?_
    refine lv_iadd hx hb dL_law_475 ?_
    refine hs_sld hC hW hX hbl hi1 dL_law_476 ?_
    refine lv_aload_n hx hb dL_law_477 rfl (lv_at hl 1 rfl) ?_
    refine lv_iload hx hb dL_law_478 (lv_at hl 5 rfl) ?_
    refine lv_iconst (v := 2) hx hb dL_law_480 (by decide) ?_
    refine lv_iadd hx hb dL_law_481 ?_
    refine hs_sld hC hW hX hbl hi2 dL_law_482 ?_
    refine lv_aload_n hx hb dL_law_483 rfl (lv_at hl 1 rfl) ?_
    refine lv_iload hx hb dL_law_484 (lv_at hl 5 rfl) ?_
    refine lv_iconst (v := 3) hx hb dL_law_486 (by decide) ?_
    refine lv_iadd hx hb dL_law_487 ?_
    refine hs_sld hC hW hX hbl hi3 dL_law_488 ?_
    refine lv_if_eq (tgt := 496) hx hb dL_law_489 (by decide) (fun c489 => ?_) (fun c489 => ?_)
    · refine lv_iconst (v := 0) hx hb dL_law_496 (by decide) ?_
      refine hs_callV hC hs_Tok hW hL (ct_X8_rank E mo ar ix sc mI mL G1 hS1.2.2.2.2.1 _ _ _ N1 d S1 hI1) cw_X8_rank lk_L_91 im_X8_rank se_X8_rank (hs_recv hC hW mo_obj rfl) hl.1 ⟨by decide, by decide, (by show cells + k + 0 ≤ 601024; omega), (by show slots + n + 0 ≤ 7293034; omega)⟩ (Nat.le_of_ble_eq_true rfl) dL_law_497 (lw_kI (dm2 := d) hS1 (fun v sc2 mI2 mL2 h => ⟨h.1, h.2.1⟩) (fun x sc2 mI2 mL2 H locs hI2 hS2 hW hL => ?_))
      refine lv_istore (lv' := [(6, .int _), (5, .int _), (0, .ref _), (1, .ref _), (2, .ref _), (3, .ref _), (4, .int _)]) hx hb dL_law_500 hl (by decide) rfl (fun ls hl => ?_)
      refine lv_goto (tgt := 855) hx hb dL_law_502 (by decide) ?_
      exact kk _ _ _ _ k n (by omega) (by omega) ⟨X, _, _, _, _, _, _, _, rfl, hS2, hR.of hI2.2.2⟩ hW hL (lv_sub hl [2, 3, 4, 5, 6] rfl)
    refine lv_iconst (v := 1) hx hb dL_law_492 (by decide) ?_
    refine lv_goto (tgt := 497) hx hb dL_law_493 (by decide) ?_
    refine hs_callV hC hs_Tok hW hL (ct_X8_rank E mo ar ix sc mI mL G1 hS1.2.2.2.2.1 _ _ _ N1 d S1 hI1) cw_X8_rank lk_L_91 im_X8_rank se_X8_rank (hs_recv hC hW mo_obj rfl) hl.1 ⟨by decide, by decide, (by show cells + k + 0 ≤ 601024; omega), (by show slots + n + 0 ≤ 7293034; omega)⟩ (Nat.le_of_ble_eq_true rfl) dL_law_497 (lw_kI (dm2 := d) hS1 (fun v sc2 mI2 mL2 h => ⟨h.1, h.2.1⟩) (fun x sc2 mI2 mL2 H locs hI2 hS2 hW hL => ?_))
    refine lv_istore (lv' := [(6, .int _), (5, .int _), (0, .ref _), (1, .ref _), (2, .ref _), (3, .ref _), (4, .int _)]) hx hb dL_law_500 hl (by decide) rfl (fun ls hl => ?_)
    refine lv_goto (tgt := 855) hx hb dL_law_502 (by decide) ?_
    exact kk _ _ _ _ k n (by omega) (by omega) ⟨X, _, _, _, _, _, _, _, rfl, hS2, hR.of hI2.2.2⟩ hW hL (lv_sub hl [2, 3, 4, 5, 6] rfl)
  refine lv_iconst (v := 1) hx hb dL_law_459 (by decide) ?_
  refine lv_goto (tgt := 464) hx hb dL_law_460 (by decide) ?_
  refine lv_aload_n hx hb dL_law_464 rfl (lv_at hl 3 rfl) ?_
  refine hs_callST hC hs_Tok hW hL (ct_L_rank E hST t cap X d G hT o f9 ho hto hos _ _ _ (by first | exact Or.inl rfl | exact Or.inr rfl)) cw_L_rank lk_L_89 st_L_rank hl.1 ⟨by decide, by decide, (by show cells + 1 ≤ 601024; omega), (by show slots + 6 ≤ 7293034; omega)⟩ (Nat.le_of_ble_eq_true rfl) dL_law_465 (hs_kI (fun z G1 k n H locs hI hk hn hW hL => ?_))
  replace hk : k ≤ 1 := hk
  replace hn : n ≤ 6 := hn
  obtain ⟨t1, cap1, f1, hS1⟩ := lw_cls hS (hI)
  obtain ⟨N1, S1, hI1⟩ := hS1.2.2.2.2.2.2.2.2.2.2
  replace hW := lw_W hS1 hW
  refine lv_istore (lv' := [(5, .int _), (0, .ref _), (1, .ref _), (2, .ref _), (3, .ref _), (4, .int _)]) hx hb dL_law_468 hl (by decide) rfl (fun ls hl => ?_)
  refine lv_aload_n hx hb dL_law_470 rfl (lv_at hl 3 rfl) ?_
  refine lv_aload_n hx hb dL_law_471 rfl (lv_at hl 1 rfl) ?_
  refine lv_iload hx hb dL_law_472 (lv_at hl 5 rfl) ?_
  refine lv_iconst (v := 1) hx hb dL_law_474 (by decide) ?_
  refine lv_iadd hx hb dL_law_475 ?_
  refine hs_sld hC hW hX hbl hi1 dL_law_476 ?_
  refine lv_aload_n hx hb dL_law_477 rfl (lv_at hl 1 rfl) ?_
  refine lv_iload hx hb dL_law_478 (lv_at hl 5 rfl) ?_
  refine lv_iconst (v := 2) hx hb dL_law_480 (by decide) ?_
  refine lv_iadd hx hb dL_law_481 ?_
  refine hs_sld hC hW hX hbl hi2 dL_law_482 ?_
  refine lv_aload_n hx hb dL_law_483 rfl (lv_at hl 1 rfl) ?_
  refine lv_iload hx hb dL_law_484 (lv_at hl 5 rfl) ?_
  refine lv_iconst (v := 3) hx hb dL_law_486 (by decide) ?_
  refine lv_iadd hx hb dL_law_487 ?_
  refine hs_sld hC hW hX hbl hi3 dL_law_488 ?_
  refine lv_if_eq (tgt := 496) hx hb dL_law_489 (by decide) (fun c489 => ?_) (fun c489 => ?_)
  · refine lv_iconst (v := 0) hx hb dL_law_496 (by decide) ?_
    refine hs_callV hC hs_Tok hW hL (ct_X8_rank E mo ar ix sc mI mL G1 hS1.2.2.2.2.1 _ _ _ N1 d S1 hI1) cw_X8_rank lk_L_91 im_X8_rank se_X8_rank (hs_recv hC hW mo_obj rfl) hl.1 ⟨by decide, by decide, (by show cells + k + 0 ≤ 601024; omega), (by show slots + n + 0 ≤ 7293034; omega)⟩ (Nat.le_of_ble_eq_true rfl) dL_law_497 (lw_kI (dm2 := d) hS1 (fun v sc2 mI2 mL2 h => ⟨h.1, h.2.1⟩) (fun x sc2 mI2 mL2 H locs hI2 hS2 hW hL => ?_))
    refine lv_istore (lv' := [(6, .int _), (5, .int _), (0, .ref _), (1, .ref _), (2, .ref _), (3, .ref _), (4, .int _)]) hx hb dL_law_500 hl (by decide) rfl (fun ls hl => ?_)
    refine lv_goto (tgt := 855) hx hb dL_law_502 (by decide) ?_
    exact kk _ _ _ _ k n (by omega) (by omega) ⟨X, _, _, _, _, _, _, _, rfl, hS2, hR.of hI2.2.2⟩ hW hL (lv_sub hl [2, 3, 4, 5, 6] rfl)
  refine lv_iconst (v := 1) hx hb dL_law_492 (by decide) ?_
  refine lv_goto (tgt := 497) hx hb dL_law_493 (by decide) ?_
  refine hs_callV hC hs_Tok hW hL (ct_X8_rank E mo ar ix sc mI mL G1 hS1.2.2.2.2.1 _ _ _ N1 d S1 hI1) cw_X8_rank lk_L_91 im_X8_rank se_X8_rank (hs_recv hC hW mo_obj rfl) hl.1 ⟨by decide, by decide, (by show cells + k + 0 ≤ 601024; omega), (by show slots + n + 0 ≤ 7293034; omega)⟩ (Nat.le_of_ble_eq_true rfl) dL_law_497 (lw_kI (dm2 := d) hS1 (fun v sc2 mI2 mL2 h => ⟨h.1, h.2.1⟩) (fun x sc2 mI2 mL2 H locs hI2 hS2 hW hL => ?_))
  refine lv_istore (lv' := [(6, .int _), (5, .int _), (0, .ref _), (1, .ref _), (2, .ref _), (3, .ref _), (4, .int _)]) hx hb dL_law_500 hl (by decide) rfl (fun ls hl => ?_)
  refine lv_goto (tgt := 855) hx hb dL_law_502 (by decide) ?_
  exact kk _ _ _ _ k n (by omega) (by omega) ⟨X, _, _, _, _, _, _, _, rfl, hS2, hR.of hI2.2.2⟩ hW hL (lv_sub hl [2, 3, 4, 5, 6] rfl)
set_option maxHeartbeats 4000000 in
set_option maxRecDepth 100000 in
theorem lw_case5 (E : hs_E) (hST : E.1.stackTraces = false) {p : Program} {e : Env} {s : State} {m : MethodId} {args : Array Value} {below : List Frame} {meth : Method} {c : Code} {Q : State → Prop} (hC : hs_C (eD E) vwCl (eT E) (eZ E) (eH E) hs_Ts p s m args c cL_law 8 RL) {b L : Nat} {xs : Nat → Int32} (hX : va_X b L xs s (eH E)) (hbl : b < (eH E).size) {i : Int32} (hi0 : vp_in (i) L) (hi1 : vp_in (i + 1) L) (hi2 : vp_in (i + 2) L) (hi3 : vp_in (i + 3) L) (hi4 : vp_in (i + 4) L) (hi5 : vp_in (i + 5) L) (hi6 : vp_in (i + 6) L) (hi7 : vp_in (i + 7) L) (hi8 : vp_in (i + 8) L) {x o mo : Nat} {ar : Nat → Nat} {ix : Nat → Option Nat} {G : hs_G} (hB : lw_B E x o mo ar ix G) {H : Heap} {locs : List Loc} {ls : Array Slot} {cells slots : Nat} (hW : hs_W (eD E) vwCl (eH E) G H) (hL : ∀ q ∈ locs, (eH E).size ≤ q.base) (hl : lv_has ls 8 [(0, .ref b), (1, .ref x), (2, .ref mo), (3, .ref o), (4, .int i)]) (hc9 : cells + 500 ≤ 601024) (hn9 : slots + 3000 ≤ 7293034)
    (kk : lw_Kk E p e s m args below meth c b i x o mo ar ix cells slots Q 855) : W p E.1 e room_1 s m args below meth c H locs cells slots Q (F0 m 505 ls []) := by
  obtain ⟨X, t, cap, d, sc, mI, mL, f9, rfl, hS, hR⟩ := hB
  obtain ⟨hx, hb, hml, hown, hts, -⟩ := id hC
  obtain ⟨hT, ho, hto, hos, -⟩ := id hS
  refine lv_aload_n hx hb dL_law_505 rfl (lv_at hl 1 rfl) ?_
  refine lv_aload_n hx hb dL_law_506 rfl (lv_at hl 0 rfl) ?_
  refine lv_iload hx hb dL_law_507 (lv_at hl 4 rfl) ?_
  refine lv_iconst (v := 1) hx hb dL_law_509 (by decide) ?_
  refine lv_iadd hx hb dL_law_510 ?_
  refine hs_sld hC hW hX hbl hi1 dL_law_511 ?_
  refine lv_aload_n hx hb dL_law_512 rfl (lv_at hl 0 rfl) ?_
  refine lv_iload hx hb dL_law_513 (lv_at hl 4 rfl) ?_
  refine lv_iconst (v := 2) hx hb dL_law_515 (by decide) ?_
  refine lv_iadd hx hb dL_law_516 ?_
  refine hs_sld hC hW hX hbl hi2 dL_law_517 ?_
  refine lv_aload_n hx hb dL_law_518 rfl (lv_at hl 3 rfl) ?_
  refine hs_callST hC hs_Tok hW hL (ct_L_link E hST t cap X d G hT o f9 ho hto hos _ _) cw_L_link lk_L_92 st_L_link hl.1 ⟨by decide, by decide, (by show cells + 6 ≤ 601024; omega), (by show slots + 1380 ≤ 7293034; omega)⟩ (Nat.le_of_ble_eq_true rfl) dL_law_519 (hs_kI (fun z G1 k n H locs hI hk hn hW hL => ?_))
  replace hk : k ≤ 6 := hk
  replace hn : n ≤ 1380 := hn
  obtain ⟨t1, cap1, f1, hS1⟩ := lw_cls hS (hI)
  obtain ⟨N1, S1, hI1⟩ := hS1.2.2.2.2.2.2.2.2.2.2
  replace hW := lw_W hS1 hW
  refine lv_istore (lv' := [(5, .int _), (0, .ref _), (1, .ref _), (2, .ref _), (3, .ref _), (4, .int _)]) hx hb dL_law_522 hl (by decide) rfl (fun ls hl => ?_)
  refine lv_aload_n hx hb dL_law_524 rfl (lv_at hl 3 rfl) ?_
  refine lv_aload_n hx hb dL_law_525 rfl (lv_at hl 1 rfl) ?_
  refine lv_iload hx hb dL_law_526 (lv_at hl 5 rfl) ?_
  refine lv_iconst (v := 1) hx hb dL_law_528 (by decide) ?_
  refine lv_iadd hx hb dL_law_529 ?_
  refine hs_sld hC hW hX hbl hi1 dL_law_530 ?_
  refine lv_aload_n hx hb dL_law_531 rfl (lv_at hl 1 rfl) ?_
  refine lv_iload hx hb dL_law_532 (lv_at hl 5 rfl) ?_
  refine lv_iconst (v := 2) hx hb dL_law_534 (by decide) ?_
  refine lv_iadd hx hb dL_law_535 ?_
  refine hs_sld hC hW hX hbl hi2 dL_law_536 ?_
  refine hs_callV hC hs_Tok hW hL (ct_X8_link E mo ar ix sc mI mL G1 hS1.2.2.2.2.1 _ _ N1 d S1 hI1) cw_X8_link lk_L_95 im_X8_link se_X8_link (hs_recv hC hW mo_obj rfl) hl.1 ⟨by decide, by decide, (by show cells + k + 0 ≤ 601024; omega), (by show slots + n + 0 ≤ 7293034; omega)⟩ (Nat.le_of_ble_eq_true rfl) dL_law_537 (lw_kI (dm2 := d) hS1 (fun v sc2 mI2 mL2 h => ⟨h.1, h.2.2⟩) (fun x sc2 mI2 mL2 H locs hI2 hS2 hW hL => ?_))
  refine lv_istore (lv' := [(6, .int _), (5, .int _), (0, .ref _), (1, .ref _), (2, .ref _), (3, .ref _), (4, .int _)]) hx hb dL_law_540 hl (by decide) rfl (fun ls hl => ?_)
  refine lv_goto (tgt := 855) hx hb dL_law_542 (by decide) ?_
  exact kk _ _ _ _ k n (by omega) (by omega) ⟨X, _, _, _, _, _, _, _, rfl, hS2, hR.of hI2.2.1⟩ hW hL (lv_sub hl [2, 3, 4, 5, 6] rfl)
set_option maxHeartbeats 4000000 in
set_option maxRecDepth 100000 in
theorem lw_case6 (E : hs_E) (hST : E.1.stackTraces = false) {p : Program} {e : Env} {s : State} {m : MethodId} {args : Array Value} {below : List Frame} {meth : Method} {c : Code} {Q : State → Prop} (hC : hs_C (eD E) vwCl (eT E) (eZ E) (eH E) hs_Ts p s m args c cL_law 8 RL) {b L : Nat} {xs : Nat → Int32} (hX : va_X b L xs s (eH E)) (hbl : b < (eH E).size) {i : Int32} (hi0 : vp_in (i) L) (hi1 : vp_in (i + 1) L) (hi2 : vp_in (i + 2) L) (hi3 : vp_in (i + 3) L) (hi4 : vp_in (i + 4) L) (hi5 : vp_in (i + 5) L) (hi6 : vp_in (i + 6) L) (hi7 : vp_in (i + 7) L) (hi8 : vp_in (i + 8) L) {x o mo : Nat} {ar : Nat → Nat} {ix : Nat → Option Nat} {G : hs_G} (hB : lw_B E x o mo ar ix G) {H : Heap} {locs : List Loc} {ls : Array Slot} {cells slots : Nat} (hW : hs_W (eD E) vwCl (eH E) G H) (hL : ∀ q ∈ locs, (eH E).size ≤ q.base) (hl : lv_has ls 8 [(0, .ref b), (1, .ref x), (2, .ref mo), (3, .ref o), (4, .int i)]) (hc9 : cells + 500 ≤ 601024) (hn9 : slots + 3000 ≤ 7293034)
    (kk : lw_Kk E p e s m args below meth c b i x o mo ar ix cells slots Q 855) : W p E.1 e room_1 s m args below meth c H locs cells slots Q (F0 m 545 ls []) := by
  obtain ⟨X, t, cap, d, sc, mI, mL, f9, rfl, hS, hR⟩ := hB
  obtain ⟨hx, hb, hml, hown, hts, -⟩ := id hC
  obtain ⟨hT, ho, hto, hos, -⟩ := id hS
  refine lv_aload_n hx hb dL_law_545 rfl (lv_at hl 1 rfl) ?_
  refine lv_aload_n hx hb dL_law_546 rfl (lv_at hl 0 rfl) ?_
  refine lv_iload hx hb dL_law_547 (lv_at hl 4 rfl) ?_
  refine lv_iconst (v := 1) hx hb dL_law_549 (by decide) ?_
  refine lv_iadd hx hb dL_law_550 ?_
  refine hs_sld hC hW hX hbl hi1 dL_law_551 ?_
  refine lv_aload_n hx hb dL_law_552 rfl (lv_at hl 0 rfl) ?_
  refine lv_iload hx hb dL_law_553 (lv_at hl 4 rfl) ?_
  refine lv_iconst (v := 2) hx hb dL_law_555 (by decide) ?_
  refine lv_iadd hx hb dL_law_556 ?_
  refine hs_sld hC hW hX hbl hi2 dL_law_557 ?_
  refine lv_aload_n hx hb dL_law_558 rfl (lv_at hl 3 rfl) ?_
  refine hs_callST hC hs_Tok hW hL (ct_L_cancel E hST t cap X d G hT o f9 ho hto hos _ _) cw_L_cancel lk_L_96 st_L_cancel hl.1 ⟨by decide, by decide, (by show cells + 1 ≤ 601024; omega), (by show slots + 6 ≤ 7293034; omega)⟩ (Nat.le_of_ble_eq_true rfl) dL_law_559 (hs_kI (fun z G1 k n H locs hI hk hn hW hL => ?_))
  replace hk : k ≤ 1 := hk
  replace hn : n ≤ 6 := hn
  obtain ⟨t1, cap1, f1, hS1⟩ := lw_cls hS (hI)
  obtain ⟨N1, S1, hI1⟩ := hS1.2.2.2.2.2.2.2.2.2.2
  replace hW := lw_W hS1 hW
  refine lv_istore (lv' := [(5, .int _), (0, .ref _), (1, .ref _), (2, .ref _), (3, .ref _), (4, .int _)]) hx hb dL_law_562 hl (by decide) rfl (fun ls hl => ?_)
  refine lv_aload_n hx hb dL_law_564 rfl (lv_at hl 3 rfl) ?_
  refine lv_aload_n hx hb dL_law_565 rfl (lv_at hl 1 rfl) ?_
  refine lv_iload hx hb dL_law_566 (lv_at hl 5 rfl) ?_
  refine lv_iconst (v := 1) hx hb dL_law_568 (by decide) ?_
  refine lv_iadd hx hb dL_law_569 ?_
  refine hs_sld hC hW hX hbl hi1 dL_law_570 ?_
  refine lv_aload_n hx hb dL_law_571 rfl (lv_at hl 1 rfl) ?_
  refine lv_iload hx hb dL_law_572 (lv_at hl 5 rfl) ?_
  refine lv_iconst (v := 2) hx hb dL_law_574 (by decide) ?_
  refine lv_iadd hx hb dL_law_575 ?_
  refine hs_sld hC hW hX hbl hi2 dL_law_576 ?_
  refine hs_callV hC hs_Tok hW hL (ct_X8_cancel E mo ar ix sc mI mL G1 hS1.2.2.2.2.1 _ _ N1 d S1 hI1) cw_X8_cancel lk_L_98 im_X8_cancel se_X8_cancel (hs_recv hC hW mo_obj rfl) hl.1 ⟨by decide, by decide, (by show cells + k + 0 ≤ 601024; omega), (by show slots + n + 0 ≤ 7293034; omega)⟩ (Nat.le_of_ble_eq_true rfl) dL_law_577 (lw_kI (dm2 := d) hS1 (fun v sc2 mI2 mL2 h => ⟨h.1, h.2.1⟩) (fun x sc2 mI2 mL2 H locs hI2 hS2 hW hL => ?_))
  refine lv_istore (lv' := [(6, .int _), (5, .int _), (0, .ref _), (1, .ref _), (2, .ref _), (3, .ref _), (4, .int _)]) hx hb dL_law_580 hl (by decide) rfl (fun ls hl => ?_)
  refine lv_goto (tgt := 855) hx hb dL_law_582 (by decide) ?_
  exact kk _ _ _ _ k n (by omega) (by omega) ⟨X, _, _, _, _, _, _, _, rfl, hS2, hR.of hI2.2.2⟩ hW hL (lv_sub hl [2, 3, 4, 5, 6] rfl)
set_option maxHeartbeats 4000000 in
set_option maxRecDepth 100000 in
theorem lw_case7 (E : hs_E) (hST : E.1.stackTraces = false) {p : Program} {e : Env} {s : State} {m : MethodId} {args : Array Value} {below : List Frame} {meth : Method} {c : Code} {Q : State → Prop} (hC : hs_C (eD E) vwCl (eT E) (eZ E) (eH E) hs_Ts p s m args c cL_law 8 RL) {b L : Nat} {xs : Nat → Int32} (hX : va_X b L xs s (eH E)) (hbl : b < (eH E).size) {i : Int32} (hi0 : vp_in (i) L) (hi1 : vp_in (i + 1) L) (hi2 : vp_in (i + 2) L) (hi3 : vp_in (i + 3) L) (hi4 : vp_in (i + 4) L) (hi5 : vp_in (i + 5) L) (hi6 : vp_in (i + 6) L) (hi7 : vp_in (i + 7) L) (hi8 : vp_in (i + 8) L) {x o mo : Nat} {ar : Nat → Nat} {ix : Nat → Option Nat} {G : hs_G} (hB : lw_B E x o mo ar ix G) {H : Heap} {locs : List Loc} {ls : Array Slot} {cells slots : Nat} (hW : hs_W (eD E) vwCl (eH E) G H) (hL : ∀ q ∈ locs, (eH E).size ≤ q.base) (hl : lv_has ls 8 [(0, .ref b), (1, .ref x), (2, .ref mo), (3, .ref o), (4, .int i)]) (hc9 : cells + 500 ≤ 601024) (hn9 : slots + 3000 ≤ 7293034)
    (kk : lw_Kk E p e s m args below meth c b i x o mo ar ix cells slots Q 855) : W p E.1 e room_1 s m args below meth c H locs cells slots Q (F0 m 585 ls []) := by
  obtain ⟨X, t, cap, d, sc, mI, mL, f9, rfl, hS, hR⟩ := hB
  obtain ⟨hx, hb, hml, hown, hts, -⟩ := id hC
  obtain ⟨hT, ho, hto, hos, -⟩ := id hS
  refine lv_aload_n hx hb dL_law_585 rfl (lv_at hl 1 rfl) ?_
  refine lv_aload_n hx hb dL_law_586 rfl (lv_at hl 3 rfl) ?_
  refine hs_callST hC hs_Tok hW hL (ct_L_nextDay E hST t cap X d G hT o f9 ho hto hos ) cw_L_nextDay lk_L_99 st_L_nextDay hl.1 ⟨by decide, by decide, (by show cells + 230 ≤ 601024; omega), (by show slots + 1130 ≤ 7293034; omega)⟩ (Nat.le_of_ble_eq_true rfl) dL_law_587 (hs_kI (fun z G1 k n H locs hI hk hn hW hL => ?_))
  replace hk : k ≤ 230 := hk
  replace hn : n ≤ 1130 := hn
  obtain ⟨t1, cap1, f1, hS1⟩ := lw_cls hS (hI)
  obtain ⟨N1, S1, hI1⟩ := hS1.2.2.2.2.2.2.2.2.2.2
  replace hW := lw_W hS1 hW
  refine lv_istore (lv' := [(5, .int _), (0, .ref _), (1, .ref _), (2, .ref _), (3, .ref _), (4, .int _)]) hx hb dL_law_590 hl (by decide) rfl (fun ls hl => ?_)
  refine lv_aload_n hx hb dL_law_592 rfl (lv_at hl 3 rfl) ?_
  refine hs_callV hC hs_Tok hW hL (ct_X8_nextDay E mo ar ix sc mI mL G1 hS1.2.2.2.2.1  N1 d S1 hI1) cw_X8_nextDay lk_L_102 im_X8_nextDay se_X8_nextDay (hs_recv hC hW mo_obj rfl) hl.1 ⟨by decide, by decide, (by show cells + k + 0 ≤ 601024; omega), (by show slots + n + 0 ≤ 7293034; omega)⟩ (Nat.le_of_ble_eq_true rfl) dL_law_593 (lw_kI (dm2 := if d < 20000 then d + 1 else d) hS1 (fun v sc2 mI2 mL2 h => ⟨h.1, h.2.2⟩) (fun x sc2 mI2 mL2 H locs hI2 hS2 hW hL => ?_))
  refine lv_istore (lv' := [(6, .int _), (5, .int _), (0, .ref _), (1, .ref _), (2, .ref _), (3, .ref _), (4, .int _)]) hx hb dL_law_596 hl (by decide) rfl (fun ls hl => ?_)
  refine lv_goto (tgt := 855) hx hb dL_law_598 (by decide) ?_
  exact kk _ _ _ _ k n (by omega) (by omega) ⟨X, _, _, _, _, _, _, _, rfl, hS2, hR.of hI2.2.1⟩ hW hL (lv_sub hl [2, 3, 4, 5, 6] rfl)
set_option maxHeartbeats 4000000 in
set_option maxRecDepth 100000 in
theorem lw_case8 (E : hs_E) (hST : E.1.stackTraces = false) {p : Program} {e : Env} {s : State} {m : MethodId} {args : Array Value} {below : List Frame} {meth : Method} {c : Code} {Q : State → Prop} (hC : hs_C (eD E) vwCl (eT E) (eZ E) (eH E) hs_Ts p s m args c cL_law 8 RL) {b L : Nat} {xs : Nat → Int32} (hX : va_X b L xs s (eH E)) (hbl : b < (eH E).size) {i : Int32} (hi0 : vp_in (i) L) (hi1 : vp_in (i + 1) L) (hi2 : vp_in (i + 2) L) (hi3 : vp_in (i + 3) L) (hi4 : vp_in (i + 4) L) (hi5 : vp_in (i + 5) L) (hi6 : vp_in (i + 6) L) (hi7 : vp_in (i + 7) L) (hi8 : vp_in (i + 8) L) {x o mo : Nat} {ar : Nat → Nat} {ix : Nat → Option Nat} {G : hs_G} (hB : lw_B E x o mo ar ix G) {H : Heap} {locs : List Loc} {ls : Array Slot} {cells slots : Nat} (hW : hs_W (eD E) vwCl (eH E) G H) (hL : ∀ q ∈ locs, (eH E).size ≤ q.base) (hl : lv_has ls 8 [(0, .ref b), (1, .ref x), (2, .ref mo), (3, .ref o), (4, .int i)]) (hc9 : cells + 500 ≤ 601024) (hn9 : slots + 3000 ≤ 7293034)
    (kk : lw_Kk E p e s m args below meth c b i x o mo ar ix cells slots Q 855) : W p E.1 e room_1 s m args below meth c H locs cells slots Q (F0 m 601 ls []) := by
  obtain ⟨X, t, cap, d, sc, mI, mL, f9, rfl, hS, hR⟩ := hB
  obtain ⟨hx, hb, hml, hown, hts, -⟩ := id hC
  obtain ⟨hT, ho, hto, hos, -⟩ := id hS
  refine lv_aload_n hx hb dL_law_601 rfl (lv_at hl 1 rfl) ?_
  refine lv_aload_n hx hb dL_law_602 rfl (lv_at hl 0 rfl) ?_
  refine lv_iload hx hb dL_law_603 (lv_at hl 4 rfl) ?_
  refine lv_iconst (v := 1) hx hb dL_law_605 (by decide) ?_
  refine lv_iadd hx hb dL_law_606 ?_
  refine hs_sld hC hW hX hbl hi1 dL_law_607 ?_
  refine lv_aload_n hx hb dL_law_608 rfl (lv_at hl 3 rfl) ?_
  refine hs_callST hC hs_Tok hW hL (ct_L_goTo E hST t cap X d G hT o f9 ho hto hos _) cw_L_goTo lk_L_103 st_L_goTo hl.1 ⟨by decide, by decide, (by show cells + 460 ≤ 601024; omega), (by show slots + 2030 ≤ 7293034; omega)⟩ (Nat.le_of_ble_eq_true rfl) dL_law_609 (hs_kI (fun z G1 k n H locs hI hk hn hW hL => ?_))
  replace hk : k ≤ 460 := hk
  replace hn : n ≤ 2030 := hn
  obtain ⟨t1, cap1, f1, hS1⟩ := lw_cls hS (hI)
  obtain ⟨N1, S1, hI1⟩ := hS1.2.2.2.2.2.2.2.2.2.2
  replace hW := lw_W hS1 hW
  refine lv_istore (lv' := [(5, .int _), (0, .ref _), (1, .ref _), (2, .ref _), (3, .ref _), (4, .int _)]) hx hb dL_law_612 hl (by decide) rfl (fun ls hl => ?_)
  refine lv_aload_n hx hb dL_law_614 rfl (lv_at hl 3 rfl) ?_
  refine lv_aload_n hx hb dL_law_615 rfl (lv_at hl 1 rfl) ?_
  refine lv_iload hx hb dL_law_616 (lv_at hl 5 rfl) ?_
  refine lv_iconst (v := 1) hx hb dL_law_618 (by decide) ?_
  refine lv_iadd hx hb dL_law_619 ?_
  refine hs_sld hC hW hX hbl hi1 dL_law_620 ?_
  refine hs_callV hC hs_Tok hW hL (ct_X8_goTo E mo ar ix sc mI mL G1 hS1.2.2.2.2.1 _ N1 d S1 hI1) cw_X8_goTo lk_L_105 im_X8_goTo se_X8_goTo (hs_recv hC hW mo_obj rfl) hl.1 ⟨by decide, by decide, (by show cells + k + 0 ≤ 601024; omega), (by show slots + n + 0 ≤ 7293034; omega)⟩ (Nat.le_of_ble_eq_true rfl) dL_law_621 (lw_kI (dm2 := mo_go d _) hS1 (fun v sc2 mI2 mL2 h => ⟨h.1, h.2.2⟩) (fun x sc2 mI2 mL2 H locs hI2 hS2 hW hL => ?_))
  refine lv_istore (lv' := [(6, .int _), (5, .int _), (0, .ref _), (1, .ref _), (2, .ref _), (3, .ref _), (4, .int _)]) hx hb dL_law_624 hl (by decide) rfl (fun ls hl => ?_)
  refine lv_goto (tgt := 855) hx hb dL_law_626 (by decide) ?_
  exact kk _ _ _ _ k n (by omega) (by omega) ⟨X, _, _, _, _, _, _, _, rfl, hS2, hR.of hI2.2.1⟩ hW hL (lv_sub hl [2, 3, 4, 5, 6] rfl)
set_option maxHeartbeats 4000000 in
set_option maxRecDepth 100000 in
theorem lw_case9 (E : hs_E) (hST : E.1.stackTraces = false) {p : Program} {e : Env} {s : State} {m : MethodId} {args : Array Value} {below : List Frame} {meth : Method} {c : Code} {Q : State → Prop} (hC : hs_C (eD E) vwCl (eT E) (eZ E) (eH E) hs_Ts p s m args c cL_law 8 RL) {b L : Nat} {xs : Nat → Int32} (hX : va_X b L xs s (eH E)) (hbl : b < (eH E).size) {i : Int32} (hi0 : vp_in (i) L) (hi1 : vp_in (i + 1) L) (hi2 : vp_in (i + 2) L) (hi3 : vp_in (i + 3) L) (hi4 : vp_in (i + 4) L) (hi5 : vp_in (i + 5) L) (hi6 : vp_in (i + 6) L) (hi7 : vp_in (i + 7) L) (hi8 : vp_in (i + 8) L) {x o mo : Nat} {ar : Nat → Nat} {ix : Nat → Option Nat} {G : hs_G} (hB : lw_B E x o mo ar ix G) {H : Heap} {locs : List Loc} {ls : Array Slot} {cells slots : Nat} (hW : hs_W (eD E) vwCl (eH E) G H) (hL : ∀ q ∈ locs, (eH E).size ≤ q.base) (hl : lv_has ls 8 [(0, .ref b), (1, .ref x), (2, .ref mo), (3, .ref o), (4, .int i)]) (hc9 : cells + 500 ≤ 601024) (hn9 : slots + 3000 ≤ 7293034)
    (kk : lw_Kk E p e s m args below meth c b i x o mo ar ix cells slots Q 855) : W p E.1 e room_1 s m args below meth c H locs cells slots Q (F0 m 629 ls []) := by
  obtain ⟨X, t, cap, d, sc, mI, mL, f9, rfl, hS, hR⟩ := hB
  obtain ⟨hx, hb, hml, hown, hts, -⟩ := id hC
  obtain ⟨hT, ho, hto, hos, -⟩ := id hS
  refine lv_aload_n hx hb dL_law_629 rfl (lv_at hl 1 rfl) ?_
  refine lv_aload_n hx hb dL_law_630 rfl (lv_at hl 0 rfl) ?_
  refine lv_iload hx hb dL_law_631 (lv_at hl 4 rfl) ?_
  refine lv_iconst (v := 1) hx hb dL_law_633 (by decide) ?_
  refine lv_iadd hx hb dL_law_634 ?_
  refine hs_sld hC hW hX hbl hi1 dL_law_635 ?_
  refine lv_aload_n hx hb dL_law_636 rfl (lv_at hl 0 rfl) ?_
  refine lv_iload hx hb dL_law_637 (lv_at hl 4 rfl) ?_
  refine lv_iconst (v := 2) hx hb dL_law_639 (by decide) ?_
  refine lv_iadd hx hb dL_law_640 ?_
  refine hs_sld hC hW hX hbl hi2 dL_law_641 ?_
  refine lv_aload_n hx hb dL_law_642 rfl (lv_at hl 3 rfl) ?_
  refine hs_callST hC hs_Tok hW hL (ct_L_has E hST t cap X d G hT o f9 ho hto hos _ _) cw_L_has lk_L_106 st_L_has hl.1 ⟨by decide, by decide, (by show cells + 1 ≤ 601024; omega), (by show slots + 6 ≤ 7293034; omega)⟩ (Nat.le_of_ble_eq_true rfl) dL_law_643 (hs_kI (fun z G1 k n H locs hI hk hn hW hL => ?_))
  replace hk : k ≤ 1 := hk
  replace hn : n ≤ 6 := hn
  obtain ⟨t1, cap1, f1, hS1⟩ := lw_cls hS (hI)
  obtain ⟨N1, S1, hI1⟩ := hS1.2.2.2.2.2.2.2.2.2.2
  replace hW := lw_W hS1 hW
  refine lv_istore (lv' := [(5, .int _), (0, .ref _), (1, .ref _), (2, .ref _), (3, .ref _), (4, .int _)]) hx hb dL_law_646 hl (by decide) rfl (fun ls hl => ?_)
  refine lv_aload_n hx hb dL_law_648 rfl (lv_at hl 3 rfl) ?_
  refine lv_aload_n hx hb dL_law_649 rfl (lv_at hl 1 rfl) ?_
  refine lv_iload hx hb dL_law_650 (lv_at hl 5 rfl) ?_
  refine lv_iconst (v := 1) hx hb dL_law_652 (by decide) ?_
  refine lv_iadd hx hb dL_law_653 ?_
  refine hs_sld hC hW hX hbl hi1 dL_law_654 ?_
  refine lv_aload_n hx hb dL_law_655 rfl (lv_at hl 1 rfl) ?_
  refine lv_iload hx hb dL_law_656 (lv_at hl 5 rfl) ?_
  refine lv_iconst (v := 2) hx hb dL_law_658 (by decide) ?_
  refine lv_iadd hx hb dL_law_659 ?_
  refine hs_sld hC hW hX hbl hi2 dL_law_660 ?_
  refine hs_callV hC hs_Tok hW hL (ct_X8_has E mo ar ix sc mI mL G1 hS1.2.2.2.2.1 _ _) cw_X8_has lk_L_108 im_X8_has se_X8_has (hs_recv hC hW mo_obj rfl) hl.1 ⟨by decide, by decide, (by show cells + k + 0 ≤ 601024; omega), (by show slots + n + 0 ≤ 7293034; omega)⟩ (Nat.le_of_ble_eq_true rfl) dL_law_661 (lw_kJ (dm2 := d) hS1 (fun v sc2 mI2 mL2 h => ⟨h.1, lw_keep hI1 h.2.1 h.2.2⟩) (fun x sc2 mI2 mL2 H locs hI2 hS2 hW hL => ?_))
  refine lv_lstore (lv' := [(6, .long _), (5, .int _), (0, .ref _), (1, .ref _), (2, .ref _), (3, .ref _), (4, .int _)]) hx hb dL_law_664 hl (by decide) rfl (fun ls hl => ?_)
  refine lv_goto (tgt := 855) hx hb dL_law_666 (by decide) ?_
  exact kk _ _ _ _ k n (by omega) (by omega) ⟨X, _, _, _, _, _, _, _, rfl, hS2, hR.of (congrFun hI2.2.1 2)⟩ hW hL (lv_sub hl [2, 3, 4, 5, 6] rfl)
set_option maxHeartbeats 4000000 in
set_option maxRecDepth 100000 in
theorem lw_case10 (E : hs_E) (hST : E.1.stackTraces = false) {p : Program} {e : Env} {s : State} {m : MethodId} {args : Array Value} {below : List Frame} {meth : Method} {c : Code} {Q : State → Prop} (hC : hs_C (eD E) vwCl (eT E) (eZ E) (eH E) hs_Ts p s m args c cL_law 8 RL) {b L : Nat} {xs : Nat → Int32} (hX : va_X b L xs s (eH E)) (hbl : b < (eH E).size) {i : Int32} (hi0 : vp_in (i) L) (hi1 : vp_in (i + 1) L) (hi2 : vp_in (i + 2) L) (hi3 : vp_in (i + 3) L) (hi4 : vp_in (i + 4) L) (hi5 : vp_in (i + 5) L) (hi6 : vp_in (i + 6) L) (hi7 : vp_in (i + 7) L) (hi8 : vp_in (i + 8) L) {x o mo : Nat} {ar : Nat → Nat} {ix : Nat → Option Nat} {G : hs_G} (hB : lw_B E x o mo ar ix G) {H : Heap} {locs : List Loc} {ls : Array Slot} {cells slots : Nat} (hW : hs_W (eD E) vwCl (eH E) G H) (hL : ∀ q ∈ locs, (eH E).size ≤ q.base) (hl : lv_has ls 8 [(0, .ref b), (1, .ref x), (2, .ref mo), (3, .ref o), (4, .int i)]) (hc9 : cells + 500 ≤ 601024) (hn9 : slots + 3000 ≤ 7293034)
    (kk : lw_Kk E p e s m args below meth c b i x o mo ar ix cells slots Q 855) : W p E.1 e room_1 s m args below meth c H locs cells slots Q (F0 m 669 ls []) := by
  obtain ⟨X, t, cap, d, sc, mI, mL, f9, rfl, hS, hR⟩ := hB
  obtain ⟨hx, hb, hml, hown, hts, -⟩ := id hC
  obtain ⟨hT, ho, hto, hos, -⟩ := id hS
  refine lv_aload_n hx hb dL_law_669 rfl (lv_at hl 1 rfl) ?_
  refine lv_aload_n hx hb dL_law_670 rfl (lv_at hl 0 rfl) ?_
  refine lv_iload hx hb dL_law_671 (lv_at hl 4 rfl) ?_
  refine lv_iconst (v := 1) hx hb dL_law_673 (by decide) ?_
  refine lv_iadd hx hb dL_law_674 ?_
  refine hs_sld hC hW hX hbl hi1 dL_law_675 ?_
  refine lv_aload_n hx hb dL_law_676 rfl (lv_at hl 0 rfl) ?_
  refine lv_iload hx hb dL_law_677 (lv_at hl 4 rfl) ?_
  refine lv_iconst (v := 2) hx hb dL_law_679 (by decide) ?_
  refine lv_iadd hx hb dL_law_680 ?_
  refine hs_sld hC hW hX hbl hi2 dL_law_681 ?_
  refine lv_aload_n hx hb dL_law_682 rfl (lv_at hl 3 rfl) ?_
  refine hs_callST hC hs_Tok hW hL (ct_L_trade E hST t cap X d G hT o f9 ho hto hos _ _) cw_L_trade lk_L_109 st_L_trade hl.1 ⟨by decide, by decide, (by show cells + 1 ≤ 601024; omega), (by show slots + 6 ≤ 7293034; omega)⟩ (Nat.le_of_ble_eq_true rfl) dL_law_683 (hs_kI (fun z G1 k n H locs hI hk hn hW hL => ?_))
  replace hk : k ≤ 1 := hk
  replace hn : n ≤ 6 := hn
  obtain ⟨t1, cap1, f1, hS1⟩ := lw_cls hS (hI)
  obtain ⟨N1, S1, hI1⟩ := hS1.2.2.2.2.2.2.2.2.2.2
  replace hW := lw_W hS1 hW
  refine lv_istore (lv' := [(5, .int _), (0, .ref _), (1, .ref _), (2, .ref _), (3, .ref _), (4, .int _)]) hx hb dL_law_686 hl (by decide) rfl (fun ls hl => ?_)
  refine lv_aload_n hx hb dL_law_688 rfl (lv_at hl 3 rfl) ?_
  refine lv_aload_n hx hb dL_law_689 rfl (lv_at hl 1 rfl) ?_
  refine lv_iload hx hb dL_law_690 (lv_at hl 5 rfl) ?_
  refine lv_iconst (v := 1) hx hb dL_law_692 (by decide) ?_
  refine lv_iadd hx hb dL_law_693 ?_
  refine hs_sld hC hW hX hbl hi1 dL_law_694 ?_
  refine lv_aload_n hx hb dL_law_695 rfl (lv_at hl 1 rfl) ?_
  refine lv_iload hx hb dL_law_696 (lv_at hl 5 rfl) ?_
  refine lv_iconst (v := 2) hx hb dL_law_698 (by decide) ?_
  refine lv_iadd hx hb dL_law_699 ?_
  refine hs_sld hC hW hX hbl hi2 dL_law_700 ?_
  refine hs_callV hC hs_Tok hW hL (ct_X8_trade E mo ar ix sc mI mL G1 hS1.2.2.2.2.1 _ _ N1 d S1 hI1) cw_X8_trade lk_L_111 im_X8_trade se_X8_trade (hs_recv hC hW mo_obj rfl) hl.1 ⟨by decide, by decide, (by show cells + k + 0 ≤ 601024; omega), (by show slots + n + 0 ≤ 7293034; omega)⟩ (Nat.le_of_ble_eq_true rfl) dL_law_701 (lw_kI (dm2 := d) hS1 (fun v sc2 mI2 mL2 h => ⟨h.1, lw_keep hI1 h.2.1 h.2.2⟩) (fun x sc2 mI2 mL2 H locs hI2 hS2 hW hL => ?_))
  refine lv_istore (lv' := [(6, .int _), (5, .int _), (0, .ref _), (1, .ref _), (2, .ref _), (3, .ref _), (4, .int _)]) hx hb dL_law_704 hl (by decide) rfl (fun ls hl => ?_)
  refine lv_goto (tgt := 855) hx hb dL_law_706 (by decide) ?_
  exact kk _ _ _ _ k n (by omega) (by omega) ⟨X, _, _, _, _, _, _, _, rfl, hS2, hR.of (congrFun hI2.2.1 2)⟩ hW hL (lv_sub hl [2, 3, 4, 5, 6] rfl)
set_option maxHeartbeats 4000000 in
set_option maxRecDepth 100000 in
theorem lw_case11 (E : hs_E) (hST : E.1.stackTraces = false) {p : Program} {e : Env} {s : State} {m : MethodId} {args : Array Value} {below : List Frame} {meth : Method} {c : Code} {Q : State → Prop} (hC : hs_C (eD E) vwCl (eT E) (eZ E) (eH E) hs_Ts p s m args c cL_law 8 RL) {b L : Nat} {xs : Nat → Int32} (hX : va_X b L xs s (eH E)) (hbl : b < (eH E).size) {i : Int32} (hi0 : vp_in (i) L) (hi1 : vp_in (i + 1) L) (hi2 : vp_in (i + 2) L) (hi3 : vp_in (i + 3) L) (hi4 : vp_in (i + 4) L) (hi5 : vp_in (i + 5) L) (hi6 : vp_in (i + 6) L) (hi7 : vp_in (i + 7) L) (hi8 : vp_in (i + 8) L) {x o mo : Nat} {ar : Nat → Nat} {ix : Nat → Option Nat} {G : hs_G} (hB : lw_B E x o mo ar ix G) {H : Heap} {locs : List Loc} {ls : Array Slot} {cells slots : Nat} (hW : hs_W (eD E) vwCl (eH E) G H) (hL : ∀ q ∈ locs, (eH E).size ≤ q.base) (hl : lv_has ls 8 [(0, .ref b), (1, .ref x), (2, .ref mo), (3, .ref o), (4, .int i)]) (hc9 : cells + 500 ≤ 601024) (hn9 : slots + 3000 ≤ 7293034)
    (kk : lw_Kk E p e s m args below meth c b i x o mo ar ix cells slots Q 855) : W p E.1 e room_1 s m args below meth c H locs cells slots Q (F0 m 709 ls []) := by
  obtain ⟨X, t, cap, d, sc, mI, mL, f9, rfl, hS, hR⟩ := hB
  obtain ⟨hx, hb, hml, hown, hts, -⟩ := id hC
  obtain ⟨hT, ho, hto, hos, -⟩ := id hS
  refine lv_aload_n hx hb dL_law_709 rfl (lv_at hl 1 rfl) ?_
  refine lv_aload_n hx hb dL_law_710 rfl (lv_at hl 0 rfl) ?_
  refine lv_iload hx hb dL_law_711 (lv_at hl 4 rfl) ?_
  refine lv_iconst (v := 1) hx hb dL_law_713 (by decide) ?_
  refine lv_iadd hx hb dL_law_714 ?_
  refine hs_sld hC hW hX hbl hi1 dL_law_715 ?_
  refine lv_aload_n hx hb dL_law_716 rfl (lv_at hl 0 rfl) ?_
  refine lv_iload hx hb dL_law_717 (lv_at hl 4 rfl) ?_
  refine lv_iconst (v := 2) hx hb dL_law_719 (by decide) ?_
  refine lv_iadd hx hb dL_law_720 ?_
  refine hs_sld hC hW hX hbl hi2 dL_law_721 ?_
  refine hs_callV hC hs_Tok hW hL (ct_X7_settled E t cap X d G hT _ _) cw_X7_settled lk_L_112 im_X7_settled se_X7_settled (hs_recv hC hW hT.house rfl) hl.1 ⟨by decide, by decide, (by show cells + 0 ≤ 601024; omega), (by show slots + 0 ≤ 7293034; omega)⟩ (Nat.le_of_ble_eq_true rfl) dL_law_722 (hs_ke (fun x H locs hJ hW hL => ?_))
  obtain ⟨N1, S1, hI1⟩ := hS.2.2.2.2.2.2.2.2.2.2
  replace hW := lw_W hS hW
  refine lv_pop hx hb dL_law_725 rfl ?_
  refine lv_aload_n hx hb dL_law_726 rfl (lv_at hl 2 rfl) ?_
  refine lv_aload_n hx hb dL_law_727 rfl (lv_at hl 0 rfl) ?_
  refine lv_iload hx hb dL_law_728 (lv_at hl 4 rfl) ?_
  refine lv_iconst (v := 1) hx hb dL_law_730 (by decide) ?_
  refine lv_iadd hx hb dL_law_731 ?_
  refine hs_sld hC hW hX hbl hi1 dL_law_732 ?_
  refine lv_aload_n hx hb dL_law_733 rfl (lv_at hl 0 rfl) ?_
  refine lv_iload hx hb dL_law_734 (lv_at hl 4 rfl) ?_
  refine lv_iconst (v := 2) hx hb dL_law_736 (by decide) ?_
  refine lv_iadd hx hb dL_law_737 ?_
  refine hs_sld hC hW hX hbl hi2 dL_law_738 ?_
  refine hs_callV hC hs_Tok hW hL (ct_X8_settled E mo ar ix sc mI mL G hS.2.2.2.2.1 _ _ N1 d S1 hI1) cw_X8_settled lk_L_115 im_X8_settled se_X8_settled (hs_recv hC hW mo_obj rfl) hl.1 ⟨by decide, by decide, (by show cells + 0 ≤ 601024; omega), (by show slots + 0 ≤ 7293034; omega)⟩ (Nat.le_of_ble_eq_true rfl) dL_law_739 (lw_kI (dm2 := d) hS (fun v sc2 mI2 mL2 h => ⟨h.1, lw_keep hI1 h.2.1 h.2.2⟩) (fun x sc2 mI2 mL2 H locs hI2 hS2 hW hL => ?_))
  refine lv_pop hx hb dL_law_742 rfl ?_
  refine lv_goto (tgt := 855) hx hb dL_law_743 (by decide) ?_
  exact kk _ _ _ _ 0 0 (by omega) (by omega) ⟨X, _, _, _, _, _, _, _, rfl, hS2, hR.of (congrFun hI2.2.1 2)⟩ hW hL (lv_sub hl [0, 1, 2, 3, 4] rfl)
set_option maxHeartbeats 4000000 in
set_option maxRecDepth 100000 in
theorem lw_case12 (E : hs_E) (hST : E.1.stackTraces = false) {p : Program} {e : Env} {s : State} {m : MethodId} {args : Array Value} {below : List Frame} {meth : Method} {c : Code} {Q : State → Prop} (hC : hs_C (eD E) vwCl (eT E) (eZ E) (eH E) hs_Ts p s m args c cL_law 8 RL) {b L : Nat} {xs : Nat → Int32} (hX : va_X b L xs s (eH E)) (hbl : b < (eH E).size) {i : Int32} (hi0 : vp_in (i) L) (hi1 : vp_in (i + 1) L) (hi2 : vp_in (i + 2) L) (hi3 : vp_in (i + 3) L) (hi4 : vp_in (i + 4) L) (hi5 : vp_in (i + 5) L) (hi6 : vp_in (i + 6) L) (hi7 : vp_in (i + 7) L) (hi8 : vp_in (i + 8) L) {x o mo : Nat} {ar : Nat → Nat} {ix : Nat → Option Nat} {G : hs_G} (hB : lw_B E x o mo ar ix G) {H : Heap} {locs : List Loc} {ls : Array Slot} {cells slots : Nat} (hW : hs_W (eD E) vwCl (eH E) G H) (hL : ∀ q ∈ locs, (eH E).size ≤ q.base) (hl : lv_has ls 8 [(0, .ref b), (1, .ref x), (2, .ref mo), (3, .ref o), (4, .int i)]) (hc9 : cells + 500 ≤ 601024) (hn9 : slots + 3000 ≤ 7293034)
    (kk : lw_Kk E p e s m args below meth c b i x o mo ar ix cells slots Q 855) : W p E.1 e room_1 s m args below meth c H locs cells slots Q (F0 m 746 ls []) := by
  obtain ⟨X, t, cap, d, sc, mI, mL, f9, rfl, hS, hR⟩ := hB
  obtain ⟨hx, hb, hml, hown, hts, -⟩ := id hC
  obtain ⟨hT, ho, hto, hos, -⟩ := id hS
  refine lv_aload_n hx hb dL_law_746 rfl (lv_at hl 1 rfl) ?_
  refine lv_aload_n hx hb dL_law_747 rfl (lv_at hl 0 rfl) ?_
  refine lv_iload hx hb dL_law_748 (lv_at hl 4 rfl) ?_
  refine lv_iconst (v := 1) hx hb dL_law_750 (by decide) ?_
  refine lv_iadd hx hb dL_law_751 ?_
  refine hs_sld hC hW hX hbl hi1 dL_law_752 ?_
  refine lv_aload_n hx hb dL_law_753 rfl (lv_at hl 0 rfl) ?_
  refine lv_iload hx hb dL_law_754 (lv_at hl 4 rfl) ?_
  refine lv_iconst (v := 2) hx hb dL_law_756 (by decide) ?_
  refine lv_iadd hx hb dL_law_757 ?_
  refine hs_sld hC hW hX hbl hi2 dL_law_758 ?_
  refine lv_aload_n hx hb dL_law_759 rfl (lv_at hl 3 rfl) ?_
  refine hs_callST hC hs_Tok hW hL (ct_L_business E hST t cap X d G hT o f9 ho hto hos _ _) cw_L_business lk_L_116 st_L_business hl.1 ⟨by decide, by decide, (by show cells + 1 ≤ 601024; omega), (by show slots + 6 ≤ 7293034; omega)⟩ (Nat.le_of_ble_eq_true rfl) dL_law_760 (hs_kI (fun z G1 k n H locs hI hk hn hW hL => ?_))
  replace hk : k ≤ 1 := hk
  replace hn : n ≤ 6 := hn
  obtain ⟨t1, cap1, f1, hS1⟩ := lw_cls hS (hI.elim (fun ⟨_, a9, b9, k9, f, _, _, _, _, _, _, _, hG⟩ => ⟨f, t, cap, G, hT, cl_F.rf, hG⟩) (fun ⟨_, _, hG⟩ => ⟨f9, t, cap, G, hT, cl_F.rf, hG.trans (hs_up_id ho).symm⟩))
  obtain ⟨N1, S1, hI1⟩ := hS1.2.2.2.2.2.2.2.2.2.2
  replace hW := lw_W hS1 hW
  refine lv_istore (lv' := [(5, .int _), (0, .ref _), (1, .ref _), (2, .ref _), (3, .ref _), (4, .int _)]) hx hb dL_law_763 hl (by decide) rfl (fun ls hl => ?_)
  refine lv_aload_n hx hb dL_law_765 rfl (lv_at hl 3 rfl) ?_
  refine lv_aload_n hx hb dL_law_766 rfl (lv_at hl 1 rfl) ?_
  refine lv_iload hx hb dL_law_767 (lv_at hl 5 rfl) ?_
  refine lv_iconst (v := 1) hx hb dL_law_769 (by decide) ?_
  refine lv_iadd hx hb dL_law_770 ?_
  refine hs_sld hC hW hX hbl hi1 dL_law_771 ?_
  refine lv_aload_n hx hb dL_law_772 rfl (lv_at hl 1 rfl) ?_
  refine lv_iload hx hb dL_law_773 (lv_at hl 5 rfl) ?_
  refine lv_iconst (v := 2) hx hb dL_law_775 (by decide) ?_
  refine lv_iadd hx hb dL_law_776 ?_
  refine hs_sld hC hW hX hbl hi2 dL_law_777 ?_
  refine hs_callV hC hs_Tok hW hL (ct_X8_business E mo ar ix sc mI mL G1 hS1.2.2.2.2.1 _ _) cw_X8_business lk_L_118 im_X8_business se_X8_business (hs_recv hC hW mo_obj rfl) hl.1 ⟨by decide, by decide, (by show cells + k + 0 ≤ 601024; omega), (by show slots + n + 0 ≤ 7293034; omega)⟩ (Nat.le_of_ble_eq_true rfl) dL_law_778 (lw_kI (dm2 := d) hS1 (fun v sc2 mI2 mL2 h => ⟨h.1, lw_keep hI1 h.2.1 h.2.2.1⟩) (fun x sc2 mI2 mL2 H locs hI2 hS2 hW hL => ?_))
  refine lv_istore (lv' := [(6, .int _), (5, .int _), (0, .ref _), (1, .ref _), (2, .ref _), (3, .ref _), (4, .int _)]) hx hb dL_law_781 hl (by decide) rfl (fun ls hl => ?_)
  refine lv_goto (tgt := 855) hx hb dL_law_783 (by decide) ?_
  exact kk _ _ _ _ k n (by omega) (by omega) ⟨X, _, _, _, _, _, _, _, rfl, hS2, hR.of (congrFun hI2.2.1 2)⟩ hW hL (lv_sub hl [2, 3, 4, 5, 6] rfl)
set_option maxHeartbeats 4000000 in
set_option maxRecDepth 100000 in
theorem lw_case13 (E : hs_E) (hST : E.1.stackTraces = false) {p : Program} {e : Env} {s : State} {m : MethodId} {args : Array Value} {below : List Frame} {meth : Method} {c : Code} {Q : State → Prop} (hC : hs_C (eD E) vwCl (eT E) (eZ E) (eH E) hs_Ts p s m args c cL_law 8 RL) {b L : Nat} {xs : Nat → Int32} (hX : va_X b L xs s (eH E)) (hbl : b < (eH E).size) {i : Int32} (hi0 : vp_in (i) L) (hi1 : vp_in (i + 1) L) (hi2 : vp_in (i + 2) L) (hi3 : vp_in (i + 3) L) (hi4 : vp_in (i + 4) L) (hi5 : vp_in (i + 5) L) (hi6 : vp_in (i + 6) L) (hi7 : vp_in (i + 7) L) (hi8 : vp_in (i + 8) L) {x o mo : Nat} {ar : Nat → Nat} {ix : Nat → Option Nat} {G : hs_G} (hB : lw_B E x o mo ar ix G) {H : Heap} {locs : List Loc} {ls : Array Slot} {cells slots : Nat} (hW : hs_W (eD E) vwCl (eH E) G H) (hL : ∀ q ∈ locs, (eH E).size ≤ q.base) (hl : lv_has ls 8 [(0, .ref b), (1, .ref x), (2, .ref mo), (3, .ref o), (4, .int i)]) (hc9 : cells + 500 ≤ 601024) (hn9 : slots + 3000 ≤ 7293034)
    (kk : lw_Kk E p e s m args below meth c b i x o mo ar ix cells slots Q 855) : W p E.1 e room_1 s m args below meth c H locs cells slots Q (F0 m 786 ls []) := by
  obtain ⟨X, t, cap, d, sc, mI, mL, f9, rfl, hS, hR⟩ := hB
  obtain ⟨hx, hb, hml, hown, hts, -⟩ := id hC
  obtain ⟨hT, ho, hto, hos, -⟩ := id hS
  refine lv_aload_n hx hb dL_law_786 rfl (lv_at hl 1 rfl) ?_
  refine lv_aload_n hx hb dL_law_787 rfl (lv_at hl 0 rfl) ?_
  refine lv_iload hx hb dL_law_788 (lv_at hl 4 rfl) ?_
  refine lv_iconst (v := 1) hx hb dL_law_790 (by decide) ?_
  refine lv_iadd hx hb dL_law_791 ?_
  refine hs_sld hC hW hX hbl hi1 dL_law_792 ?_
  refine lv_aload_n hx hb dL_law_793 rfl (lv_at hl 3 rfl) ?_
  refine hs_callST hC hs_Tok hW hL (ct_L_date E hST t cap X d G hT o f9 ho hto hos _) cw_L_date lk_L_119 st_L_date hl.1 ⟨by decide, by decide, (by show cells + 1 ≤ 601024; omega), (by show slots + 6 ≤ 7293034; omega)⟩ (Nat.le_of_ble_eq_true rfl) dL_law_794 (hs_kI (fun z G1 k n H locs hI hk hn hW hL => ?_))
  replace hk : k ≤ 1 := hk
  replace hn : n ≤ 6 := hn
  obtain ⟨t1, cap1, f1, hS1⟩ := lw_cls hS ((Classical.em (0 ≤ xs (i + 1).toNatClampNeg ∧ xs (i + 1).toNatClampNeg ≤ 4)).elim (fun z => (hI.1 z).2.elim fun f hf => ⟨f, t, cap, G, hT, cl_F.rf, hf.2⟩) (fun z => ⟨f9, t, cap, G, hT, cl_F.rf, (hI.2 z).2.trans (hs_up_id ho).symm⟩))
  obtain ⟨N1, S1, hI1⟩ := hS1.2.2.2.2.2.2.2.2.2.2
  replace hW := lw_W hS1 hW
  refine lv_istore (lv' := [(5, .int _), (0, .ref _), (1, .ref _), (2, .ref _), (3, .ref _), (4, .int _)]) hx hb dL_law_797 hl (by decide) rfl (fun ls hl => ?_)
  refine lv_aload_n hx hb dL_law_799 rfl (lv_at hl 3 rfl) ?_
  refine lv_aload_n hx hb dL_law_800 rfl (lv_at hl 1 rfl) ?_
  refine lv_iload hx hb dL_law_801 (lv_at hl 5 rfl) ?_
  refine lv_iconst (v := 1) hx hb dL_law_803 (by decide) ?_
  refine lv_iadd hx hb dL_law_804 ?_
  refine hs_sld hC hW hX hbl hi1 dL_law_805 ?_
  refine hs_callV hC hs_Tok hW hL (ct_X8_date E mo ar ix sc mI mL G1 hS1.2.2.2.2.1 _ N1 d S1 hI1) cw_X8_date lk_L_121 im_X8_date se_X8_date (hs_recv hC hW mo_obj rfl) hl.1 ⟨by decide, by decide, (by show cells + k + 0 ≤ 601024; omega), (by show slots + n + 0 ≤ 7293034; omega)⟩ (Nat.le_of_ble_eq_true rfl) dL_law_806 (lw_kI (dm2 := d) hS1 (fun v sc2 mI2 mL2 h => ⟨h.1, lw_keep hI1 h.2.1 h.2.2.1⟩) (fun x sc2 mI2 mL2 H locs hI2 hS2 hW hL => ?_))
  refine lv_istore (lv' := [(6, .int _), (5, .int _), (0, .ref _), (1, .ref _), (2, .ref _), (3, .ref _), (4, .int _)]) hx hb dL_law_809 hl (by decide) rfl (fun ls hl => ?_)
  refine lv_goto (tgt := 855) hx hb dL_law_811 (by decide) ?_
  exact kk _ _ _ _ k n (by omega) (by omega) ⟨X, _, _, _, _, _, _, _, rfl, hS2, hR.of (congrFun hI2.2.1 2)⟩ hW hL (lv_sub hl [2, 3, 4, 5, 6] rfl)
set_option maxHeartbeats 4000000 in
set_option maxRecDepth 100000 in
theorem lw_case14 (E : hs_E) (hST : E.1.stackTraces = false) {p : Program} {e : Env} {s : State} {m : MethodId} {args : Array Value} {below : List Frame} {meth : Method} {c : Code} {Q : State → Prop} (hC : hs_C (eD E) vwCl (eT E) (eZ E) (eH E) hs_Ts p s m args c cL_law 8 RL) {b L : Nat} {xs : Nat → Int32} (hX : va_X b L xs s (eH E)) (hbl : b < (eH E).size) {i : Int32} (hi0 : vp_in (i) L) (hi1 : vp_in (i + 1) L) (hi2 : vp_in (i + 2) L) (hi3 : vp_in (i + 3) L) (hi4 : vp_in (i + 4) L) (hi5 : vp_in (i + 5) L) (hi6 : vp_in (i + 6) L) (hi7 : vp_in (i + 7) L) (hi8 : vp_in (i + 8) L) {x o mo : Nat} {ar : Nat → Nat} {ix : Nat → Option Nat} {G : hs_G} (hB : lw_B E x o mo ar ix G) {H : Heap} {locs : List Loc} {ls : Array Slot} {cells slots : Nat} (hW : hs_W (eD E) vwCl (eH E) G H) (hL : ∀ q ∈ locs, (eH E).size ≤ q.base) (hl : lv_has ls 8 [(0, .ref b), (1, .ref x), (2, .ref mo), (3, .ref o), (4, .int i)]) (hc9 : cells + 500 ≤ 601024) (hn9 : slots + 3000 ≤ 7293034)
    (kk : lw_Kk E p e s m args below meth c b i x o mo ar ix cells slots Q 855) : W p E.1 e room_1 s m args below meth c H locs cells slots Q (F0 m 814 ls []) := by
  obtain ⟨X, t, cap, d, sc, mI, mL, f9, rfl, hS, hR⟩ := hB
  obtain ⟨hx, hb, hml, hown, hts, -⟩ := id hC
  obtain ⟨hT, ho, hto, hos, -⟩ := id hS
  refine lv_aload_n hx hb dL_law_814 rfl (lv_at hl 1 rfl) ?_
  refine lv_aload_n hx hb dL_law_815 rfl (lv_at hl 0 rfl) ?_
  refine lv_iload hx hb dL_law_816 (lv_at hl 4 rfl) ?_
  refine lv_iconst (v := 1) hx hb dL_law_818 (by decide) ?_
  refine lv_iadd hx hb dL_law_819 ?_
  refine hs_sld hC hW hX hbl hi1 dL_law_820 ?_
  refine lv_aload_n hx hb dL_law_821 rfl (lv_at hl 3 rfl) ?_
  refine hs_callST hC hs_Tok hW hL (ct_L_count E hST t cap X d G hT o f9 ho hto hos _) cw_L_count lk_L_122 st_L_count hl.1 ⟨by decide, by decide, (by show cells + 1 ≤ 601024; omega), (by show slots + 6 ≤ 7293034; omega)⟩ (Nat.le_of_ble_eq_true rfl) dL_law_822 (hs_kI (fun z G1 k n H locs hI hk hn hW hL => ?_))
  replace hk : k ≤ 1 := hk
  replace hn : n ≤ 6 := hn
  obtain ⟨t1, cap1, f1, hS1⟩ := lw_cls hS (hI)
  obtain ⟨N1, S1, hI1⟩ := hS1.2.2.2.2.2.2.2.2.2.2
  replace hW := lw_W hS1 hW
  refine lv_istore (lv' := [(5, .int _), (0, .ref _), (1, .ref _), (2, .ref _), (3, .ref _), (4, .int _)]) hx hb dL_law_825 hl (by decide) rfl (fun ls hl => ?_)
  refine lv_aload_n hx hb dL_law_827 rfl (lv_at hl 3 rfl) ?_
  refine lv_aload_n hx hb dL_law_828 rfl (lv_at hl 1 rfl) ?_
  refine lv_iload hx hb dL_law_829 (lv_at hl 5 rfl) ?_
  refine lv_iconst (v := 1) hx hb dL_law_831 (by decide) ?_
  refine lv_iadd hx hb dL_law_832 ?_
  refine hs_sld hC hW hX hbl hi1 dL_law_833 ?_
  refine hs_callV hC hs_Tok hW hL (ct_X8_count E mo ar ix sc mI mL G1 hS1.2.2.2.2.1 _ N1 d S1 hI1.b) cw_X8_count lk_L_124 im_X8_count se_X8_count (hs_recv hC hW mo_obj rfl) hl.1 ⟨by decide, by decide, (by show cells + k + 0 ≤ 601024; omega), (by show slots + n + 0 ≤ 7293034; omega)⟩ (Nat.le_of_ble_eq_true rfl) dL_law_834 (lw_kI (dm2 := d) hS1 (fun v sc2 mI2 mL2 h => ⟨h.1, lw_keep hI1 h.2.1 h.2.2⟩) (fun x sc2 mI2 mL2 H locs hI2 hS2 hW hL => ?_))
  refine lv_istore (lv' := [(6, .int _), (5, .int _), (0, .ref _), (1, .ref _), (2, .ref _), (3, .ref _), (4, .int _)]) hx hb dL_law_837 hl (by decide) rfl (fun ls hl => ?_)
  refine lv_goto (tgt := 855) hx hb dL_law_839 (by decide) ?_
  exact kk _ _ _ _ k n (by omega) (by omega) ⟨X, _, _, _, _, _, _, _, rfl, hS2, hR.of (congrFun hI2.2.1 2)⟩ hW hL (lv_sub hl [2, 3, 4, 5, 6] rfl)
set_option maxHeartbeats 4000000 in
set_option maxRecDepth 100000 in
theorem lw_case15 (E : hs_E) (hST : E.1.stackTraces = false) {p : Program} {e : Env} {s : State} {m : MethodId} {args : Array Value} {below : List Frame} {meth : Method} {c : Code} {Q : State → Prop} (hC : hs_C (eD E) vwCl (eT E) (eZ E) (eH E) hs_Ts p s m args c cL_law 8 RL) {b L : Nat} {xs : Nat → Int32} (hX : va_X b L xs s (eH E)) (hbl : b < (eH E).size) {i : Int32} (hi0 : vp_in (i) L) (hi1 : vp_in (i + 1) L) (hi2 : vp_in (i + 2) L) (hi3 : vp_in (i + 3) L) (hi4 : vp_in (i + 4) L) (hi5 : vp_in (i + 5) L) (hi6 : vp_in (i + 6) L) (hi7 : vp_in (i + 7) L) (hi8 : vp_in (i + 8) L) {x o mo : Nat} {ar : Nat → Nat} {ix : Nat → Option Nat} {G : hs_G} (hB : lw_B E x o mo ar ix G) {H : Heap} {locs : List Loc} {ls : Array Slot} {cells slots : Nat} (hW : hs_W (eD E) vwCl (eH E) G H) (hL : ∀ q ∈ locs, (eH E).size ≤ q.base) (hl : lv_has ls 8 [(0, .ref b), (1, .ref x), (2, .ref mo), (3, .ref o), (4, .int i)]) (hc9 : cells + 500 ≤ 601024) (hn9 : slots + 3000 ≤ 7293034)
    (kk : lw_Kk E p e s m args below meth c b i x o mo ar ix cells slots Q 855) : W p E.1 e room_1 s m args below meth c H locs cells slots Q (F0 m 842 ls []) := by
  obtain ⟨X, t, cap, d, sc, mI, mL, f9, rfl, hS, hR⟩ := hB
  obtain ⟨hx, hb, hml, hown, hts, -⟩ := id hC
  obtain ⟨hT, ho, hto, hos, -⟩ := id hS
  refine lv_aload_n hx hb dL_law_842 rfl (lv_at hl 1 rfl) ?_
  refine hs_callV hC hs_Tok hW hL (ct_X7_astray E t cap X d G hT ) cw_X7_astray lk_L_125 im_X7_astray se_X7_astray (hs_recv hC hW hT.house rfl) hl.1 ⟨by decide, by decide, (by show cells + 0 ≤ 601024; omega), (by show slots + 0 ≤ 7293034; omega)⟩ (Nat.le_of_ble_eq_true rfl) dL_law_843 (hs_ke (fun x H locs hJ hW hL => ?_))
  obtain ⟨N1, S1, hI1⟩ := hS.2.2.2.2.2.2.2.2.2.2
  replace hW := lw_W hS hW
  refine lv_pop hx hb dL_law_846 rfl ?_
  refine lv_aload_n hx hb dL_law_847 rfl (lv_at hl 2 rfl) ?_
  refine hs_callV hC hs_Tok hW hL (ct_X8_astray E mo ar ix sc mI mL G hS.2.2.2.2.1  N1 d S1 hI1) cw_X8_astray lk_L_128 im_X8_astray se_X8_astray (hs_recv hC hW mo_obj rfl) hl.1 ⟨by decide, by decide, (by show cells + 0 ≤ 601024; omega), (by show slots + 0 ≤ 7293034; omega)⟩ (Nat.le_of_ble_eq_true rfl) dL_law_848 (lw_kI (dm2 := d) hS (fun v sc2 mI2 mL2 h => ⟨⟨_, h.1⟩, h.2.1⟩) (fun x sc2 mI2 mL2 H locs hI2 hS2 hW hL => ?_))
  refine lv_pop hx hb dL_law_851 rfl ?_
  refine lv_goto (tgt := 855) hx hb dL_law_852 (by decide) ?_
  exact kk _ _ _ _ 0 0 (by omega) (by omega) ⟨X, _, _, _, _, _, _, _, rfl, hS2, hR.of hI2.2.2⟩ hW hL (lv_sub hl [0, 1, 2, 3, 4] rfl)
