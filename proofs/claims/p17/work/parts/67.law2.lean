/-! the cases of the law's switch -/
set_option maxHeartbeats 4000000 in
set_option maxRecDepth 100000 in
theorem lw_case0 (E : hs_E) (hST : E.1.stackTraces = false) {p : Program} {e : Env} {s : State} {m : MethodId} {args : Array Value} {below : List Frame} {meth : Method} {c : Code} {Q : State → Prop} (hC : hs_C (eD E) vwCl (eT E) (eZ E) (eH E) hs_Ts p s m args c cL_law 8 RL) {b L : Nat} {xs : Nat → Int32} (hX : va_X b L xs s (eH E)) (hbl : b < (eH E).size) {i : Int32} (hi0 : vp_in (i) L) (hi1 : vp_in (i + 1) L) (hi2 : vp_in (i + 2) L) (hi3 : vp_in (i + 3) L) (hi4 : vp_in (i + 4) L) (hi5 : vp_in (i + 5) L) (hi6 : vp_in (i + 6) L) (hi7 : vp_in (i + 7) L) (hi8 : vp_in (i + 8) L) {jj : Nat} (hj9 : jj ≤ 512) {x o mo : Nat} {ar : Nat → Nat} {ix : Nat → Option Nat} {G : hs_G} (hB : lw_B E x o mo ar ix jj G) {H : Heap} {locs : List Loc} {ls : Array Slot} {cells slots : Nat} (hW : hs_W (eD E) vwCl (eH E) G H) (hL : ∀ q ∈ locs, (eH E).size ≤ q.base) (hl : lv_has ls 8 [(0, .ref b), (1, .ref x), (2, .ref mo), (3, .ref o), (4, .int i)]) (hc9 : cells + 500 ≤ 601024) (hn9 : slots + 3000 ≤ 7293034)
    (kk : lw_Kk E p e s m args below meth c b i x o mo ar ix jj cells slots Q 820) : W p E.1 e room_1 s m args below meth c H locs cells slots Q (F0 m 120 ls []) := by
  obtain ⟨X, t, cap, d, sc, mI, mL, f9, rfl, hS, h99, hJ, h97⟩ := hB
  have hB : X 97 ≤ 1152921504606846976 := by omega
  obtain ⟨hx, hb, hml, hown, hts, -⟩ := id hC
  obtain ⟨hT, ho, hto, hos, -⟩ := id hS
  refine lv_aload_n hx hb dL_law_120 rfl (lv_at hl 1 rfl) ?_
  refine lv_aload_n hx hb dL_law_121 rfl (lv_at hl 0 rfl) ?_
  refine lv_iload hx hb dL_law_122 (lv_at hl 4 rfl) ?_
  refine lv_iconst (v := 1) hx hb dL_law_124 (by decide) ?_
  refine lv_iadd hx hb dL_law_125 ?_
  refine hs_sld hC hW hX hbl hi1 dL_law_126 ?_
  refine lv_aload_n hx hb dL_law_127 rfl (lv_at hl 0 rfl) ?_
  refine lv_iload hx hb dL_law_128 (lv_at hl 4 rfl) ?_
  refine lv_iconst (v := 2) hx hb dL_law_130 (by decide) ?_
  refine lv_iadd hx hb dL_law_131 ?_
  refine hs_sld hC hW hX hbl hi2 dL_law_132 ?_
  refine lv_aload_n hx hb dL_law_133 rfl (lv_at hl 0 rfl) ?_
  refine lv_iload hx hb dL_law_134 (lv_at hl 4 rfl) ?_
  refine lv_iconst (v := 3) hx hb dL_law_136 (by decide) ?_
  refine lv_iadd hx hb dL_law_137 ?_
  refine hs_sld hC hW hX hbl hi3 dL_law_138 ?_
  refine lv_aload_n hx hb dL_law_139 rfl (lv_at hl 3 rfl) ?_
  refine hs_callST hC hs_Tok hW hL (ct_L_fund E hST t cap X d G hT o f9 ho hto hos h99 hJ hB _ _ _) cw_L_fund lk_L_68 st_L_fund hl.1 ⟨by decide, by decide, (by show cells + 1 ≤ 601024; omega), (by show slots + 6 ≤ 7293034; omega)⟩ (Nat.le_of_ble_eq_true rfl) dL_law_140 (hs_kI (fun z G1 k n H locs hI hk hn hW hL => ?_))
  replace hk : k ≤ 1 := hk
  replace hn : n ≤ 6 := hn
  obtain ⟨t1, cap1, f1, Y, hyy, hS1⟩ := lw_cls hS (hI)
  obtain ⟨N1, S1, hI1⟩ := hS1.2.2.2.2.2.2.2.2.2.2
  replace hW := lw_W hS1 hW
  refine lv_istore (lv' := [(5, .int _), (0, .ref _), (1, .ref _), (2, .ref _), (3, .ref _), (4, .int _)]) hx hb dL_law_143 hl (by decide) rfl (fun ls hl => ?_)
  refine lv_aload_n hx hb dL_law_145 rfl (lv_at hl 3 rfl) ?_
  refine lv_aload_n hx hb dL_law_146 rfl (lv_at hl 1 rfl) ?_
  refine lv_iload hx hb dL_law_147 (lv_at hl 5 rfl) ?_
  refine lv_iconst (v := 1) hx hb dL_law_149 (by decide) ?_
  refine lv_iadd hx hb dL_law_150 ?_
  refine hs_sld hC hW hX hbl hi1 dL_law_151 ?_
  refine lv_aload_n hx hb dL_law_152 rfl (lv_at hl 1 rfl) ?_
  refine lv_iload hx hb dL_law_153 (lv_at hl 5 rfl) ?_
  refine lv_iconst (v := 2) hx hb dL_law_155 (by decide) ?_
  refine lv_iadd hx hb dL_law_156 ?_
  refine hs_sld hC hW hX hbl hi2 dL_law_157 ?_
  refine lv_aload_n hx hb dL_law_158 rfl (lv_at hl 1 rfl) ?_
  refine lv_iload hx hb dL_law_159 (lv_at hl 5 rfl) ?_
  refine lv_iconst (v := 3) hx hb dL_law_161 (by decide) ?_
  refine lv_iadd hx hb dL_law_162 ?_
  refine hs_sld hC hW hX hbl hi3 dL_law_163 ?_
  refine hs_callV hC hs_Tok hW hL (ct_X8_fund E mo ar ix sc mI mL G1 hS1.2.2.2.2.1 _ _ _) cw_X8_fund lk_L_73 im_X8_fund se_X8_fund (hs_recv hC hW mo_obj rfl) hl.1 ⟨by decide, by decide, (by show cells + k + 0 ≤ 601024; omega), (by show slots + n + 0 ≤ 7293034; omega)⟩ (Nat.le_of_ble_eq_true rfl) dL_law_164 (lw_kJ (dm2 := d) hS1 (fun v sc2 mI2 mL2 h => ⟨h.1, lw_keep hI1 h.2.1 h.2.2⟩) (fun x sc2 mI2 mL2 H locs hI2 hS2 hW hL => ?_))
  refine lv_lstore (lv' := [(6, .long _), (5, .int _), (0, .ref _), (1, .ref _), (2, .ref _), (3, .ref _), (4, .int _)]) hx hb dL_law_167 hl (by decide) rfl (fun ls hl => ?_)
  refine lv_goto (tgt := 820) hx hb dL_law_169 (by decide) ?_
  exact kk _ _ _ _ k n (by omega) (by omega) ⟨Y, _, _, _, _, _, _, _, hyy.1, hS2, hyy.q h97⟩ hW hL (lv_sub hl [2, 3, 4, 5, 6] rfl)
set_option maxHeartbeats 4000000 in
set_option maxRecDepth 100000 in
theorem lw_case1 (E : hs_E) (hST : E.1.stackTraces = false) {p : Program} {e : Env} {s : State} {m : MethodId} {args : Array Value} {below : List Frame} {meth : Method} {c : Code} {Q : State → Prop} (hC : hs_C (eD E) vwCl (eT E) (eZ E) (eH E) hs_Ts p s m args c cL_law 8 RL) {b L : Nat} {xs : Nat → Int32} (hX : va_X b L xs s (eH E)) (hbl : b < (eH E).size) {i : Int32} (hi0 : vp_in (i) L) (hi1 : vp_in (i + 1) L) (hi2 : vp_in (i + 2) L) (hi3 : vp_in (i + 3) L) (hi4 : vp_in (i + 4) L) (hi5 : vp_in (i + 5) L) (hi6 : vp_in (i + 6) L) (hi7 : vp_in (i + 7) L) (hi8 : vp_in (i + 8) L) {jj : Nat} (hj9 : jj ≤ 512) {x o mo : Nat} {ar : Nat → Nat} {ix : Nat → Option Nat} {G : hs_G} (hB : lw_B E x o mo ar ix jj G) {H : Heap} {locs : List Loc} {ls : Array Slot} {cells slots : Nat} (hW : hs_W (eD E) vwCl (eH E) G H) (hL : ∀ q ∈ locs, (eH E).size ≤ q.base) (hl : lv_has ls 8 [(0, .ref b), (1, .ref x), (2, .ref mo), (3, .ref o), (4, .int i)]) (hc9 : cells + 500 ≤ 601024) (hn9 : slots + 3000 ≤ 7293034)
    (kk : lw_Kk E p e s m args below meth c b i x o mo ar ix jj cells slots Q 820) : W p E.1 e room_1 s m args below meth c H locs cells slots Q (F0 m 172 ls []) := by
  obtain ⟨X, t, cap, d, sc, mI, mL, f9, rfl, hS, h99, hJ, h97⟩ := hB
  have hB : X 97 ≤ 1152921504606846976 := by omega
  obtain ⟨hx, hb, hml, hown, hts, -⟩ := id hC
  obtain ⟨hT, ho, hto, hos, -⟩ := id hS
  refine lv_aload_n hx hb dL_law_172 rfl (lv_at hl 1 rfl) ?_
  refine lv_aload_n hx hb dL_law_173 rfl (lv_at hl 0 rfl) ?_
  refine lv_iload hx hb dL_law_174 (lv_at hl 4 rfl) ?_
  refine lv_iconst (v := 1) hx hb dL_law_176 (by decide) ?_
  refine lv_iadd hx hb dL_law_177 ?_
  refine hs_sld hC hW hX hbl hi1 dL_law_178 ?_
  refine lv_aload_n hx hb dL_law_179 rfl (lv_at hl 3 rfl) ?_
  refine hs_callST hC hs_Tok hW hL (ct_L_holiday E hST t cap X d G hT o f9 ho hto hos h99 hJ hB _) cw_L_holiday lk_L_74 st_L_holiday hl.1 ⟨by decide, by decide, (by show cells + 1 ≤ 601024; omega), (by show slots + 6 ≤ 7293034; omega)⟩ (Nat.le_of_ble_eq_true rfl) dL_law_180 (hs_kI (fun z G1 k n H locs hI hk hn hW hL => ?_))
  replace hk : k ≤ 1 := hk
  replace hn : n ≤ 6 := hn
  obtain ⟨t1, cap1, f1, Y, hyy, hS1⟩ := lw_cls hS (hI.elim (fun ⟨_, j, f, _, _, _, _, hHf⟩ => ⟨f, hv_mk X j, vY_mk h99 hJ, hHf⟩) (fun ⟨_, _, hG⟩ => ⟨f9, X, vY.rf h99 hJ, t, cap, G, hT, cl_F.rf, hG.trans (hs_up_id ho).symm⟩))
  obtain ⟨N1, S1, hI1⟩ := hS1.2.2.2.2.2.2.2.2.2.2
  replace hW := lw_W hS1 hW
  refine lv_istore (lv' := [(5, .int _), (0, .ref _), (1, .ref _), (2, .ref _), (3, .ref _), (4, .int _)]) hx hb dL_law_183 hl (by decide) rfl (fun ls hl => ?_)
  refine lv_aload_n hx hb dL_law_185 rfl (lv_at hl 3 rfl) ?_
  refine lv_aload_n hx hb dL_law_186 rfl (lv_at hl 1 rfl) ?_
  refine lv_iload hx hb dL_law_187 (lv_at hl 5 rfl) ?_
  refine lv_iconst (v := 1) hx hb dL_law_189 (by decide) ?_
  refine lv_iadd hx hb dL_law_190 ?_
  refine hs_sld hC hW hX hbl hi1 dL_law_191 ?_
  refine hs_callV hC hs_Tok hW hL (ct_X8_holiday E mo ar ix sc mI mL G1 hS1.2.2.2.2.1 _ N1 d S1 hI1) cw_X8_holiday lk_L_77 im_X8_holiday se_X8_holiday (hs_recv hC hW mo_obj rfl) hl.1 ⟨by decide, by decide, (by show cells + k + 0 ≤ 601024; omega), (by show slots + n + 0 ≤ 7293034; omega)⟩ (Nat.le_of_ble_eq_true rfl) dL_law_192 (lw_kI (dm2 := d) hS1 (fun v sc2 mI2 mL2 h => lw_hol h) (fun x sc2 mI2 mL2 H locs hI2 hS2 hW hL => ?_))
  refine lv_istore (lv' := [(6, .int _), (5, .int _), (0, .ref _), (1, .ref _), (2, .ref _), (3, .ref _), (4, .int _)]) hx hb dL_law_195 hl (by decide) rfl (fun ls hl => ?_)
  refine lv_goto (tgt := 820) hx hb dL_law_197 (by decide) ?_
  exact kk _ _ _ _ k n (by omega) (by omega) ⟨Y, _, _, _, _, _, _, _, hyy.1, hS2, hyy.q h97⟩ hW hL (lv_sub hl [2, 3, 4, 5, 6] rfl)
set_option maxHeartbeats 4000000 in
set_option maxRecDepth 100000 in
theorem lw_case2 (E : hs_E) (hST : E.1.stackTraces = false) {p : Program} {e : Env} {s : State} {m : MethodId} {args : Array Value} {below : List Frame} {meth : Method} {c : Code} {Q : State → Prop} (hC : hs_C (eD E) vwCl (eT E) (eZ E) (eH E) hs_Ts p s m args c cL_law 8 RL) {b L : Nat} {xs : Nat → Int32} (hX : va_X b L xs s (eH E)) (hbl : b < (eH E).size) {i : Int32} (hi0 : vp_in (i) L) (hi1 : vp_in (i + 1) L) (hi2 : vp_in (i + 2) L) (hi3 : vp_in (i + 3) L) (hi4 : vp_in (i + 4) L) (hi5 : vp_in (i + 5) L) (hi6 : vp_in (i + 6) L) (hi7 : vp_in (i + 7) L) (hi8 : vp_in (i + 8) L) {jj : Nat} (hj9 : jj ≤ 512) {x o mo : Nat} {ar : Nat → Nat} {ix : Nat → Option Nat} {G : hs_G} (hB : lw_B E x o mo ar ix jj G) {H : Heap} {locs : List Loc} {ls : Array Slot} {cells slots : Nat} (hW : hs_W (eD E) vwCl (eH E) G H) (hL : ∀ q ∈ locs, (eH E).size ≤ q.base) (hl : lv_has ls 8 [(0, .ref b), (1, .ref x), (2, .ref mo), (3, .ref o), (4, .int i)]) (hc9 : cells + 500 ≤ 601024) (hn9 : slots + 3000 ≤ 7293034)
    (kk : lw_Kk E p e s m args below meth c b i x o mo ar ix jj cells slots Q 820) : W p E.1 e room_1 s m args below meth c H locs cells slots Q (F0 m 200 ls []) := by
  obtain ⟨X, t, cap, d, sc, mI, mL, f9, rfl, hS, h99, hJ, h97⟩ := hB
  have hB : X 97 ≤ 1152921504606846976 := by omega
  obtain ⟨hx, hb, hml, hown, hts, -⟩ := id hC
  obtain ⟨hT, ho, hto, hos, -⟩ := id hS
  refine lv_aload_n hx hb dL_law_200 rfl (lv_at hl 1 rfl) ?_
  refine lv_aload_n hx hb dL_law_201 rfl (lv_at hl 0 rfl) ?_
  refine lv_iload hx hb dL_law_202 (lv_at hl 4 rfl) ?_
  refine lv_iconst (v := 1) hx hb dL_law_204 (by decide) ?_
  refine lv_iadd hx hb dL_law_205 ?_
  refine hs_sld hC hW hX hbl hi1 dL_law_206 ?_
  refine lv_aload_n hx hb dL_law_207 rfl (lv_at hl 0 rfl) ?_
  refine lv_iload hx hb dL_law_208 (lv_at hl 4 rfl) ?_
  refine lv_iconst (v := 2) hx hb dL_law_210 (by decide) ?_
  refine lv_iadd hx hb dL_law_211 ?_
  refine hs_sld hC hW hX hbl hi2 dL_law_212 ?_
  refine lv_aload_n hx hb dL_law_213 rfl (lv_at hl 0 rfl) ?_
  refine lv_iload hx hb dL_law_214 (lv_at hl 4 rfl) ?_
  refine lv_iconst (v := 3) hx hb dL_law_216 (by decide) ?_
  refine lv_iadd hx hb dL_law_217 ?_
  refine hs_sld hC hW hX hbl hi3 dL_law_218 ?_
  refine lv_if_eq (tgt := 226) hx hb dL_law_219 (by decide) (fun c219 => ?_) (fun c219 => ?_)
  · refine lv_iconst (v := 0) hx hb dL_law_226 (by decide) ?_
    refine lv_aload_n hx hb dL_law_227 rfl (lv_at hl 0 rfl) ?_
    refine lv_iload hx hb dL_law_228 (lv_at hl 4 rfl) ?_
    refine lv_iconst (v := 4) hx hb dL_law_230 (by decide) ?_
    refine lv_iadd hx hb dL_law_231 ?_
    refine hs_sld hC hW hX hbl hi4 dL_law_232 ?_
    refine lv_aload_n hx hb dL_law_233 rfl (lv_at hl 0 rfl) ?_
    refine lv_iload hx hb dL_law_234 (lv_at hl 4 rfl) ?_
    refine lv_iconst (v := 5) hx hb dL_law_236 (by decide) ?_
    refine lv_iadd hx hb dL_law_237 ?_
    refine hs_sld hC hW hX hbl hi5 dL_law_238 ?_
    refine lv_aload_n hx hb dL_law_239 rfl (lv_at hl 0 rfl) ?_
    refine lv_iload hx hb dL_law_240 (lv_at hl 4 rfl) ?_
    refine lv_bipush (v := 6) hx hb dL_law_242 (by decide) ?_
    refine lv_iadd hx hb dL_law_244 ?_
    refine hs_sld hC hW hX hbl hi6 dL_law_245 ?_
    refine lv_aload_n hx hb dL_law_246 rfl (lv_at hl 0 rfl) ?_
    refine lv_iload hx hb dL_law_247 (lv_at hl 4 rfl) ?_
    refine lv_bipush (v := 7) hx hb dL_law_249 (by decide) ?_
    refine lv_iadd hx hb dL_law_251 ?_
    refine hs_sld hC hW hX hbl hi7 dL_law_252 ?_
    refine lv_aload_n hx hb dL_law_253 rfl (lv_at hl 0 rfl) ?_
    refine lv_iload hx hb dL_law_254 (lv_at hl 4 rfl) ?_
    refine lv_bipush (v := 8) hx hb dL_law_256 (by decide) ?_
    refine lv_iadd hx hb dL_law_258 ?_
    refine hs_sld hC hW hX hbl hi8 dL_law_259 ?_
    refine lv_aload_n hx hb dL_law_260 rfl (lv_at hl 3 rfl) ?_
    refine hs_callST hC hs_Tok hW hL (ct_L_tell E hST t cap X d G hT o f9 ho hto hos h99 hJ hB _ _ _ _ _ _ _ _) cw_L_tell lk_L_78 st_L_tell hl.1 ⟨by decide, by decide, (by show cells + 5 ≤ 601024; omega), (by show slots + 260 ≤ 7293034; omega)⟩ (Nat.le_of_ble_eq_true rfl) dL_law_261 (hs_kI (fun z G1 k n H locs hI hk hn hW hL => ?_))
    replace hk : k ≤ 5 := hk
    replace hn : n ≤ 260 := hn
    obtain ⟨t1, cap1, f1, Y, hyy, hS1⟩ := lw_cls hS (hI)
    obtain ⟨N1, S1, hI1⟩ := hS1.2.2.2.2.2.2.2.2.2.2
    replace hW := lw_W hS1 hW
    refine lv_istore (lv' := [(5, .int _), (0, .ref _), (1, .ref _), (2, .ref _), (3, .ref _), (4, .int _)]) hx hb dL_law_264 hl (by decide) rfl (fun ls hl => ?_)
    refine lv_aload_n hx hb dL_law_266 rfl (lv_at hl 3 rfl) ?_
    refine lv_aload_n hx hb dL_law_267 rfl (lv_at hl 1 rfl) ?_
    refine lv_iload hx hb dL_law_268 (lv_at hl 5 rfl) ?_
    refine lv_iconst (v := 1) hx hb dL_law_270 (by decide) ?_
    refine lv_iadd hx hb dL_law_271 ?_
    refine hs_sld hC hW hX hbl hi1 dL_law_272 ?_
    refine lv_aload_n hx hb dL_law_273 rfl (lv_at hl 1 rfl) ?_
    refine lv_iload hx hb dL_law_274 (lv_at hl 5 rfl) ?_
    refine lv_iconst (v := 2) hx hb dL_law_276 (by decide) ?_
    refine lv_iadd hx hb dL_law_277 ?_
    refine hs_sld hC hW hX hbl hi2 dL_law_278 ?_
    refine lv_aload_n hx hb dL_law_279 rfl (lv_at hl 1 rfl) ?_
    refine lv_iload hx hb dL_law_280 (lv_at hl 5 rfl) ?_
    refine lv_iconst (v := 3) hx hb dL_law_282 (by decide) ?_
    refine lv_iadd hx hb dL_law_283 ?_
    refine hs_sld hC hW hX hbl hi3 dL_law_284 ?_
    refine lv_if_eq (tgt := 292) hx hb dL_law_285 (by decide) (fun c285 => ?_) (fun c285 => ?_)
    · refine lv_iconst (v := 0) hx hb dL_law_292 (by decide) ?_
      refine lv_aload_n hx hb dL_law_293 rfl (lv_at hl 1 rfl) ?_
      refine lv_iload hx hb dL_law_294 (lv_at hl 5 rfl) ?_
      refine lv_iconst (v := 4) hx hb dL_law_296 (by decide) ?_
      refine lv_iadd hx hb dL_law_297 ?_
      refine hs_sld hC hW hX hbl hi4 dL_law_298 ?_
      refine lv_aload_n hx hb dL_law_299 rfl (lv_at hl 1 rfl) ?_
      refine lv_iload hx hb dL_law_300 (lv_at hl 5 rfl) ?_
      refine lv_iconst (v := 5) hx hb dL_law_302 (by decide) ?_
      refine lv_iadd hx hb dL_law_303 ?_
      refine hs_sld hC hW hX hbl hi5 dL_law_304 ?_
      refine lv_aload_n hx hb dL_law_305 rfl (lv_at hl 1 rfl) ?_
      refine lv_iload hx hb dL_law_306 (lv_at hl 5 rfl) ?_
      refine lv_bipush (v := 6) hx hb dL_law_308 (by decide) ?_
      refine lv_iadd hx hb dL_law_310 ?_
      refine hs_sld hC hW hX hbl hi6 dL_law_311 ?_
      refine lv_aload_n hx hb dL_law_312 rfl (lv_at hl 1 rfl) ?_
      refine lv_iload hx hb dL_law_313 (lv_at hl 5 rfl) ?_
      refine lv_bipush (v := 7) hx hb dL_law_315 (by decide) ?_
      refine lv_iadd hx hb dL_law_317 ?_
      refine hs_sld hC hW hX hbl hi7 dL_law_318 ?_
      refine lv_aload_n hx hb dL_law_319 rfl (lv_at hl 1 rfl) ?_
      refine lv_iload hx hb dL_law_320 (lv_at hl 5 rfl) ?_
      refine lv_bipush (v := 8) hx hb dL_law_322 (by decide) ?_
      refine lv_iadd hx hb dL_law_324 ?_
      refine hs_sld hC hW hX hbl hi8 dL_law_325 ?_
      refine hs_callV hC hs_Tok hW hL (ct_X8_tell E mo ar ix sc mI mL G1 hS1.2.2.2.2.1 _ _ _ _ _ _ _ _ N1 d S1 hI1) cw_X8_tell lk_L_81 im_X8_tell se_X8_tell (hs_recv hC hW mo_obj rfl) hl.1 ⟨by decide, by decide, (by show cells + k + 0 ≤ 601024; omega), (by show slots + n + 0 ≤ 7293034; omega)⟩ (Nat.le_of_ble_eq_true rfl) dL_law_326 (lw_kI (dm2 := d) hS1 (fun v sc2 mI2 mL2 h => ⟨h.1, h.2.2⟩) (fun x sc2 mI2 mL2 H locs hI2 hS2 hW hL => ?_))
      refine lv_istore (lv' := [(6, .int _), (5, .int _), (0, .ref _), (1, .ref _), (2, .ref _), (3, .ref _), (4, .int _)]) hx hb dL_law_329 hl (by decide) rfl (fun ls hl => ?_)
      refine lv_goto (tgt := 820) hx hb dL_law_331 (by decide) ?_
      exact kk _ _ _ _ k n (by omega) (by omega) ⟨Y, _, _, _, _, _, _, _, hyy.1, hS2, hyy.q h97⟩ hW hL (lv_sub hl [2, 3, 4, 5, 6] rfl)
    refine lv_iconst (v := 1) hx hb dL_law_288 (by decide) ?_
    refine lv_goto (tgt := 293) hx hb dL_law_289 (by decide) ?_
    refine lv_aload_n hx hb dL_law_293 rfl (lv_at hl 1 rfl) ?_
    refine lv_iload hx hb dL_law_294 (lv_at hl 5 rfl) ?_
    refine lv_iconst (v := 4) hx hb dL_law_296 (by decide) ?_
    refine lv_iadd hx hb dL_law_297 ?_
    refine hs_sld hC hW hX hbl hi4 dL_law_298 ?_
    refine lv_aload_n hx hb dL_law_299 rfl (lv_at hl 1 rfl) ?_
    refine lv_iload hx hb dL_law_300 (lv_at hl 5 rfl) ?_
    refine lv_iconst (v := 5) hx hb dL_law_302 (by decide) ?_
    refine lv_iadd hx hb dL_law_303 ?_
    refine hs_sld hC hW hX hbl hi5 dL_law_304 ?_
    refine lv_aload_n hx hb dL_law_305 rfl (lv_at hl 1 rfl) ?_
    refine lv_iload hx hb dL_law_306 (lv_at hl 5 rfl) ?_
    refine lv_bipush (v := 6) hx hb dL_law_308 (by decide) ?_
    refine lv_iadd hx hb dL_law_310 ?_
    refine hs_sld hC hW hX hbl hi6 dL_law_311 ?_
    refine lv_aload_n hx hb dL_law_312 rfl (lv_at hl 1 rfl) ?_
    refine lv_iload hx hb dL_law_313 (lv_at hl 5 rfl) ?_
    refine lv_bipush (v := 7) hx hb dL_law_315 (by decide) ?_
    refine lv_iadd hx hb dL_law_317 ?_
    refine hs_sld hC hW hX hbl hi7 dL_law_318 ?_
    refine lv_aload_n hx hb dL_law_319 rfl (lv_at hl 1 rfl) ?_
    refine lv_iload hx hb dL_law_320 (lv_at hl 5 rfl) ?_
    refine lv_bipush (v := 8) hx hb dL_law_322 (by decide) ?_
    refine lv_iadd hx hb dL_law_324 ?_
    refine hs_sld hC hW hX hbl hi8 dL_law_325 ?_
    refine hs_callV hC hs_Tok hW hL (ct_X8_tell E mo ar ix sc mI mL G1 hS1.2.2.2.2.1 _ _ _ _ _ _ _ _ N1 d S1 hI1) cw_X8_tell lk_L_81 im_X8_tell se_X8_tell (hs_recv hC hW mo_obj rfl) hl.1 ⟨by decide, by decide, (by show cells + k + 0 ≤ 601024; omega), (by show slots + n + 0 ≤ 7293034; omega)⟩ (Nat.le_of_ble_eq_true rfl) dL_law_326 (lw_kI (dm2 := d) hS1 (fun v sc2 mI2 mL2 h => ⟨h.1, h.2.2⟩) (fun x sc2 mI2 mL2 H locs hI2 hS2 hW hL => ?_))
    refine lv_istore (lv' := [(6, .int _), (5, .int _), (0, .ref _), (1, .ref _), (2, .ref _), (3, .ref _), (4, .int _)]) hx hb dL_law_329 hl (by decide) rfl (fun ls hl => ?_)
    refine lv_goto (tgt := 820) hx hb dL_law_331 (by decide) ?_
    exact kk _ _ _ _ k n (by omega) (by omega) ⟨Y, _, _, _, _, _, _, _, hyy.1, hS2, hyy.q h97⟩ hW hL (lv_sub hl [2, 3, 4, 5, 6] rfl)
  refine lv_iconst (v := 1) hx hb dL_law_222 (by decide) ?_
  refine lv_goto (tgt := 227) hx hb dL_law_223 (by decide) ?_
  refine lv_aload_n hx hb dL_law_227 rfl (lv_at hl 0 rfl) ?_
  refine lv_iload hx hb dL_law_228 (lv_at hl 4 rfl) ?_
  refine lv_iconst (v := 4) hx hb dL_law_230 (by decide) ?_
  refine lv_iadd hx hb dL_law_231 ?_
  refine hs_sld hC hW hX hbl hi4 dL_law_232 ?_
  refine lv_aload_n hx hb dL_law_233 rfl (lv_at hl 0 rfl) ?_
  refine lv_iload hx hb dL_law_234 (lv_at hl 4 rfl) ?_
  refine lv_iconst (v := 5) hx hb dL_law_236 (by decide) ?_
  refine lv_iadd hx hb dL_law_237 ?_
  refine hs_sld hC hW hX hbl hi5 dL_law_238 ?_
  refine lv_aload_n hx hb dL_law_239 rfl (lv_at hl 0 rfl) ?_
  refine lv_iload hx hb dL_law_240 (lv_at hl 4 rfl) ?_
  refine lv_bipush (v := 6) hx hb dL_law_242 (by decide) ?_
  refine lv_iadd hx hb dL_law_244 ?_
  refine hs_sld hC hW hX hbl hi6 dL_law_245 ?_
  refine lv_aload_n hx hb dL_law_246 rfl (lv_at hl 0 rfl) ?_
  refine lv_iload hx hb dL_law_247 (lv_at hl 4 rfl) ?_
  refine lv_bipush (v := 7) hx hb dL_law_249 (by decide) ?_
  refine lv_iadd hx hb dL_law_251 ?_
  refine hs_sld hC hW hX hbl hi7 dL_law_252 ?_
  refine lv_aload_n hx hb dL_law_253 rfl (lv_at hl 0 rfl) ?_
  refine lv_iload hx hb dL_law_254 (lv_at hl 4 rfl) ?_
  refine lv_bipush (v := 8) hx hb dL_law_256 (by decide) ?_
  refine lv_iadd hx hb dL_law_258 ?_
  refine hs_sld hC hW hX hbl hi8 dL_law_259 ?_
  refine lv_aload_n hx hb dL_law_260 rfl (lv_at hl 3 rfl) ?_
  refine hs_callST hC hs_Tok hW hL (ct_L_tell E hST t cap X d G hT o f9 ho hto hos h99 hJ hB _ _ _ _ _ _ _ _) cw_L_tell lk_L_78 st_L_tell hl.1 ⟨by decide, by decide, (by show cells + 5 ≤ 601024; omega), (by show slots + 260 ≤ 7293034; omega)⟩ (Nat.le_of_ble_eq_true rfl) dL_law_261 (hs_kI (fun z G1 k n H locs hI hk hn hW hL => ?_))
  replace hk : k ≤ 5 := hk
  replace hn : n ≤ 260 := hn
  obtain ⟨t1, cap1, f1, Y, hyy, hS1⟩ := lw_cls hS (hI)
  obtain ⟨N1, S1, hI1⟩ := hS1.2.2.2.2.2.2.2.2.2.2
  replace hW := lw_W hS1 hW
  refine lv_istore (lv' := [(5, .int _), (0, .ref _), (1, .ref _), (2, .ref _), (3, .ref _), (4, .int _)]) hx hb dL_law_264 hl (by decide) rfl (fun ls hl => ?_)
  refine lv_aload_n hx hb dL_law_266 rfl (lv_at hl 3 rfl) ?_
  refine lv_aload_n hx hb dL_law_267 rfl (lv_at hl 1 rfl) ?_
  refine lv_iload hx hb dL_law_268 (lv_at hl 5 rfl) ?_
  refine lv_iconst (v := 1) hx hb dL_law_270 (by decide) ?_
  refine lv_iadd hx hb dL_law_271 ?_
  refine hs_sld hC hW hX hbl hi1 dL_law_272 ?_
  refine lv_aload_n hx hb dL_law_273 rfl (lv_at hl 1 rfl) ?_
  refine lv_iload hx hb dL_law_274 (lv_at hl 5 rfl) ?_
  refine lv_iconst (v := 2) hx hb dL_law_276 (by decide) ?_
  refine lv_iadd hx hb dL_law_277 ?_
  refine hs_sld hC hW hX hbl hi2 dL_law_278 ?_
  refine lv_aload_n hx hb dL_law_279 rfl (lv_at hl 1 rfl) ?_
  refine lv_iload hx hb dL_law_280 (lv_at hl 5 rfl) ?_
  refine lv_iconst (v := 3) hx hb dL_law_282 (by decide) ?_
  refine lv_iadd hx hb dL_law_283 ?_
  refine hs_sld hC hW hX hbl hi3 dL_law_284 ?_
  refine lv_if_eq (tgt := 292) hx hb dL_law_285 (by decide) (fun c285 => ?_) (fun c285 => ?_)
  · refine lv_iconst (v := 0) hx hb dL_law_292 (by decide) ?_
    refine lv_aload_n hx hb dL_law_293 rfl (lv_at hl 1 rfl) ?_
    refine lv_iload hx hb dL_law_294 (lv_at hl 5 rfl) ?_
    refine lv_iconst (v := 4) hx hb dL_law_296 (by decide) ?_
    refine lv_iadd hx hb dL_law_297 ?_
    refine hs_sld hC hW hX hbl hi4 dL_law_298 ?_
    refine lv_aload_n hx hb dL_law_299 rfl (lv_at hl 1 rfl) ?_
    refine lv_iload hx hb dL_law_300 (lv_at hl 5 rfl) ?_
    refine lv_iconst (v := 5) hx hb dL_law_302 (by decide) ?_
    refine lv_iadd hx hb dL_law_303 ?_
    refine hs_sld hC hW hX hbl hi5 dL_law_304 ?_
    refine lv_aload_n hx hb dL_law_305 rfl (lv_at hl 1 rfl) ?_
    refine lv_iload hx hb dL_law_306 (lv_at hl 5 rfl) ?_
    refine lv_bipush (v := 6) hx hb dL_law_308 (by decide) ?_
    refine lv_iadd hx hb dL_law_310 ?_
    refine hs_sld hC hW hX hbl hi6 dL_law_311 ?_
    refine lv_aload_n hx hb dL_law_312 rfl (lv_at hl 1 rfl) ?_
    refine lv_iload hx hb dL_law_313 (lv_at hl 5 rfl) ?_
    refine lv_bipush (v := 7) hx hb dL_law_315 (by decide) ?_
    refine lv_iadd hx hb dL_law_317 ?_
    refine hs_sld hC hW hX hbl hi7 dL_law_318 ?_
    refine lv_aload_n hx hb dL_law_319 rfl (lv_at hl 1 rfl) ?_
    refine lv_iload hx hb dL_law_320 (lv_at hl 5 rfl) ?_
    refine lv_bipush (v := 8) hx hb dL_law_322 (by decide) ?_
    refine lv_iadd hx hb dL_law_324 ?_
    refine hs_sld hC hW hX hbl hi8 dL_law_325 ?_
    refine hs_callV hC hs_Tok hW hL (ct_X8_tell E mo ar ix sc mI mL G1 hS1.2.2.2.2.1 _ _ _ _ _ _ _ _ N1 d S1 hI1) cw_X8_tell lk_L_81 im_X8_tell se_X8_tell (hs_recv hC hW mo_obj rfl) hl.1 ⟨by decide, by decide, (by show cells + k + 0 ≤ 601024; omega), (by show slots + n + 0 ≤ 7293034; omega)⟩ (Nat.le_of_ble_eq_true rfl) dL_law_326 (lw_kI (dm2 := d) hS1 (fun v sc2 mI2 mL2 h => ⟨h.1, h.2.2⟩) (fun x sc2 mI2 mL2 H locs hI2 hS2 hW hL => ?_))
    refine lv_istore (lv' := [(6, .int _), (5, .int _), (0, .ref _), (1, .ref _), (2, .ref _), (3, .ref _), (4, .int _)]) hx hb dL_law_329 hl (by decide) rfl (fun ls hl => ?_)
    refine lv_goto (tgt := 820) hx hb dL_law_331 (by decide) ?_
    exact kk _ _ _ _ k n (by omega) (by omega) ⟨Y, _, _, _, _, _, _, _, hyy.1, hS2, hyy.q h97⟩ hW hL (lv_sub hl [2, 3, 4, 5, 6] rfl)
  refine lv_iconst (v := 1) hx hb dL_law_288 (by decide) ?_
  refine lv_goto (tgt := 293) hx hb dL_law_289 (by decide) ?_
  refine lv_aload_n hx hb dL_law_293 rfl (lv_at hl 1 rfl) ?_
  refine lv_iload hx hb dL_law_294 (lv_at hl 5 rfl) ?_
  refine lv_iconst (v := 4) hx hb dL_law_296 (by decide) ?_
  refine lv_iadd hx hb dL_law_297 ?_
  refine hs_sld hC hW hX hbl hi4 dL_law_298 ?_
  refine lv_aload_n hx hb dL_law_299 rfl (lv_at hl 1 rfl) ?_
  refine lv_iload hx hb dL_law_300 (lv_at hl 5 rfl) ?_
  refine lv_iconst (v := 5) hx hb dL_law_302 (by decide) ?_
  refine lv_iadd hx hb dL_law_303 ?_
  refine hs_sld hC hW hX hbl hi5 dL_law_304 ?_
  refine lv_aload_n hx hb dL_law_305 rfl (lv_at hl 1 rfl) ?_
  refine lv_iload hx hb dL_law_306 (lv_at hl 5 rfl) ?_
  refine lv_bipush (v := 6) hx hb dL_law_308 (by decide) ?_
  refine lv_iadd hx hb dL_law_310 ?_
  refine hs_sld hC hW hX hbl hi6 dL_law_311 ?_
  refine lv_aload_n hx hb dL_law_312 rfl (lv_at hl 1 rfl) ?_
  refine lv_iload hx hb dL_law_313 (lv_at hl 5 rfl) ?_
  refine lv_bipush (v := 7) hx hb dL_law_315 (by decide) ?_
  refine lv_iadd hx hb dL_law_317 ?_
  refine hs_sld hC hW hX hbl hi7 dL_law_318 ?_
  refine lv_aload_n hx hb dL_law_319 rfl (lv_at hl 1 rfl) ?_
  refine lv_iload hx hb dL_law_320 (lv_at hl 5 rfl) ?_
  refine lv_bipush (v := 8) hx hb dL_law_322 (by decide) ?_
  refine lv_iadd hx hb dL_law_324 ?_
  refine hs_sld hC hW hX hbl hi8 dL_law_325 ?_
  refine hs_callV hC hs_Tok hW hL (ct_X8_tell E mo ar ix sc mI mL G1 hS1.2.2.2.2.1 _ _ _ _ _ _ _ _ N1 d S1 hI1) cw_X8_tell lk_L_81 im_X8_tell se_X8_tell (hs_recv hC hW mo_obj rfl) hl.1 ⟨by decide, by decide, (by show cells + k + 0 ≤ 601024; omega), (by show slots + n + 0 ≤ 7293034; omega)⟩ (Nat.le_of_ble_eq_true rfl) dL_law_326 (lw_kI (dm2 := d) hS1 (fun v sc2 mI2 mL2 h => ⟨h.1, h.2.2⟩) (fun x sc2 mI2 mL2 H locs hI2 hS2 hW hL => ?_))
  refine lv_istore (lv' := [(6, .int _), (5, .int _), (0, .ref _), (1, .ref _), (2, .ref _), (3, .ref _), (4, .int _)]) hx hb dL_law_329 hl (by decide) rfl (fun ls hl => ?_)
  refine lv_goto (tgt := 820) hx hb dL_law_331 (by decide) ?_
  exact kk _ _ _ _ k n (by omega) (by omega) ⟨Y, _, _, _, _, _, _, _, hyy.1, hS2, hyy.q h97⟩ hW hL (lv_sub hl [2, 3, 4, 5, 6] rfl)
set_option maxHeartbeats 4000000 in
set_option maxRecDepth 100000 in
theorem lw_case3 (E : hs_E) (hST : E.1.stackTraces = false) {p : Program} {e : Env} {s : State} {m : MethodId} {args : Array Value} {below : List Frame} {meth : Method} {c : Code} {Q : State → Prop} (hC : hs_C (eD E) vwCl (eT E) (eZ E) (eH E) hs_Ts p s m args c cL_law 8 RL) {b L : Nat} {xs : Nat → Int32} (hX : va_X b L xs s (eH E)) (hbl : b < (eH E).size) {i : Int32} (hi0 : vp_in (i) L) (hi1 : vp_in (i + 1) L) (hi2 : vp_in (i + 2) L) (hi3 : vp_in (i + 3) L) (hi4 : vp_in (i + 4) L) (hi5 : vp_in (i + 5) L) (hi6 : vp_in (i + 6) L) (hi7 : vp_in (i + 7) L) (hi8 : vp_in (i + 8) L) {jj : Nat} (hj9 : jj ≤ 512) {x o mo : Nat} {ar : Nat → Nat} {ix : Nat → Option Nat} {G : hs_G} (hB : lw_B E x o mo ar ix jj G) {H : Heap} {locs : List Loc} {ls : Array Slot} {cells slots : Nat} (hW : hs_W (eD E) vwCl (eH E) G H) (hL : ∀ q ∈ locs, (eH E).size ≤ q.base) (hl : lv_has ls 8 [(0, .ref b), (1, .ref x), (2, .ref mo), (3, .ref o), (4, .int i)]) (hc9 : cells + 500 ≤ 601024) (hn9 : slots + 3000 ≤ 7293034)
    (kk : lw_Kk E p e s m args below meth c b i x o mo ar ix jj cells slots Q 820) : W p E.1 e room_1 s m args below meth c H locs cells slots Q (F0 m 334 ls []) := by
  obtain ⟨X, t, cap, d, sc, mI, mL, f9, rfl, hS, h99, hJ, h97⟩ := hB
  have hB : X 97 ≤ 1152921504606846976 := by omega
  obtain ⟨hx, hb, hml, hown, hts, -⟩ := id hC
  obtain ⟨hT, ho, hto, hos, -⟩ := id hS
  refine lv_aload_n hx hb dL_law_334 rfl (lv_at hl 1 rfl) ?_
  refine lv_aload_n hx hb dL_law_335 rfl (lv_at hl 0 rfl) ?_
  refine lv_iload hx hb dL_law_336 (lv_at hl 4 rfl) ?_
  refine lv_iconst (v := 1) hx hb dL_law_338 (by decide) ?_
  refine lv_iadd hx hb dL_law_339 ?_
  refine hs_sld hC hW hX hbl hi1 dL_law_340 ?_
  refine lv_aload_n hx hb dL_law_341 rfl (lv_at hl 0 rfl) ?_
  refine lv_iload hx hb dL_law_342 (lv_at hl 4 rfl) ?_
  refine lv_iconst (v := 2) hx hb dL_law_344 (by decide) ?_
  refine lv_iadd hx hb dL_law_345 ?_
  refine hs_sld hC hW hX hbl hi2 dL_law_346 ?_
  refine lv_aload_n hx hb dL_law_347 rfl (lv_at hl 0 rfl) ?_
  refine lv_iload hx hb dL_law_348 (lv_at hl 4 rfl) ?_
  refine lv_iconst (v := 3) hx hb dL_law_350 (by decide) ?_
  refine lv_iadd hx hb dL_law_351 ?_
  refine hs_sld hC hW hX hbl hi3 dL_law_352 ?_
  refine lv_if_eq (tgt := 360) hx hb dL_law_353 (by decide) (fun c353 => ?_) (fun c353 => ?_)
  · refine lv_iconst (v := 0) hx hb dL_law_360 (by decide) ?_
    refine lv_aload_n hx hb dL_law_361 rfl (lv_at hl 3 rfl) ?_
    refine hs_callST hC hs_Tok hW hL (ct_L_hold E hST t cap X d G hT o f9 ho hto hos h99 hJ hB _ _ _ (by first | exact Or.inl rfl | exact Or.inr rfl)) cw_L_hold lk_L_82 st_L_hold hl.1 ⟨by decide, by decide, (by show cells + 1 ≤ 601024; omega), (by show slots + 6 ≤ 7293034; omega)⟩ (Nat.le_of_ble_eq_true rfl) dL_law_362 (hs_kI (fun z G1 k n H locs hI hk hn hW hL => ?_))
    replace hk : k ≤ 1 := hk
    replace hn : n ≤ 6 := hn
    obtain ⟨t1, cap1, f1, Y, hyy, hS1⟩ := lw_cls hS (hI)
    obtain ⟨N1, S1, hI1⟩ := hS1.2.2.2.2.2.2.2.2.2.2
    replace hW := lw_W hS1 hW
    refine lv_istore (lv' := [(5, .int _), (0, .ref _), (1, .ref _), (2, .ref _), (3, .ref _), (4, .int _)]) hx hb dL_law_365 hl (by decide) rfl (fun ls hl => ?_)
    refine lv_aload_n hx hb dL_law_367 rfl (lv_at hl 3 rfl) ?_
    refine lv_aload_n hx hb dL_law_368 rfl (lv_at hl 1 rfl) ?_
    refine lv_iload hx hb dL_law_369 (lv_at hl 5 rfl) ?_
    refine lv_iconst (v := 1) hx hb dL_law_371 (by decide) ?_
    refine lv_iadd hx hb dL_law_372 ?_
    refine hs_sld hC hW hX hbl hi1 dL_law_373 ?_
    refine lv_aload_n hx hb dL_law_374 rfl (lv_at hl 1 rfl) ?_
    refine lv_iload hx hb dL_law_375 (lv_at hl 5 rfl) ?_
    refine lv_iconst (v := 2) hx hb dL_law_377 (by decide) ?_
    refine lv_iadd hx hb dL_law_378 ?_
    refine hs_sld hC hW hX hbl hi2 dL_law_379 ?_
    refine lv_aload_n hx hb dL_law_380 rfl (lv_at hl 1 rfl) ?_
    refine lv_iload hx hb dL_law_381 (lv_at hl 5 rfl) ?_
    refine lv_iconst (v := 3) hx hb dL_law_383 (by decide) ?_
    refine lv_iadd hx hb dL_law_384 ?_
    refine hs_sld hC hW hX hbl hi3 dL_law_385 ?_
    refine lv_if_eq (tgt := 393) hx hb dL_law_386 (by decide) (fun c386 => ?_) (fun c386 => ?_)
    · refine lv_iconst (v := 0) hx hb dL_law_393 (by decide) ?_
      refine hs_callV hC hs_Tok hW hL (ct_X8_hold E mo ar ix sc mI mL G1 hS1.2.2.2.2.1 _ _ _ N1 d S1 hI1) cw_X8_hold lk_L_85 im_X8_hold se_X8_hold (hs_recv hC hW mo_obj rfl) hl.1 ⟨by decide, by decide, (by show cells + k + 0 ≤ 601024; omega), (by show slots + n + 0 ≤ 7293034; omega)⟩ (Nat.le_of_ble_eq_true rfl) dL_law_394 (lw_kI (dm2 := d) hS1 (fun v sc2 mI2 mL2 h => ⟨h.1, h.2.1⟩) (fun x sc2 mI2 mL2 H locs hI2 hS2 hW hL => ?_))
      refine lv_istore (lv' := [(6, .int _), (5, .int _), (0, .ref _), (1, .ref _), (2, .ref _), (3, .ref _), (4, .int _)]) hx hb dL_law_397 hl (by decide) rfl (fun ls hl => ?_)
      refine lv_goto (tgt := 820) hx hb dL_law_399 (by decide) ?_
      exact kk _ _ _ _ k n (by omega) (by omega) ⟨Y, _, _, _, _, _, _, _, hyy.1, hS2, hyy.q h97⟩ hW hL (lv_sub hl [2, 3, 4, 5, 6] rfl)
    refine lv_iconst (v := 1) hx hb dL_law_389 (by decide) ?_
    refine lv_goto (tgt := 394) hx hb dL_law_390 (by decide) ?_
    refine hs_callV hC hs_Tok hW hL (ct_X8_hold E mo ar ix sc mI mL G1 hS1.2.2.2.2.1 _ _ _ N1 d S1 hI1) cw_X8_hold lk_L_85 im_X8_hold se_X8_hold (hs_recv hC hW mo_obj rfl) hl.1 ⟨by decide, by decide, (by show cells + k + 0 ≤ 601024; omega), (by show slots + n + 0 ≤ 7293034; omega)⟩ (Nat.le_of_ble_eq_true rfl) dL_law_394 (lw_kI (dm2 := d) hS1 (fun v sc2 mI2 mL2 h => ⟨h.1, h.2.1⟩) (fun x sc2 mI2 mL2 H locs hI2 hS2 hW hL => ?_))
    refine lv_istore (lv' := [(6, .int _), (5, .int _), (0, .ref _), (1, .ref _), (2, .ref _), (3, .ref _), (4, .int _)]) hx hb dL_law_397 hl (by decide) rfl (fun ls hl => ?_)
    refine lv_goto (tgt := 820) hx hb dL_law_399 (by decide) ?_
    exact kk _ _ _ _ k n (by omega) (by omega) ⟨Y, _, _, _, _, _, _, _, hyy.1, hS2, hyy.q h97⟩ hW hL (lv_sub hl [2, 3, 4, 5, 6] rfl)
  refine lv_iconst (v := 1) hx hb dL_law_356 (by decide) ?_
  refine lv_goto (tgt := 361) hx hb dL_law_357 (by decide) ?_
  refine lv_aload_n hx hb dL_law_361 rfl (lv_at hl 3 rfl) ?_
  refine hs_callST hC hs_Tok hW hL (ct_L_hold E hST t cap X d G hT o f9 ho hto hos h99 hJ hB _ _ _ (by first | exact Or.inl rfl | exact Or.inr rfl)) cw_L_hold lk_L_82 st_L_hold hl.1 ⟨by decide, by decide, (by show cells + 1 ≤ 601024; omega), (by show slots + 6 ≤ 7293034; omega)⟩ (Nat.le_of_ble_eq_true rfl) dL_law_362 (hs_kI (fun z G1 k n H locs hI hk hn hW hL => ?_))
  replace hk : k ≤ 1 := hk
  replace hn : n ≤ 6 := hn
  obtain ⟨t1, cap1, f1, Y, hyy, hS1⟩ := lw_cls hS (hI)
  obtain ⟨N1, S1, hI1⟩ := hS1.2.2.2.2.2.2.2.2.2.2
  replace hW := lw_W hS1 hW
  refine lv_istore (lv' := [(5, .int _), (0, .ref _), (1, .ref _), (2, .ref _), (3, .ref _), (4, .int _)]) hx hb dL_law_365 hl (by decide) rfl (fun ls hl => ?_)
  refine lv_aload_n hx hb dL_law_367 rfl (lv_at hl 3 rfl) ?_
  refine lv_aload_n hx hb dL_law_368 rfl (lv_at hl 1 rfl) ?_
  refine lv_iload hx hb dL_law_369 (lv_at hl 5 rfl) ?_
  refine lv_iconst (v := 1) hx hb dL_law_371 (by decide) ?_
  refine lv_iadd hx hb dL_law_372 ?_
  refine hs_sld hC hW hX hbl hi1 dL_law_373 ?_
  refine lv_aload_n hx hb dL_law_374 rfl (lv_at hl 1 rfl) ?_
  refine lv_iload hx hb dL_law_375 (lv_at hl 5 rfl) ?_
  refine lv_iconst (v := 2) hx hb dL_law_377 (by decide) ?_
  refine lv_iadd hx hb dL_law_378 ?_
  refine hs_sld hC hW hX hbl hi2 dL_law_379 ?_
  refine lv_aload_n hx hb dL_law_380 rfl (lv_at hl 1 rfl) ?_
  refine lv_iload hx hb dL_law_381 (lv_at hl 5 rfl) ?_
  refine lv_iconst (v := 3) hx hb dL_law_383 (by decide) ?_
  refine lv_iadd hx hb dL_law_384 ?_
  refine hs_sld hC hW hX hbl hi3 dL_law_385 ?_
  refine lv_if_eq (tgt := 393) hx hb dL_law_386 (by decide) (fun c386 => ?_) (fun c386 => ?_)
  · refine lv_iconst (v := 0) hx hb dL_law_393 (by decide) ?_
    refine hs_callV hC hs_Tok hW hL (ct_X8_hold E mo ar ix sc mI mL G1 hS1.2.2.2.2.1 _ _ _ N1 d S1 hI1) cw_X8_hold lk_L_85 im_X8_hold se_X8_hold (hs_recv hC hW mo_obj rfl) hl.1 ⟨by decide, by decide, (by show cells + k + 0 ≤ 601024; omega), (by show slots + n + 0 ≤ 7293034; omega)⟩ (Nat.le_of_ble_eq_true rfl) dL_law_394 (lw_kI (dm2 := d) hS1 (fun v sc2 mI2 mL2 h => ⟨h.1, h.2.1⟩) (fun x sc2 mI2 mL2 H locs hI2 hS2 hW hL => ?_))
    refine lv_istore (lv' := [(6, .int _), (5, .int _), (0, .ref _), (1, .ref _), (2, .ref _), (3, .ref _), (4, .int _)]) hx hb dL_law_397 hl (by decide) rfl (fun ls hl => ?_)
    refine lv_goto (tgt := 820) hx hb dL_law_399 (by decide) ?_
    exact kk _ _ _ _ k n (by omega) (by omega) ⟨Y, _, _, _, _, _, _, _, hyy.1, hS2, hyy.q h97⟩ hW hL (lv_sub hl [2, 3, 4, 5, 6] rfl)
  refine lv_iconst (v := 1) hx hb dL_law_389 (by decide) ?_
  refine lv_goto (tgt := 394) hx hb dL_law_390 (by decide) ?_
  refine hs_callV hC hs_Tok hW hL (ct_X8_hold E mo ar ix sc mI mL G1 hS1.2.2.2.2.1 _ _ _ N1 d S1 hI1) cw_X8_hold lk_L_85 im_X8_hold se_X8_hold (hs_recv hC hW mo_obj rfl) hl.1 ⟨by decide, by decide, (by show cells + k + 0 ≤ 601024; omega), (by show slots + n + 0 ≤ 7293034; omega)⟩ (Nat.le_of_ble_eq_true rfl) dL_law_394 (lw_kI (dm2 := d) hS1 (fun v sc2 mI2 mL2 h => ⟨h.1, h.2.1⟩) (fun x sc2 mI2 mL2 H locs hI2 hS2 hW hL => ?_))
  refine lv_istore (lv' := [(6, .int _), (5, .int _), (0, .ref _), (1, .ref _), (2, .ref _), (3, .ref _), (4, .int _)]) hx hb dL_law_397 hl (by decide) rfl (fun ls hl => ?_)
  refine lv_goto (tgt := 820) hx hb dL_law_399 (by decide) ?_
  exact kk _ _ _ _ k n (by omega) (by omega) ⟨Y, _, _, _, _, _, _, _, hyy.1, hS2, hyy.q h97⟩ hW hL (lv_sub hl [2, 3, 4, 5, 6] rfl)
set_option maxHeartbeats 4000000 in
set_option maxRecDepth 100000 in
theorem lw_case4 (E : hs_E) (hST : E.1.stackTraces = false) {p : Program} {e : Env} {s : State} {m : MethodId} {args : Array Value} {below : List Frame} {meth : Method} {c : Code} {Q : State → Prop} (hC : hs_C (eD E) vwCl (eT E) (eZ E) (eH E) hs_Ts p s m args c cL_law 8 RL) {b L : Nat} {xs : Nat → Int32} (hX : va_X b L xs s (eH E)) (hbl : b < (eH E).size) {i : Int32} (hi0 : vp_in (i) L) (hi1 : vp_in (i + 1) L) (hi2 : vp_in (i + 2) L) (hi3 : vp_in (i + 3) L) (hi4 : vp_in (i + 4) L) (hi5 : vp_in (i + 5) L) (hi6 : vp_in (i + 6) L) (hi7 : vp_in (i + 7) L) (hi8 : vp_in (i + 8) L) {jj : Nat} (hj9 : jj ≤ 512) {x o mo : Nat} {ar : Nat → Nat} {ix : Nat → Option Nat} {G : hs_G} (hB : lw_B E x o mo ar ix jj G) {H : Heap} {locs : List Loc} {ls : Array Slot} {cells slots : Nat} (hW : hs_W (eD E) vwCl (eH E) G H) (hL : ∀ q ∈ locs, (eH E).size ≤ q.base) (hl : lv_has ls 8 [(0, .ref b), (1, .ref x), (2, .ref mo), (3, .ref o), (4, .int i)]) (hc9 : cells + 500 ≤ 601024) (hn9 : slots + 3000 ≤ 7293034)
    (kk : lw_Kk E p e s m args below meth c b i x o mo ar ix jj cells slots Q 820) : W p E.1 e room_1 s m args below meth c H locs cells slots Q (F0 m 402 ls []) := by
  obtain ⟨X, t, cap, d, sc, mI, mL, f9, rfl, hS, h99, hJ, h97⟩ := hB
  have hB : X 97 ≤ 1152921504606846976 := by omega
  obtain ⟨hx, hb, hml, hown, hts, -⟩ := id hC
  obtain ⟨hT, ho, hto, hos, -⟩ := id hS
  refine lv_aload_n hx hb dL_law_402 rfl (lv_at hl 1 rfl) ?_
  refine lv_aload_n hx hb dL_law_403 rfl (lv_at hl 0 rfl) ?_
  refine lv_iload hx hb dL_law_404 (lv_at hl 4 rfl) ?_
  refine lv_iconst (v := 1) hx hb dL_law_406 (by decide) ?_
  refine lv_iadd hx hb dL_law_407 ?_
  refine hs_sld hC hW hX hbl hi1 dL_law_408 ?_
  refine lv_aload_n hx hb dL_law_409 rfl (lv_at hl 0 rfl) ?_
  refine lv_iload hx hb dL_law_410 (lv_at hl 4 rfl) ?_
  refine lv_iconst (v := 2) hx hb dL_law_412 (by decide) ?_
  refine lv_iadd hx hb dL_law_413 ?_
  refine hs_sld hC hW hX hbl hi2 dL_law_414 ?_
  refine lv_aload_n hx hb dL_law_415 rfl (lv_at hl 0 rfl) ?_
  refine lv_iload hx hb dL_law_416 (lv_at hl 4 rfl) ?_
  refine lv_iconst (v := 3) hx hb dL_law_418 (by decide) ?_
  refine lv_iadd hx hb dL_law_419 ?_
  refine hs_sld hC hW hX hbl hi3 dL_law_420 ?_
  refine lv_if_eq (tgt := 428) hx hb dL_law_421 (by decide) (fun c421 => ?_) (fun c421 => ?_)
  · refine lv_iconst (v := 0) hx hb dL_law_428 (by decide) ?_
    refine lv_aload_n hx hb dL_law_429 rfl (lv_at hl 3 rfl) ?_
    refine hs_callST hC hs_Tok hW hL (ct_L_rank E hST t cap X d G hT o f9 ho hto hos h99 hJ hB _ _ _ (by first | exact Or.inl rfl | exact Or.inr rfl)) cw_L_rank lk_L_86 st_L_rank hl.1 ⟨by decide, by decide, (by show cells + 1 ≤ 601024; omega), (by show slots + 6 ≤ 7293034; omega)⟩ (Nat.le_of_ble_eq_true rfl) dL_law_430 (hs_kI (fun z G1 k n H locs hI hk hn hW hL => ?_))
    replace hk : k ≤ 1 := hk
    replace hn : n ≤ 6 := hn
    obtain ⟨t1, cap1, f1, Y, hyy, hS1⟩ := lw_cls hS (hI)
    obtain ⟨N1, S1, hI1⟩ := hS1.2.2.2.2.2.2.2.2.2.2
    replace hW := lw_W hS1 hW
    refine lv_istore (lv' := [(5, .int _), (0, .ref _), (1, .ref _), (2, .ref _), (3, .ref _), (4, .int _)]) hx hb dL_law_433 hl (by decide) rfl (fun ls hl => ?_)
    refine lv_aload_n hx hb dL_law_435 rfl (lv_at hl 3 rfl) ?_
    refine lv_aload_n hx hb dL_law_436 rfl (lv_at hl 1 rfl) ?_
    refine lv_iload hx hb dL_law_437 (lv_at hl 5 rfl) ?_
    refine lv_iconst (v := 1) hx hb dL_law_439 (by decide) ?_
    refine lv_iadd hx hb dL_law_440 ?_
    refine hs_sld hC hW hX hbl hi1 dL_law_441 ?_
    refine lv_aload_n hx hb dL_law_442 rfl (lv_at hl 1 rfl) ?_
    refine lv_iload hx hb dL_law_443 (lv_at hl 5 rfl) ?_
    refine lv_iconst (v := 2) hx hb dL_law_445 (by decide) ?_
    refine lv_iadd hx hb dL_law_446 ?_
    refine hs_sld hC hW hX hbl hi2 dL_law_447 ?_
    refine lv_aload_n hx hb dL_law_448 rfl (lv_at hl 1 rfl) ?_
    refine lv_iload hx hb dL_law_449 (lv_at hl 5 rfl) ?_
    refine lv_iconst (v := 3) hx hb dL_law_451 (by decide) ?_
    refine lv_iadd hx hb dL_law_452 ?_
    refine hs_sld hC hW hX hbl hi3 dL_law_453 ?_
    refine lv_if_eq (tgt := 461) hx hb dL_law_454 (by decide) (fun c454 => ?_) (fun c454 => ?_)
    · refine lv_iconst (v := 0) hx hb dL_law_461 (by decide) ?_
      refine hs_callV hC hs_Tok hW hL (ct_X8_rank E mo ar ix sc mI mL G1 hS1.2.2.2.2.1 _ _ _ N1 d S1 hI1) cw_X8_rank lk_L_88 im_X8_rank se_X8_rank (hs_recv hC hW mo_obj rfl) hl.1 ⟨by decide, by decide, (by show cells + k + 0 ≤ 601024; omega), (by show slots + n + 0 ≤ 7293034; omega)⟩ (Nat.le_of_ble_eq_true rfl) dL_law_462 (lw_kI (dm2 := d) hS1 (fun v sc2 mI2 mL2 h => ⟨h.1, h.2.1⟩) (fun x sc2 mI2 mL2 H locs hI2 hS2 hW hL => ?_))
      refine lv_istore (lv' := [(6, .int _), (5, .int _), (0, .ref _), (1, .ref _), (2, .ref _), (3, .ref _), (4, .int _)]) hx hb dL_law_465 hl (by decide) rfl (fun ls hl => ?_)
      refine lv_goto (tgt := 820) hx hb dL_law_467 (by decide) ?_
      exact kk _ _ _ _ k n (by omega) (by omega) ⟨Y, _, _, _, _, _, _, _, hyy.1, hS2, hyy.q h97⟩ hW hL (lv_sub hl [2, 3, 4, 5, 6] rfl)
    refine lv_iconst (v := 1) hx hb dL_law_457 (by decide) ?_
    refine lv_goto (tgt := 462) hx hb dL_law_458 (by decide) ?_
    refine hs_callV hC hs_Tok hW hL (ct_X8_rank E mo ar ix sc mI mL G1 hS1.2.2.2.2.1 _ _ _ N1 d S1 hI1) cw_X8_rank lk_L_88 im_X8_rank se_X8_rank (hs_recv hC hW mo_obj rfl) hl.1 ⟨by decide, by decide, (by show cells + k + 0 ≤ 601024; omega), (by show slots + n + 0 ≤ 7293034; omega)⟩ (Nat.le_of_ble_eq_true rfl) dL_law_462 (lw_kI (dm2 := d) hS1 (fun v sc2 mI2 mL2 h => ⟨h.1, h.2.1⟩) (fun x sc2 mI2 mL2 H locs hI2 hS2 hW hL => ?_))
    refine lv_istore (lv' := [(6, .int _), (5, .int _), (0, .ref _), (1, .ref _), (2, .ref _), (3, .ref _), (4, .int _)]) hx hb dL_law_465 hl (by decide) rfl (fun ls hl => ?_)
    refine lv_goto (tgt := 820) hx hb dL_law_467 (by decide) ?_
    exact kk _ _ _ _ k n (by omega) (by omega) ⟨Y, _, _, _, _, _, _, _, hyy.1, hS2, hyy.q h97⟩ hW hL (lv_sub hl [2, 3, 4, 5, 6] rfl)
  refine lv_iconst (v := 1) hx hb dL_law_424 (by decide) ?_
  refine lv_goto (tgt := 429) hx hb dL_law_425 (by decide) ?_
  refine lv_aload_n hx hb dL_law_429 rfl (lv_at hl 3 rfl) ?_
  refine hs_callST hC hs_Tok hW hL (ct_L_rank E hST t cap X d G hT o f9 ho hto hos h99 hJ hB _ _ _ (by first | exact Or.inl rfl | exact Or.inr rfl)) cw_L_rank lk_L_86 st_L_rank hl.1 ⟨by decide, by decide, (by show cells + 1 ≤ 601024; omega), (by show slots + 6 ≤ 7293034; omega)⟩ (Nat.le_of_ble_eq_true rfl) dL_law_430 (hs_kI (fun z G1 k n H locs hI hk hn hW hL => ?_))
  replace hk : k ≤ 1 := hk
  replace hn : n ≤ 6 := hn
  obtain ⟨t1, cap1, f1, Y, hyy, hS1⟩ := lw_cls hS (hI)
  obtain ⟨N1, S1, hI1⟩ := hS1.2.2.2.2.2.2.2.2.2.2
  replace hW := lw_W hS1 hW
  refine lv_istore (lv' := [(5, .int _), (0, .ref _), (1, .ref _), (2, .ref _), (3, .ref _), (4, .int _)]) hx hb dL_law_433 hl (by decide) rfl (fun ls hl => ?_)
  refine lv_aload_n hx hb dL_law_435 rfl (lv_at hl 3 rfl) ?_
  refine lv_aload_n hx hb dL_law_436 rfl (lv_at hl 1 rfl) ?_
  refine lv_iload hx hb dL_law_437 (lv_at hl 5 rfl) ?_
  refine lv_iconst (v := 1) hx hb dL_law_439 (by decide) ?_
  refine lv_iadd hx hb dL_law_440 ?_
  refine hs_sld hC hW hX hbl hi1 dL_law_441 ?_
  refine lv_aload_n hx hb dL_law_442 rfl (lv_at hl 1 rfl) ?_
  refine lv_iload hx hb dL_law_443 (lv_at hl 5 rfl) ?_
  refine lv_iconst (v := 2) hx hb dL_law_445 (by decide) ?_
  refine lv_iadd hx hb dL_law_446 ?_
  refine hs_sld hC hW hX hbl hi2 dL_law_447 ?_
  refine lv_aload_n hx hb dL_law_448 rfl (lv_at hl 1 rfl) ?_
  refine lv_iload hx hb dL_law_449 (lv_at hl 5 rfl) ?_
  refine lv_iconst (v := 3) hx hb dL_law_451 (by decide) ?_
  refine lv_iadd hx hb dL_law_452 ?_
  refine hs_sld hC hW hX hbl hi3 dL_law_453 ?_
  refine lv_if_eq (tgt := 461) hx hb dL_law_454 (by decide) (fun c454 => ?_) (fun c454 => ?_)
  · refine lv_iconst (v := 0) hx hb dL_law_461 (by decide) ?_
    refine hs_callV hC hs_Tok hW hL (ct_X8_rank E mo ar ix sc mI mL G1 hS1.2.2.2.2.1 _ _ _ N1 d S1 hI1) cw_X8_rank lk_L_88 im_X8_rank se_X8_rank (hs_recv hC hW mo_obj rfl) hl.1 ⟨by decide, by decide, (by show cells + k + 0 ≤ 601024; omega), (by show slots + n + 0 ≤ 7293034; omega)⟩ (Nat.le_of_ble_eq_true rfl) dL_law_462 (lw_kI (dm2 := d) hS1 (fun v sc2 mI2 mL2 h => ⟨h.1, h.2.1⟩) (fun x sc2 mI2 mL2 H locs hI2 hS2 hW hL => ?_))
    refine lv_istore (lv' := [(6, .int _), (5, .int _), (0, .ref _), (1, .ref _), (2, .ref _), (3, .ref _), (4, .int _)]) hx hb dL_law_465 hl (by decide) rfl (fun ls hl => ?_)
    refine lv_goto (tgt := 820) hx hb dL_law_467 (by decide) ?_
    exact kk _ _ _ _ k n (by omega) (by omega) ⟨Y, _, _, _, _, _, _, _, hyy.1, hS2, hyy.q h97⟩ hW hL (lv_sub hl [2, 3, 4, 5, 6] rfl)
  refine lv_iconst (v := 1) hx hb dL_law_457 (by decide) ?_
  refine lv_goto (tgt := 462) hx hb dL_law_458 (by decide) ?_
  refine hs_callV hC hs_Tok hW hL (ct_X8_rank E mo ar ix sc mI mL G1 hS1.2.2.2.2.1 _ _ _ N1 d S1 hI1) cw_X8_rank lk_L_88 im_X8_rank se_X8_rank (hs_recv hC hW mo_obj rfl) hl.1 ⟨by decide, by decide, (by show cells + k + 0 ≤ 601024; omega), (by show slots + n + 0 ≤ 7293034; omega)⟩ (Nat.le_of_ble_eq_true rfl) dL_law_462 (lw_kI (dm2 := d) hS1 (fun v sc2 mI2 mL2 h => ⟨h.1, h.2.1⟩) (fun x sc2 mI2 mL2 H locs hI2 hS2 hW hL => ?_))
  refine lv_istore (lv' := [(6, .int _), (5, .int _), (0, .ref _), (1, .ref _), (2, .ref _), (3, .ref _), (4, .int _)]) hx hb dL_law_465 hl (by decide) rfl (fun ls hl => ?_)
  refine lv_goto (tgt := 820) hx hb dL_law_467 (by decide) ?_
  exact kk _ _ _ _ k n (by omega) (by omega) ⟨Y, _, _, _, _, _, _, _, hyy.1, hS2, hyy.q h97⟩ hW hL (lv_sub hl [2, 3, 4, 5, 6] rfl)
set_option maxHeartbeats 4000000 in
set_option maxRecDepth 100000 in
theorem lw_case5 (E : hs_E) (hST : E.1.stackTraces = false) {p : Program} {e : Env} {s : State} {m : MethodId} {args : Array Value} {below : List Frame} {meth : Method} {c : Code} {Q : State → Prop} (hC : hs_C (eD E) vwCl (eT E) (eZ E) (eH E) hs_Ts p s m args c cL_law 8 RL) {b L : Nat} {xs : Nat → Int32} (hX : va_X b L xs s (eH E)) (hbl : b < (eH E).size) {i : Int32} (hi0 : vp_in (i) L) (hi1 : vp_in (i + 1) L) (hi2 : vp_in (i + 2) L) (hi3 : vp_in (i + 3) L) (hi4 : vp_in (i + 4) L) (hi5 : vp_in (i + 5) L) (hi6 : vp_in (i + 6) L) (hi7 : vp_in (i + 7) L) (hi8 : vp_in (i + 8) L) {jj : Nat} (hj9 : jj ≤ 512) {x o mo : Nat} {ar : Nat → Nat} {ix : Nat → Option Nat} {G : hs_G} (hB : lw_B E x o mo ar ix jj G) {H : Heap} {locs : List Loc} {ls : Array Slot} {cells slots : Nat} (hW : hs_W (eD E) vwCl (eH E) G H) (hL : ∀ q ∈ locs, (eH E).size ≤ q.base) (hl : lv_has ls 8 [(0, .ref b), (1, .ref x), (2, .ref mo), (3, .ref o), (4, .int i)]) (hc9 : cells + 500 ≤ 601024) (hn9 : slots + 3000 ≤ 7293034)
    (kk : lw_Kk E p e s m args below meth c b i x o mo ar ix jj cells slots Q 820) : W p E.1 e room_1 s m args below meth c H locs cells slots Q (F0 m 470 ls []) := by
  obtain ⟨X, t, cap, d, sc, mI, mL, f9, rfl, hS, h99, hJ, h97⟩ := hB
  have hB : X 97 ≤ 1152921504606846976 := by omega
  obtain ⟨hx, hb, hml, hown, hts, -⟩ := id hC
  obtain ⟨hT, ho, hto, hos, -⟩ := id hS
  refine lv_aload_n hx hb dL_law_470 rfl (lv_at hl 1 rfl) ?_
  refine lv_aload_n hx hb dL_law_471 rfl (lv_at hl 0 rfl) ?_
  refine lv_iload hx hb dL_law_472 (lv_at hl 4 rfl) ?_
  refine lv_iconst (v := 1) hx hb dL_law_474 (by decide) ?_
  refine lv_iadd hx hb dL_law_475 ?_
  refine hs_sld hC hW hX hbl hi1 dL_law_476 ?_
  refine lv_aload_n hx hb dL_law_477 rfl (lv_at hl 0 rfl) ?_
  refine lv_iload hx hb dL_law_478 (lv_at hl 4 rfl) ?_
  refine lv_iconst (v := 2) hx hb dL_law_480 (by decide) ?_
  refine lv_iadd hx hb dL_law_481 ?_
  refine hs_sld hC hW hX hbl hi2 dL_law_482 ?_
  refine lv_aload_n hx hb dL_law_483 rfl (lv_at hl 3 rfl) ?_
  refine hs_callST hC hs_Tok hW hL (ct_L_link E hST t cap X d G hT o f9 ho hto hos h99 hJ hB _ _) cw_L_link lk_L_89 st_L_link hl.1 ⟨by decide, by decide, (by show cells + 6 ≤ 601024; omega), (by show slots + 1380 ≤ 7293034; omega)⟩ (Nat.le_of_ble_eq_true rfl) dL_law_484 (hs_kI (fun z G1 k n H locs hI hk hn hW hL => ?_))
  replace hk : k ≤ 6 := hk
  replace hn : n ≤ 1380 := hn
  obtain ⟨t1, cap1, f1, Y, hyy, hS1⟩ := lw_cls hS (hI)
  obtain ⟨N1, S1, hI1⟩ := hS1.2.2.2.2.2.2.2.2.2.2
  replace hW := lw_W hS1 hW
  refine lv_istore (lv' := [(5, .int _), (0, .ref _), (1, .ref _), (2, .ref _), (3, .ref _), (4, .int _)]) hx hb dL_law_487 hl (by decide) rfl (fun ls hl => ?_)
  refine lv_aload_n hx hb dL_law_489 rfl (lv_at hl 3 rfl) ?_
  refine lv_aload_n hx hb dL_law_490 rfl (lv_at hl 1 rfl) ?_
  refine lv_iload hx hb dL_law_491 (lv_at hl 5 rfl) ?_
  refine lv_iconst (v := 1) hx hb dL_law_493 (by decide) ?_
  refine lv_iadd hx hb dL_law_494 ?_
  refine hs_sld hC hW hX hbl hi1 dL_law_495 ?_
  refine lv_aload_n hx hb dL_law_496 rfl (lv_at hl 1 rfl) ?_
  refine lv_iload hx hb dL_law_497 (lv_at hl 5 rfl) ?_
  refine lv_iconst (v := 2) hx hb dL_law_499 (by decide) ?_
  refine lv_iadd hx hb dL_law_500 ?_
  refine hs_sld hC hW hX hbl hi2 dL_law_501 ?_
  refine hs_callV hC hs_Tok hW hL (ct_X8_link E mo ar ix sc mI mL G1 hS1.2.2.2.2.1 _ _ N1 d S1 hI1) cw_X8_link lk_L_92 im_X8_link se_X8_link (hs_recv hC hW mo_obj rfl) hl.1 ⟨by decide, by decide, (by show cells + k + 0 ≤ 601024; omega), (by show slots + n + 0 ≤ 7293034; omega)⟩ (Nat.le_of_ble_eq_true rfl) dL_law_502 (lw_kI (dm2 := d) hS1 (fun v sc2 mI2 mL2 h => ⟨h.1, h.2.2⟩) (fun x sc2 mI2 mL2 H locs hI2 hS2 hW hL => ?_))
  refine lv_istore (lv' := [(6, .int _), (5, .int _), (0, .ref _), (1, .ref _), (2, .ref _), (3, .ref _), (4, .int _)]) hx hb dL_law_505 hl (by decide) rfl (fun ls hl => ?_)
  refine lv_goto (tgt := 820) hx hb dL_law_507 (by decide) ?_
  exact kk _ _ _ _ k n (by omega) (by omega) ⟨Y, _, _, _, _, _, _, _, hyy.1, hS2, hyy.q h97⟩ hW hL (lv_sub hl [2, 3, 4, 5, 6] rfl)
set_option maxHeartbeats 4000000 in
set_option maxRecDepth 100000 in
theorem lw_case6 (E : hs_E) (hST : E.1.stackTraces = false) {p : Program} {e : Env} {s : State} {m : MethodId} {args : Array Value} {below : List Frame} {meth : Method} {c : Code} {Q : State → Prop} (hC : hs_C (eD E) vwCl (eT E) (eZ E) (eH E) hs_Ts p s m args c cL_law 8 RL) {b L : Nat} {xs : Nat → Int32} (hX : va_X b L xs s (eH E)) (hbl : b < (eH E).size) {i : Int32} (hi0 : vp_in (i) L) (hi1 : vp_in (i + 1) L) (hi2 : vp_in (i + 2) L) (hi3 : vp_in (i + 3) L) (hi4 : vp_in (i + 4) L) (hi5 : vp_in (i + 5) L) (hi6 : vp_in (i + 6) L) (hi7 : vp_in (i + 7) L) (hi8 : vp_in (i + 8) L) {jj : Nat} (hj9 : jj ≤ 512) {x o mo : Nat} {ar : Nat → Nat} {ix : Nat → Option Nat} {G : hs_G} (hB : lw_B E x o mo ar ix jj G) {H : Heap} {locs : List Loc} {ls : Array Slot} {cells slots : Nat} (hW : hs_W (eD E) vwCl (eH E) G H) (hL : ∀ q ∈ locs, (eH E).size ≤ q.base) (hl : lv_has ls 8 [(0, .ref b), (1, .ref x), (2, .ref mo), (3, .ref o), (4, .int i)]) (hc9 : cells + 500 ≤ 601024) (hn9 : slots + 3000 ≤ 7293034)
    (kk : lw_Kk E p e s m args below meth c b i x o mo ar ix jj cells slots Q 820) : W p E.1 e room_1 s m args below meth c H locs cells slots Q (F0 m 510 ls []) := by
  obtain ⟨X, t, cap, d, sc, mI, mL, f9, rfl, hS, h99, hJ, h97⟩ := hB
  have hB : X 97 ≤ 1152921504606846976 := by omega
  obtain ⟨hx, hb, hml, hown, hts, -⟩ := id hC
  obtain ⟨hT, ho, hto, hos, -⟩ := id hS
  refine lv_aload_n hx hb dL_law_510 rfl (lv_at hl 1 rfl) ?_
  refine lv_aload_n hx hb dL_law_511 rfl (lv_at hl 0 rfl) ?_
  refine lv_iload hx hb dL_law_512 (lv_at hl 4 rfl) ?_
  refine lv_iconst (v := 1) hx hb dL_law_514 (by decide) ?_
  refine lv_iadd hx hb dL_law_515 ?_
  refine hs_sld hC hW hX hbl hi1 dL_law_516 ?_
  refine lv_aload_n hx hb dL_law_517 rfl (lv_at hl 0 rfl) ?_
  refine lv_iload hx hb dL_law_518 (lv_at hl 4 rfl) ?_
  refine lv_iconst (v := 2) hx hb dL_law_520 (by decide) ?_
  refine lv_iadd hx hb dL_law_521 ?_
  refine hs_sld hC hW hX hbl hi2 dL_law_522 ?_
  refine lv_aload_n hx hb dL_law_523 rfl (lv_at hl 3 rfl) ?_
  refine hs_callST hC hs_Tok hW hL (ct_L_cancel E hST t cap X d G hT o f9 ho hto hos h99 hJ hB _ _) cw_L_cancel lk_L_93 st_L_cancel hl.1 ⟨by decide, by decide, (by show cells + 1 ≤ 601024; omega), (by show slots + 6 ≤ 7293034; omega)⟩ (Nat.le_of_ble_eq_true rfl) dL_law_524 (hs_kI (fun z G1 k n H locs hI hk hn hW hL => ?_))
  replace hk : k ≤ 1 := hk
  replace hn : n ≤ 6 := hn
  obtain ⟨t1, cap1, f1, Y, hyy, hS1⟩ := lw_cls hS (hI)
  obtain ⟨N1, S1, hI1⟩ := hS1.2.2.2.2.2.2.2.2.2.2
  replace hW := lw_W hS1 hW
  refine lv_istore (lv' := [(5, .int _), (0, .ref _), (1, .ref _), (2, .ref _), (3, .ref _), (4, .int _)]) hx hb dL_law_527 hl (by decide) rfl (fun ls hl => ?_)
  refine lv_aload_n hx hb dL_law_529 rfl (lv_at hl 3 rfl) ?_
  refine lv_aload_n hx hb dL_law_530 rfl (lv_at hl 1 rfl) ?_
  refine lv_iload hx hb dL_law_531 (lv_at hl 5 rfl) ?_
  refine lv_iconst (v := 1) hx hb dL_law_533 (by decide) ?_
  refine lv_iadd hx hb dL_law_534 ?_
  refine hs_sld hC hW hX hbl hi1 dL_law_535 ?_
  refine lv_aload_n hx hb dL_law_536 rfl (lv_at hl 1 rfl) ?_
  refine lv_iload hx hb dL_law_537 (lv_at hl 5 rfl) ?_
  refine lv_iconst (v := 2) hx hb dL_law_539 (by decide) ?_
  refine lv_iadd hx hb dL_law_540 ?_
  refine hs_sld hC hW hX hbl hi2 dL_law_541 ?_
  refine hs_callV hC hs_Tok hW hL (ct_X8_cancel E mo ar ix sc mI mL G1 hS1.2.2.2.2.1 _ _ N1 d S1 hI1) cw_X8_cancel lk_L_95 im_X8_cancel se_X8_cancel (hs_recv hC hW mo_obj rfl) hl.1 ⟨by decide, by decide, (by show cells + k + 0 ≤ 601024; omega), (by show slots + n + 0 ≤ 7293034; omega)⟩ (Nat.le_of_ble_eq_true rfl) dL_law_542 (lw_kI (dm2 := d) hS1 (fun v sc2 mI2 mL2 h => ⟨h.1, h.2.1⟩) (fun x sc2 mI2 mL2 H locs hI2 hS2 hW hL => ?_))
  refine lv_istore (lv' := [(6, .int _), (5, .int _), (0, .ref _), (1, .ref _), (2, .ref _), (3, .ref _), (4, .int _)]) hx hb dL_law_545 hl (by decide) rfl (fun ls hl => ?_)
  refine lv_goto (tgt := 820) hx hb dL_law_547 (by decide) ?_
  exact kk _ _ _ _ k n (by omega) (by omega) ⟨Y, _, _, _, _, _, _, _, hyy.1, hS2, hyy.q h97⟩ hW hL (lv_sub hl [2, 3, 4, 5, 6] rfl)
set_option maxHeartbeats 4000000 in
set_option maxRecDepth 100000 in
theorem lw_case7 (E : hs_E) (hST : E.1.stackTraces = false) {p : Program} {e : Env} {s : State} {m : MethodId} {args : Array Value} {below : List Frame} {meth : Method} {c : Code} {Q : State → Prop} (hC : hs_C (eD E) vwCl (eT E) (eZ E) (eH E) hs_Ts p s m args c cL_law 8 RL) {b L : Nat} {xs : Nat → Int32} (hX : va_X b L xs s (eH E)) (hbl : b < (eH E).size) {i : Int32} (hi0 : vp_in (i) L) (hi1 : vp_in (i + 1) L) (hi2 : vp_in (i + 2) L) (hi3 : vp_in (i + 3) L) (hi4 : vp_in (i + 4) L) (hi5 : vp_in (i + 5) L) (hi6 : vp_in (i + 6) L) (hi7 : vp_in (i + 7) L) (hi8 : vp_in (i + 8) L) {jj : Nat} (hj9 : jj ≤ 512) {x o mo : Nat} {ar : Nat → Nat} {ix : Nat → Option Nat} {G : hs_G} (hB : lw_B E x o mo ar ix jj G) {H : Heap} {locs : List Loc} {ls : Array Slot} {cells slots : Nat} (hW : hs_W (eD E) vwCl (eH E) G H) (hL : ∀ q ∈ locs, (eH E).size ≤ q.base) (hl : lv_has ls 8 [(0, .ref b), (1, .ref x), (2, .ref mo), (3, .ref o), (4, .int i)]) (hc9 : cells + 500 ≤ 601024) (hn9 : slots + 3000 ≤ 7293034)
    (kk : lw_Kk E p e s m args below meth c b i x o mo ar ix jj cells slots Q 820) : W p E.1 e room_1 s m args below meth c H locs cells slots Q (F0 m 550 ls []) := by
  obtain ⟨X, t, cap, d, sc, mI, mL, f9, rfl, hS, h99, hJ, h97⟩ := hB
  have hB : X 97 ≤ 1152921504606846976 := by omega
  obtain ⟨hx, hb, hml, hown, hts, -⟩ := id hC
  obtain ⟨hT, ho, hto, hos, -⟩ := id hS
  refine lv_aload_n hx hb dL_law_550 rfl (lv_at hl 1 rfl) ?_
  refine lv_aload_n hx hb dL_law_551 rfl (lv_at hl 3 rfl) ?_
  refine hs_callST hC hs_Tok hW hL (ct_L_nextDay E hST t cap X d G hT o f9 ho hto hos h99 hJ hB ) cw_L_nextDay lk_L_96 st_L_nextDay hl.1 ⟨by decide, by decide, (by show cells + 230 ≤ 601024; omega), (by show slots + 1130 ≤ 7293034; omega)⟩ (Nat.le_of_ble_eq_true rfl) dL_law_552 (hs_kI (fun z G1 k n H locs hI hk hn hW hL => ?_))
  replace hk : k ≤ 230 := hk
  replace hn : n ≤ 1130 := hn
  obtain ⟨t1, cap1, f1, Y, hyy, hS1⟩ := lw_cls hS (hI)
  obtain ⟨N1, S1, hI1⟩ := hS1.2.2.2.2.2.2.2.2.2.2
  replace hW := lw_W hS1 hW
  refine lv_istore (lv' := [(5, .int _), (0, .ref _), (1, .ref _), (2, .ref _), (3, .ref _), (4, .int _)]) hx hb dL_law_555 hl (by decide) rfl (fun ls hl => ?_)
  refine lv_aload_n hx hb dL_law_557 rfl (lv_at hl 3 rfl) ?_
  refine hs_callV hC hs_Tok hW hL (ct_X8_nextDay E mo ar ix sc mI mL G1 hS1.2.2.2.2.1  N1 d S1 hI1) cw_X8_nextDay lk_L_99 im_X8_nextDay se_X8_nextDay (hs_recv hC hW mo_obj rfl) hl.1 ⟨by decide, by decide, (by show cells + k + 0 ≤ 601024; omega), (by show slots + n + 0 ≤ 7293034; omega)⟩ (Nat.le_of_ble_eq_true rfl) dL_law_558 (lw_kI (dm2 := if d < 20000 then d + 1 else d) hS1 (fun v sc2 mI2 mL2 h => ⟨h.1, h.2.2⟩) (fun x sc2 mI2 mL2 H locs hI2 hS2 hW hL => ?_))
  refine lv_istore (lv' := [(6, .int _), (5, .int _), (0, .ref _), (1, .ref _), (2, .ref _), (3, .ref _), (4, .int _)]) hx hb dL_law_561 hl (by decide) rfl (fun ls hl => ?_)
  refine lv_goto (tgt := 820) hx hb dL_law_563 (by decide) ?_
  exact kk _ _ _ _ k n (by omega) (by omega) ⟨Y, _, _, _, _, _, _, _, hyy.1, hS2, hyy.q h97⟩ hW hL (lv_sub hl [2, 3, 4, 5, 6] rfl)
set_option maxHeartbeats 4000000 in
set_option maxRecDepth 100000 in
theorem lw_case8 (E : hs_E) (hST : E.1.stackTraces = false) {p : Program} {e : Env} {s : State} {m : MethodId} {args : Array Value} {below : List Frame} {meth : Method} {c : Code} {Q : State → Prop} (hC : hs_C (eD E) vwCl (eT E) (eZ E) (eH E) hs_Ts p s m args c cL_law 8 RL) {b L : Nat} {xs : Nat → Int32} (hX : va_X b L xs s (eH E)) (hbl : b < (eH E).size) {i : Int32} (hi0 : vp_in (i) L) (hi1 : vp_in (i + 1) L) (hi2 : vp_in (i + 2) L) (hi3 : vp_in (i + 3) L) (hi4 : vp_in (i + 4) L) (hi5 : vp_in (i + 5) L) (hi6 : vp_in (i + 6) L) (hi7 : vp_in (i + 7) L) (hi8 : vp_in (i + 8) L) {jj : Nat} (hj9 : jj ≤ 512) {x o mo : Nat} {ar : Nat → Nat} {ix : Nat → Option Nat} {G : hs_G} (hB : lw_B E x o mo ar ix jj G) {H : Heap} {locs : List Loc} {ls : Array Slot} {cells slots : Nat} (hW : hs_W (eD E) vwCl (eH E) G H) (hL : ∀ q ∈ locs, (eH E).size ≤ q.base) (hl : lv_has ls 8 [(0, .ref b), (1, .ref x), (2, .ref mo), (3, .ref o), (4, .int i)]) (hc9 : cells + 500 ≤ 601024) (hn9 : slots + 3000 ≤ 7293034)
    (kk : lw_Kk E p e s m args below meth c b i x o mo ar ix jj cells slots Q 820) : W p E.1 e room_1 s m args below meth c H locs cells slots Q (F0 m 566 ls []) := by
  obtain ⟨X, t, cap, d, sc, mI, mL, f9, rfl, hS, h99, hJ, h97⟩ := hB
  have hB : X 97 ≤ 1152921504606846976 := by omega
  obtain ⟨hx, hb, hml, hown, hts, -⟩ := id hC
  obtain ⟨hT, ho, hto, hos, -⟩ := id hS
  refine lv_aload_n hx hb dL_law_566 rfl (lv_at hl 1 rfl) ?_
  refine lv_aload_n hx hb dL_law_567 rfl (lv_at hl 0 rfl) ?_
  refine lv_iload hx hb dL_law_568 (lv_at hl 4 rfl) ?_
  refine lv_iconst (v := 1) hx hb dL_law_570 (by decide) ?_
  refine lv_iadd hx hb dL_law_571 ?_
  refine hs_sld hC hW hX hbl hi1 dL_law_572 ?_
  refine lv_aload_n hx hb dL_law_573 rfl (lv_at hl 3 rfl) ?_
  refine hs_callST hC hs_Tok hW hL (ct_L_goTo E hST t cap X d G hT o f9 ho hto hos h99 hJ hB _) cw_L_goTo lk_L_100 st_L_goTo hl.1 ⟨by decide, by decide, (by show cells + 460 ≤ 601024; omega), (by show slots + 2030 ≤ 7293034; omega)⟩ (Nat.le_of_ble_eq_true rfl) dL_law_574 (hs_kI (fun z G1 k n H locs hI hk hn hW hL => ?_))
  replace hk : k ≤ 460 := hk
  replace hn : n ≤ 2030 := hn
  obtain ⟨t1, cap1, f1, Y, hyy, hS1⟩ := lw_cls hS (hI)
  obtain ⟨N1, S1, hI1⟩ := hS1.2.2.2.2.2.2.2.2.2.2
  replace hW := lw_W hS1 hW
  refine lv_istore (lv' := [(5, .int _), (0, .ref _), (1, .ref _), (2, .ref _), (3, .ref _), (4, .int _)]) hx hb dL_law_577 hl (by decide) rfl (fun ls hl => ?_)
  refine lv_aload_n hx hb dL_law_579 rfl (lv_at hl 3 rfl) ?_
  refine lv_aload_n hx hb dL_law_580 rfl (lv_at hl 1 rfl) ?_
  refine lv_iload hx hb dL_law_581 (lv_at hl 5 rfl) ?_
  refine lv_iconst (v := 1) hx hb dL_law_583 (by decide) ?_
  refine lv_iadd hx hb dL_law_584 ?_
  refine hs_sld hC hW hX hbl hi1 dL_law_585 ?_
  refine hs_callV hC hs_Tok hW hL (ct_X8_goTo E mo ar ix sc mI mL G1 hS1.2.2.2.2.1 _ N1 d S1 hI1) cw_X8_goTo lk_L_102 im_X8_goTo se_X8_goTo (hs_recv hC hW mo_obj rfl) hl.1 ⟨by decide, by decide, (by show cells + k + 0 ≤ 601024; omega), (by show slots + n + 0 ≤ 7293034; omega)⟩ (Nat.le_of_ble_eq_true rfl) dL_law_586 (lw_kI (dm2 := mo_go d _) hS1 (fun v sc2 mI2 mL2 h => ⟨h.1, h.2.2⟩) (fun x sc2 mI2 mL2 H locs hI2 hS2 hW hL => ?_))
  refine lv_istore (lv' := [(6, .int _), (5, .int _), (0, .ref _), (1, .ref _), (2, .ref _), (3, .ref _), (4, .int _)]) hx hb dL_law_589 hl (by decide) rfl (fun ls hl => ?_)
  refine lv_goto (tgt := 820) hx hb dL_law_591 (by decide) ?_
  exact kk _ _ _ _ k n (by omega) (by omega) ⟨Y, _, _, _, _, _, _, _, hyy.1, hS2, hyy.q h97⟩ hW hL (lv_sub hl [2, 3, 4, 5, 6] rfl)
set_option maxHeartbeats 4000000 in
set_option maxRecDepth 100000 in
theorem lw_case9 (E : hs_E) (hST : E.1.stackTraces = false) {p : Program} {e : Env} {s : State} {m : MethodId} {args : Array Value} {below : List Frame} {meth : Method} {c : Code} {Q : State → Prop} (hC : hs_C (eD E) vwCl (eT E) (eZ E) (eH E) hs_Ts p s m args c cL_law 8 RL) {b L : Nat} {xs : Nat → Int32} (hX : va_X b L xs s (eH E)) (hbl : b < (eH E).size) {i : Int32} (hi0 : vp_in (i) L) (hi1 : vp_in (i + 1) L) (hi2 : vp_in (i + 2) L) (hi3 : vp_in (i + 3) L) (hi4 : vp_in (i + 4) L) (hi5 : vp_in (i + 5) L) (hi6 : vp_in (i + 6) L) (hi7 : vp_in (i + 7) L) (hi8 : vp_in (i + 8) L) {jj : Nat} (hj9 : jj ≤ 512) {x o mo : Nat} {ar : Nat → Nat} {ix : Nat → Option Nat} {G : hs_G} (hB : lw_B E x o mo ar ix jj G) {H : Heap} {locs : List Loc} {ls : Array Slot} {cells slots : Nat} (hW : hs_W (eD E) vwCl (eH E) G H) (hL : ∀ q ∈ locs, (eH E).size ≤ q.base) (hl : lv_has ls 8 [(0, .ref b), (1, .ref x), (2, .ref mo), (3, .ref o), (4, .int i)]) (hc9 : cells + 500 ≤ 601024) (hn9 : slots + 3000 ≤ 7293034)
    (kk : lw_Kk E p e s m args below meth c b i x o mo ar ix jj cells slots Q 820) : W p E.1 e room_1 s m args below meth c H locs cells slots Q (F0 m 594 ls []) := by
  obtain ⟨X, t, cap, d, sc, mI, mL, f9, rfl, hS, h99, hJ, h97⟩ := hB
  have hB : X 97 ≤ 1152921504606846976 := by omega
  obtain ⟨hx, hb, hml, hown, hts, -⟩ := id hC
  obtain ⟨hT, ho, hto, hos, -⟩ := id hS
  refine lv_aload_n hx hb dL_law_594 rfl (lv_at hl 1 rfl) ?_
  refine lv_aload_n hx hb dL_law_595 rfl (lv_at hl 0 rfl) ?_
  refine lv_iload hx hb dL_law_596 (lv_at hl 4 rfl) ?_
  refine lv_iconst (v := 1) hx hb dL_law_598 (by decide) ?_
  refine lv_iadd hx hb dL_law_599 ?_
  refine hs_sld hC hW hX hbl hi1 dL_law_600 ?_
  refine lv_aload_n hx hb dL_law_601 rfl (lv_at hl 0 rfl) ?_
  refine lv_iload hx hb dL_law_602 (lv_at hl 4 rfl) ?_
  refine lv_iconst (v := 2) hx hb dL_law_604 (by decide) ?_
  refine lv_iadd hx hb dL_law_605 ?_
  refine hs_sld hC hW hX hbl hi2 dL_law_606 ?_
  refine lv_aload_n hx hb dL_law_607 rfl (lv_at hl 3 rfl) ?_
  refine hs_callST hC hs_Tok hW hL (ct_L_has E hST t cap X d G hT o f9 ho hto hos h99 hJ hB _ _) cw_L_has lk_L_103 st_L_has hl.1 ⟨by decide, by decide, (by show cells + 1 ≤ 601024; omega), (by show slots + 6 ≤ 7293034; omega)⟩ (Nat.le_of_ble_eq_true rfl) dL_law_608 (hs_kI (fun z G1 k n H locs hI hk hn hW hL => ?_))
  replace hk : k ≤ 1 := hk
  replace hn : n ≤ 6 := hn
  obtain ⟨t1, cap1, f1, Y, hyy, hS1⟩ := lw_cls hS (hI)
  obtain ⟨N1, S1, hI1⟩ := hS1.2.2.2.2.2.2.2.2.2.2
  replace hW := lw_W hS1 hW
  refine lv_istore (lv' := [(5, .int _), (0, .ref _), (1, .ref _), (2, .ref _), (3, .ref _), (4, .int _)]) hx hb dL_law_611 hl (by decide) rfl (fun ls hl => ?_)
  refine lv_aload_n hx hb dL_law_613 rfl (lv_at hl 3 rfl) ?_
  refine lv_aload_n hx hb dL_law_614 rfl (lv_at hl 1 rfl) ?_
  refine lv_iload hx hb dL_law_615 (lv_at hl 5 rfl) ?_
  refine lv_iconst (v := 1) hx hb dL_law_617 (by decide) ?_
  refine lv_iadd hx hb dL_law_618 ?_
  refine hs_sld hC hW hX hbl hi1 dL_law_619 ?_
  refine lv_aload_n hx hb dL_law_620 rfl (lv_at hl 1 rfl) ?_
  refine lv_iload hx hb dL_law_621 (lv_at hl 5 rfl) ?_
  refine lv_iconst (v := 2) hx hb dL_law_623 (by decide) ?_
  refine lv_iadd hx hb dL_law_624 ?_
  refine hs_sld hC hW hX hbl hi2 dL_law_625 ?_
  refine hs_callV hC hs_Tok hW hL (ct_X8_has E mo ar ix sc mI mL G1 hS1.2.2.2.2.1 _ _) cw_X8_has lk_L_105 im_X8_has se_X8_has (hs_recv hC hW mo_obj rfl) hl.1 ⟨by decide, by decide, (by show cells + k + 0 ≤ 601024; omega), (by show slots + n + 0 ≤ 7293034; omega)⟩ (Nat.le_of_ble_eq_true rfl) dL_law_626 (lw_kJ (dm2 := d) hS1 (fun v sc2 mI2 mL2 h => ⟨h.1, lw_keep hI1 h.2.1 h.2.2⟩) (fun x sc2 mI2 mL2 H locs hI2 hS2 hW hL => ?_))
  refine lv_lstore (lv' := [(6, .long _), (5, .int _), (0, .ref _), (1, .ref _), (2, .ref _), (3, .ref _), (4, .int _)]) hx hb dL_law_629 hl (by decide) rfl (fun ls hl => ?_)
  refine lv_goto (tgt := 820) hx hb dL_law_631 (by decide) ?_
  exact kk _ _ _ _ k n (by omega) (by omega) ⟨Y, _, _, _, _, _, _, _, hyy.1, hS2, hyy.q h97⟩ hW hL (lv_sub hl [2, 3, 4, 5, 6] rfl)
set_option maxHeartbeats 4000000 in
set_option maxRecDepth 100000 in
theorem lw_case10 (E : hs_E) (hST : E.1.stackTraces = false) {p : Program} {e : Env} {s : State} {m : MethodId} {args : Array Value} {below : List Frame} {meth : Method} {c : Code} {Q : State → Prop} (hC : hs_C (eD E) vwCl (eT E) (eZ E) (eH E) hs_Ts p s m args c cL_law 8 RL) {b L : Nat} {xs : Nat → Int32} (hX : va_X b L xs s (eH E)) (hbl : b < (eH E).size) {i : Int32} (hi0 : vp_in (i) L) (hi1 : vp_in (i + 1) L) (hi2 : vp_in (i + 2) L) (hi3 : vp_in (i + 3) L) (hi4 : vp_in (i + 4) L) (hi5 : vp_in (i + 5) L) (hi6 : vp_in (i + 6) L) (hi7 : vp_in (i + 7) L) (hi8 : vp_in (i + 8) L) {jj : Nat} (hj9 : jj ≤ 512) {x o mo : Nat} {ar : Nat → Nat} {ix : Nat → Option Nat} {G : hs_G} (hB : lw_B E x o mo ar ix jj G) {H : Heap} {locs : List Loc} {ls : Array Slot} {cells slots : Nat} (hW : hs_W (eD E) vwCl (eH E) G H) (hL : ∀ q ∈ locs, (eH E).size ≤ q.base) (hl : lv_has ls 8 [(0, .ref b), (1, .ref x), (2, .ref mo), (3, .ref o), (4, .int i)]) (hc9 : cells + 500 ≤ 601024) (hn9 : slots + 3000 ≤ 7293034)
    (kk : lw_Kk E p e s m args below meth c b i x o mo ar ix jj cells slots Q 820) : W p E.1 e room_1 s m args below meth c H locs cells slots Q (F0 m 634 ls []) := by
  obtain ⟨X, t, cap, d, sc, mI, mL, f9, rfl, hS, h99, hJ, h97⟩ := hB
  have hB : X 97 ≤ 1152921504606846976 := by omega
  obtain ⟨hx, hb, hml, hown, hts, -⟩ := id hC
  obtain ⟨hT, ho, hto, hos, -⟩ := id hS
  refine lv_aload_n hx hb dL_law_634 rfl (lv_at hl 1 rfl) ?_
  refine lv_aload_n hx hb dL_law_635 rfl (lv_at hl 0 rfl) ?_
  refine lv_iload hx hb dL_law_636 (lv_at hl 4 rfl) ?_
  refine lv_iconst (v := 1) hx hb dL_law_638 (by decide) ?_
  refine lv_iadd hx hb dL_law_639 ?_
  refine hs_sld hC hW hX hbl hi1 dL_law_640 ?_
  refine lv_aload_n hx hb dL_law_641 rfl (lv_at hl 0 rfl) ?_
  refine lv_iload hx hb dL_law_642 (lv_at hl 4 rfl) ?_
  refine lv_iconst (v := 2) hx hb dL_law_644 (by decide) ?_
  refine lv_iadd hx hb dL_law_645 ?_
  refine hs_sld hC hW hX hbl hi2 dL_law_646 ?_
  refine lv_aload_n hx hb dL_law_647 rfl (lv_at hl 3 rfl) ?_
  refine hs_callST hC hs_Tok hW hL (ct_L_trade E hST t cap X d G hT o f9 ho hto hos h99 hJ hB _ _) cw_L_trade lk_L_106 st_L_trade hl.1 ⟨by decide, by decide, (by show cells + 1 ≤ 601024; omega), (by show slots + 6 ≤ 7293034; omega)⟩ (Nat.le_of_ble_eq_true rfl) dL_law_648 (hs_kI (fun z G1 k n H locs hI hk hn hW hL => ?_))
  replace hk : k ≤ 1 := hk
  replace hn : n ≤ 6 := hn
  obtain ⟨t1, cap1, f1, Y, hyy, hS1⟩ := lw_cls hS (hI)
  obtain ⟨N1, S1, hI1⟩ := hS1.2.2.2.2.2.2.2.2.2.2
  replace hW := lw_W hS1 hW
  refine lv_istore (lv' := [(5, .int _), (0, .ref _), (1, .ref _), (2, .ref _), (3, .ref _), (4, .int _)]) hx hb dL_law_651 hl (by decide) rfl (fun ls hl => ?_)
  refine lv_aload_n hx hb dL_law_653 rfl (lv_at hl 3 rfl) ?_
  refine lv_aload_n hx hb dL_law_654 rfl (lv_at hl 1 rfl) ?_
  refine lv_iload hx hb dL_law_655 (lv_at hl 5 rfl) ?_
  refine lv_iconst (v := 1) hx hb dL_law_657 (by decide) ?_
  refine lv_iadd hx hb dL_law_658 ?_
  refine hs_sld hC hW hX hbl hi1 dL_law_659 ?_
  refine lv_aload_n hx hb dL_law_660 rfl (lv_at hl 1 rfl) ?_
  refine lv_iload hx hb dL_law_661 (lv_at hl 5 rfl) ?_
  refine lv_iconst (v := 2) hx hb dL_law_663 (by decide) ?_
  refine lv_iadd hx hb dL_law_664 ?_
  refine hs_sld hC hW hX hbl hi2 dL_law_665 ?_
  refine hs_callV hC hs_Tok hW hL (ct_X8_trade E mo ar ix sc mI mL G1 hS1.2.2.2.2.1 _ _ N1 d S1 hI1) cw_X8_trade lk_L_108 im_X8_trade se_X8_trade (hs_recv hC hW mo_obj rfl) hl.1 ⟨by decide, by decide, (by show cells + k + 0 ≤ 601024; omega), (by show slots + n + 0 ≤ 7293034; omega)⟩ (Nat.le_of_ble_eq_true rfl) dL_law_666 (lw_kI (dm2 := d) hS1 (fun v sc2 mI2 mL2 h => ⟨h.1, lw_keep hI1 h.2.1 h.2.2⟩) (fun x sc2 mI2 mL2 H locs hI2 hS2 hW hL => ?_))
  refine lv_istore (lv' := [(6, .int _), (5, .int _), (0, .ref _), (1, .ref _), (2, .ref _), (3, .ref _), (4, .int _)]) hx hb dL_law_669 hl (by decide) rfl (fun ls hl => ?_)
  refine lv_goto (tgt := 820) hx hb dL_law_671 (by decide) ?_
  exact kk _ _ _ _ k n (by omega) (by omega) ⟨Y, _, _, _, _, _, _, _, hyy.1, hS2, hyy.q h97⟩ hW hL (lv_sub hl [2, 3, 4, 5, 6] rfl)
set_option maxHeartbeats 4000000 in
set_option maxRecDepth 100000 in
theorem lw_case11 (E : hs_E) (hST : E.1.stackTraces = false) {p : Program} {e : Env} {s : State} {m : MethodId} {args : Array Value} {below : List Frame} {meth : Method} {c : Code} {Q : State → Prop} (hC : hs_C (eD E) vwCl (eT E) (eZ E) (eH E) hs_Ts p s m args c cL_law 8 RL) {b L : Nat} {xs : Nat → Int32} (hX : va_X b L xs s (eH E)) (hbl : b < (eH E).size) {i : Int32} (hi0 : vp_in (i) L) (hi1 : vp_in (i + 1) L) (hi2 : vp_in (i + 2) L) (hi3 : vp_in (i + 3) L) (hi4 : vp_in (i + 4) L) (hi5 : vp_in (i + 5) L) (hi6 : vp_in (i + 6) L) (hi7 : vp_in (i + 7) L) (hi8 : vp_in (i + 8) L) {jj : Nat} (hj9 : jj ≤ 512) {x o mo : Nat} {ar : Nat → Nat} {ix : Nat → Option Nat} {G : hs_G} (hB : lw_B E x o mo ar ix jj G) {H : Heap} {locs : List Loc} {ls : Array Slot} {cells slots : Nat} (hW : hs_W (eD E) vwCl (eH E) G H) (hL : ∀ q ∈ locs, (eH E).size ≤ q.base) (hl : lv_has ls 8 [(0, .ref b), (1, .ref x), (2, .ref mo), (3, .ref o), (4, .int i)]) (hc9 : cells + 500 ≤ 601024) (hn9 : slots + 3000 ≤ 7293034)
    (kk : lw_Kk E p e s m args below meth c b i x o mo ar ix jj cells slots Q 820) : W p E.1 e room_1 s m args below meth c H locs cells slots Q (F0 m 674 ls []) := by
  obtain ⟨X, t, cap, d, sc, mI, mL, f9, rfl, hS, h99, hJ, h97⟩ := hB
  have hB : X 97 ≤ 1152921504606846976 := by omega
  obtain ⟨hx, hb, hml, hown, hts, -⟩ := id hC
  obtain ⟨hT, ho, hto, hos, -⟩ := id hS
  refine lv_aload_n hx hb dL_law_674 rfl (lv_at hl 1 rfl) ?_
  refine lv_aload_n hx hb dL_law_675 rfl (lv_at hl 0 rfl) ?_
  refine lv_iload hx hb dL_law_676 (lv_at hl 4 rfl) ?_
  refine lv_iconst (v := 1) hx hb dL_law_678 (by decide) ?_
  refine lv_iadd hx hb dL_law_679 ?_
  refine hs_sld hC hW hX hbl hi1 dL_law_680 ?_
  refine lv_aload_n hx hb dL_law_681 rfl (lv_at hl 0 rfl) ?_
  refine lv_iload hx hb dL_law_682 (lv_at hl 4 rfl) ?_
  refine lv_iconst (v := 2) hx hb dL_law_684 (by decide) ?_
  refine lv_iadd hx hb dL_law_685 ?_
  refine hs_sld hC hW hX hbl hi2 dL_law_686 ?_
  refine hs_callV hC hs_Tok hW hL (ct_X7_settled E t cap X d G hT _ _) cw_X7_settled lk_L_109 im_X7_settled se_X7_settled (hs_recv hC hW hT.house rfl) hl.1 ⟨by decide, by decide, (by show cells + 0 ≤ 601024; omega), (by show slots + 0 ≤ 7293034; omega)⟩ (Nat.le_of_ble_eq_true rfl) dL_law_687 (hs_ke (fun x H locs hJx hW hL => ?_))
  obtain ⟨N1, S1, hI1⟩ := hS.2.2.2.2.2.2.2.2.2.2
  replace hW := lw_W hS hW
  refine lv_pop hx hb dL_law_690 rfl ?_
  refine lv_aload_n hx hb dL_law_691 rfl (lv_at hl 2 rfl) ?_
  refine lv_aload_n hx hb dL_law_692 rfl (lv_at hl 0 rfl) ?_
  refine lv_iload hx hb dL_law_693 (lv_at hl 4 rfl) ?_
  refine lv_iconst (v := 1) hx hb dL_law_695 (by decide) ?_
  refine lv_iadd hx hb dL_law_696 ?_
  refine hs_sld hC hW hX hbl hi1 dL_law_697 ?_
  refine lv_aload_n hx hb dL_law_698 rfl (lv_at hl 0 rfl) ?_
  refine lv_iload hx hb dL_law_699 (lv_at hl 4 rfl) ?_
  refine lv_iconst (v := 2) hx hb dL_law_701 (by decide) ?_
  refine lv_iadd hx hb dL_law_702 ?_
  refine hs_sld hC hW hX hbl hi2 dL_law_703 ?_
  refine hs_callV hC hs_Tok hW hL (ct_X8_settled E mo ar ix sc mI mL G hS.2.2.2.2.1 _ _ N1 d S1 hI1) cw_X8_settled lk_L_112 im_X8_settled se_X8_settled (hs_recv hC hW mo_obj rfl) hl.1 ⟨by decide, by decide, (by show cells + 0 ≤ 601024; omega), (by show slots + 0 ≤ 7293034; omega)⟩ (Nat.le_of_ble_eq_true rfl) dL_law_704 (lw_kI (dm2 := d) hS (fun v sc2 mI2 mL2 h => ⟨h.1, lw_keep hI1 h.2.1 h.2.2⟩) (fun x sc2 mI2 mL2 H locs hI2 hS2 hW hL => ?_))
  refine lv_pop hx hb dL_law_707 rfl ?_
  refine lv_goto (tgt := 820) hx hb dL_law_708 (by decide) ?_
  exact kk _ _ _ _ 0 0 (by omega) (by omega) ⟨X, _, _, _, _, _, _, _, rfl, hS2, (vY.rf h99 hJ).q h97⟩ hW hL (lv_sub hl [0, 1, 2, 3, 4] rfl)
set_option maxHeartbeats 4000000 in
set_option maxRecDepth 100000 in
theorem lw_case12 (E : hs_E) (hST : E.1.stackTraces = false) {p : Program} {e : Env} {s : State} {m : MethodId} {args : Array Value} {below : List Frame} {meth : Method} {c : Code} {Q : State → Prop} (hC : hs_C (eD E) vwCl (eT E) (eZ E) (eH E) hs_Ts p s m args c cL_law 8 RL) {b L : Nat} {xs : Nat → Int32} (hX : va_X b L xs s (eH E)) (hbl : b < (eH E).size) {i : Int32} (hi0 : vp_in (i) L) (hi1 : vp_in (i + 1) L) (hi2 : vp_in (i + 2) L) (hi3 : vp_in (i + 3) L) (hi4 : vp_in (i + 4) L) (hi5 : vp_in (i + 5) L) (hi6 : vp_in (i + 6) L) (hi7 : vp_in (i + 7) L) (hi8 : vp_in (i + 8) L) {jj : Nat} (hj9 : jj ≤ 512) {x o mo : Nat} {ar : Nat → Nat} {ix : Nat → Option Nat} {G : hs_G} (hB : lw_B E x o mo ar ix jj G) {H : Heap} {locs : List Loc} {ls : Array Slot} {cells slots : Nat} (hW : hs_W (eD E) vwCl (eH E) G H) (hL : ∀ q ∈ locs, (eH E).size ≤ q.base) (hl : lv_has ls 8 [(0, .ref b), (1, .ref x), (2, .ref mo), (3, .ref o), (4, .int i)]) (hc9 : cells + 500 ≤ 601024) (hn9 : slots + 3000 ≤ 7293034)
    (kk : lw_Kk E p e s m args below meth c b i x o mo ar ix jj cells slots Q 820) : W p E.1 e room_1 s m args below meth c H locs cells slots Q (F0 m 711 ls []) := by
  obtain ⟨X, t, cap, d, sc, mI, mL, f9, rfl, hS, h99, hJ, h97⟩ := hB
  have hB : X 97 ≤ 1152921504606846976 := by omega
  obtain ⟨hx, hb, hml, hown, hts, -⟩ := id hC
  obtain ⟨hT, ho, hto, hos, -⟩ := id hS
  refine lv_aload_n hx hb dL_law_711 rfl (lv_at hl 1 rfl) ?_
  refine lv_aload_n hx hb dL_law_712 rfl (lv_at hl 0 rfl) ?_
  refine lv_iload hx hb dL_law_713 (lv_at hl 4 rfl) ?_
  refine lv_iconst (v := 1) hx hb dL_law_715 (by decide) ?_
  refine lv_iadd hx hb dL_law_716 ?_
  refine hs_sld hC hW hX hbl hi1 dL_law_717 ?_
  refine lv_aload_n hx hb dL_law_718 rfl (lv_at hl 0 rfl) ?_
  refine lv_iload hx hb dL_law_719 (lv_at hl 4 rfl) ?_
  refine lv_iconst (v := 2) hx hb dL_law_721 (by decide) ?_
  refine lv_iadd hx hb dL_law_722 ?_
  refine hs_sld hC hW hX hbl hi2 dL_law_723 ?_
  refine lv_aload_n hx hb dL_law_724 rfl (lv_at hl 3 rfl) ?_
  refine hs_callST hC hs_Tok hW hL (ct_L_business E hST t cap X d G hT o f9 ho hto hos h99 hJ hB _ _) cw_L_business lk_L_113 st_L_business hl.1 ⟨by decide, by decide, (by show cells + 1 ≤ 601024; omega), (by show slots + 6 ≤ 7293034; omega)⟩ (Nat.le_of_ble_eq_true rfl) dL_law_725 (hs_kI (fun z G1 k n H locs hI hk hn hW hL => ?_))
  replace hk : k ≤ 1 := hk
  replace hn : n ≤ 6 := hn
  obtain ⟨t1, cap1, f1, Y, hyy, hS1⟩ := lw_cls hS (hI.elim (fun ⟨_, a9, b9, k9, f, _, _, _, _, _, _, _, hG⟩ => ⟨f, X, vY.rf h99 hJ, t, cap, G, hT, cl_F.rf, hG⟩) (fun ⟨_, _, hG⟩ => ⟨f9, X, vY.rf h99 hJ, t, cap, G, hT, cl_F.rf, hG.trans (hs_up_id ho).symm⟩))
  obtain ⟨N1, S1, hI1⟩ := hS1.2.2.2.2.2.2.2.2.2.2
  replace hW := lw_W hS1 hW
  refine lv_istore (lv' := [(5, .int _), (0, .ref _), (1, .ref _), (2, .ref _), (3, .ref _), (4, .int _)]) hx hb dL_law_728 hl (by decide) rfl (fun ls hl => ?_)
  refine lv_aload_n hx hb dL_law_730 rfl (lv_at hl 3 rfl) ?_
  refine lv_aload_n hx hb dL_law_731 rfl (lv_at hl 1 rfl) ?_
  refine lv_iload hx hb dL_law_732 (lv_at hl 5 rfl) ?_
  refine lv_iconst (v := 1) hx hb dL_law_734 (by decide) ?_
  refine lv_iadd hx hb dL_law_735 ?_
  refine hs_sld hC hW hX hbl hi1 dL_law_736 ?_
  refine lv_aload_n hx hb dL_law_737 rfl (lv_at hl 1 rfl) ?_
  refine lv_iload hx hb dL_law_738 (lv_at hl 5 rfl) ?_
  refine lv_iconst (v := 2) hx hb dL_law_740 (by decide) ?_
  refine lv_iadd hx hb dL_law_741 ?_
  refine hs_sld hC hW hX hbl hi2 dL_law_742 ?_
  refine hs_callV hC hs_Tok hW hL (ct_X8_business E mo ar ix sc mI mL G1 hS1.2.2.2.2.1 _ _) cw_X8_business lk_L_115 im_X8_business se_X8_business (hs_recv hC hW mo_obj rfl) hl.1 ⟨by decide, by decide, (by show cells + k + 0 ≤ 601024; omega), (by show slots + n + 0 ≤ 7293034; omega)⟩ (Nat.le_of_ble_eq_true rfl) dL_law_743 (lw_kI (dm2 := d) hS1 (fun v sc2 mI2 mL2 h => ⟨h.1, lw_keep hI1 h.2.1 h.2.2.1⟩) (fun x sc2 mI2 mL2 H locs hI2 hS2 hW hL => ?_))
  refine lv_istore (lv' := [(6, .int _), (5, .int _), (0, .ref _), (1, .ref _), (2, .ref _), (3, .ref _), (4, .int _)]) hx hb dL_law_746 hl (by decide) rfl (fun ls hl => ?_)
  refine lv_goto (tgt := 820) hx hb dL_law_748 (by decide) ?_
  exact kk _ _ _ _ k n (by omega) (by omega) ⟨Y, _, _, _, _, _, _, _, hyy.1, hS2, hyy.q h97⟩ hW hL (lv_sub hl [2, 3, 4, 5, 6] rfl)
set_option maxHeartbeats 4000000 in
set_option maxRecDepth 100000 in
theorem lw_case13 (E : hs_E) (hST : E.1.stackTraces = false) {p : Program} {e : Env} {s : State} {m : MethodId} {args : Array Value} {below : List Frame} {meth : Method} {c : Code} {Q : State → Prop} (hC : hs_C (eD E) vwCl (eT E) (eZ E) (eH E) hs_Ts p s m args c cL_law 8 RL) {b L : Nat} {xs : Nat → Int32} (hX : va_X b L xs s (eH E)) (hbl : b < (eH E).size) {i : Int32} (hi0 : vp_in (i) L) (hi1 : vp_in (i + 1) L) (hi2 : vp_in (i + 2) L) (hi3 : vp_in (i + 3) L) (hi4 : vp_in (i + 4) L) (hi5 : vp_in (i + 5) L) (hi6 : vp_in (i + 6) L) (hi7 : vp_in (i + 7) L) (hi8 : vp_in (i + 8) L) {jj : Nat} (hj9 : jj ≤ 512) {x o mo : Nat} {ar : Nat → Nat} {ix : Nat → Option Nat} {G : hs_G} (hB : lw_B E x o mo ar ix jj G) {H : Heap} {locs : List Loc} {ls : Array Slot} {cells slots : Nat} (hW : hs_W (eD E) vwCl (eH E) G H) (hL : ∀ q ∈ locs, (eH E).size ≤ q.base) (hl : lv_has ls 8 [(0, .ref b), (1, .ref x), (2, .ref mo), (3, .ref o), (4, .int i)]) (hc9 : cells + 500 ≤ 601024) (hn9 : slots + 3000 ≤ 7293034)
    (kk : lw_Kk E p e s m args below meth c b i x o mo ar ix jj cells slots Q 820) : W p E.1 e room_1 s m args below meth c H locs cells slots Q (F0 m 751 ls []) := by
  obtain ⟨X, t, cap, d, sc, mI, mL, f9, rfl, hS, h99, hJ, h97⟩ := hB
  have hB : X 97 ≤ 1152921504606846976 := by omega
  obtain ⟨hx, hb, hml, hown, hts, -⟩ := id hC
  obtain ⟨hT, ho, hto, hos, -⟩ := id hS
  refine lv_aload_n hx hb dL_law_751 rfl (lv_at hl 1 rfl) ?_
  refine lv_aload_n hx hb dL_law_752 rfl (lv_at hl 0 rfl) ?_
  refine lv_iload hx hb dL_law_753 (lv_at hl 4 rfl) ?_
  refine lv_iconst (v := 1) hx hb dL_law_755 (by decide) ?_
  refine lv_iadd hx hb dL_law_756 ?_
  refine hs_sld hC hW hX hbl hi1 dL_law_757 ?_
  refine lv_aload_n hx hb dL_law_758 rfl (lv_at hl 3 rfl) ?_
  refine hs_callST hC hs_Tok hW hL (ct_L_date E hST t cap X d G hT o f9 ho hto hos h99 hJ hB _) cw_L_date lk_L_116 st_L_date hl.1 ⟨by decide, by decide, (by show cells + 1 ≤ 601024; omega), (by show slots + 6 ≤ 7293034; omega)⟩ (Nat.le_of_ble_eq_true rfl) dL_law_759 (hs_kI (fun z G1 k n H locs hI hk hn hW hL => ?_))
  replace hk : k ≤ 1 := hk
  replace hn : n ≤ 6 := hn
  obtain ⟨t1, cap1, f1, Y, hyy, hS1⟩ := lw_cls hS ((Classical.em (0 ≤ xs (i + 1).toNatClampNeg ∧ xs (i + 1).toNatClampNeg ≤ 4)).elim (fun z => (hI.1 z).2.elim fun f hf => ⟨f, X, vY.rf h99 hJ, t, cap, G, hT, cl_F.rf, hf.2⟩) (fun z => ⟨f9, X, vY.rf h99 hJ, t, cap, G, hT, cl_F.rf, (hI.2 z).2.trans (hs_up_id ho).symm⟩))
  obtain ⟨N1, S1, hI1⟩ := hS1.2.2.2.2.2.2.2.2.2.2
  replace hW := lw_W hS1 hW
  refine lv_istore (lv' := [(5, .int _), (0, .ref _), (1, .ref _), (2, .ref _), (3, .ref _), (4, .int _)]) hx hb dL_law_762 hl (by decide) rfl (fun ls hl => ?_)
  refine lv_aload_n hx hb dL_law_764 rfl (lv_at hl 3 rfl) ?_
  refine lv_aload_n hx hb dL_law_765 rfl (lv_at hl 1 rfl) ?_
  refine lv_iload hx hb dL_law_766 (lv_at hl 5 rfl) ?_
  refine lv_iconst (v := 1) hx hb dL_law_768 (by decide) ?_
  refine lv_iadd hx hb dL_law_769 ?_
  refine hs_sld hC hW hX hbl hi1 dL_law_770 ?_
  refine hs_callV hC hs_Tok hW hL (ct_X8_date E mo ar ix sc mI mL G1 hS1.2.2.2.2.1 _ N1 d S1 hI1) cw_X8_date lk_L_118 im_X8_date se_X8_date (hs_recv hC hW mo_obj rfl) hl.1 ⟨by decide, by decide, (by show cells + k + 0 ≤ 601024; omega), (by show slots + n + 0 ≤ 7293034; omega)⟩ (Nat.le_of_ble_eq_true rfl) dL_law_771 (lw_kI (dm2 := d) hS1 (fun v sc2 mI2 mL2 h => ⟨h.1, lw_keep hI1 h.2.1 h.2.2.1⟩) (fun x sc2 mI2 mL2 H locs hI2 hS2 hW hL => ?_))
  refine lv_istore (lv' := [(6, .int _), (5, .int _), (0, .ref _), (1, .ref _), (2, .ref _), (3, .ref _), (4, .int _)]) hx hb dL_law_774 hl (by decide) rfl (fun ls hl => ?_)
  refine lv_goto (tgt := 820) hx hb dL_law_776 (by decide) ?_
  exact kk _ _ _ _ k n (by omega) (by omega) ⟨Y, _, _, _, _, _, _, _, hyy.1, hS2, hyy.q h97⟩ hW hL (lv_sub hl [2, 3, 4, 5, 6] rfl)
set_option maxHeartbeats 4000000 in
set_option maxRecDepth 100000 in
theorem lw_case14 (E : hs_E) (hST : E.1.stackTraces = false) {p : Program} {e : Env} {s : State} {m : MethodId} {args : Array Value} {below : List Frame} {meth : Method} {c : Code} {Q : State → Prop} (hC : hs_C (eD E) vwCl (eT E) (eZ E) (eH E) hs_Ts p s m args c cL_law 8 RL) {b L : Nat} {xs : Nat → Int32} (hX : va_X b L xs s (eH E)) (hbl : b < (eH E).size) {i : Int32} (hi0 : vp_in (i) L) (hi1 : vp_in (i + 1) L) (hi2 : vp_in (i + 2) L) (hi3 : vp_in (i + 3) L) (hi4 : vp_in (i + 4) L) (hi5 : vp_in (i + 5) L) (hi6 : vp_in (i + 6) L) (hi7 : vp_in (i + 7) L) (hi8 : vp_in (i + 8) L) {jj : Nat} (hj9 : jj ≤ 512) {x o mo : Nat} {ar : Nat → Nat} {ix : Nat → Option Nat} {G : hs_G} (hB : lw_B E x o mo ar ix jj G) {H : Heap} {locs : List Loc} {ls : Array Slot} {cells slots : Nat} (hW : hs_W (eD E) vwCl (eH E) G H) (hL : ∀ q ∈ locs, (eH E).size ≤ q.base) (hl : lv_has ls 8 [(0, .ref b), (1, .ref x), (2, .ref mo), (3, .ref o), (4, .int i)]) (hc9 : cells + 500 ≤ 601024) (hn9 : slots + 3000 ≤ 7293034)
    (kk : lw_Kk E p e s m args below meth c b i x o mo ar ix jj cells slots Q 820) : W p E.1 e room_1 s m args below meth c H locs cells slots Q (F0 m 779 ls []) := by
  obtain ⟨X, t, cap, d, sc, mI, mL, f9, rfl, hS, h99, hJ, h97⟩ := hB
  have hB : X 97 ≤ 1152921504606846976 := by omega
  obtain ⟨hx, hb, hml, hown, hts, -⟩ := id hC
  obtain ⟨hT, ho, hto, hos, -⟩ := id hS
  refine lv_aload_n hx hb dL_law_779 rfl (lv_at hl 1 rfl) ?_
  refine lv_aload_n hx hb dL_law_780 rfl (lv_at hl 0 rfl) ?_
  refine lv_iload hx hb dL_law_781 (lv_at hl 4 rfl) ?_
  refine lv_iconst (v := 1) hx hb dL_law_783 (by decide) ?_
  refine lv_iadd hx hb dL_law_784 ?_
  refine hs_sld hC hW hX hbl hi1 dL_law_785 ?_
  refine lv_aload_n hx hb dL_law_786 rfl (lv_at hl 3 rfl) ?_
  refine hs_callST hC hs_Tok hW hL (ct_L_count E hST t cap X d G hT o f9 ho hto hos h99 hJ hB _) cw_L_count lk_L_119 st_L_count hl.1 ⟨by decide, by decide, (by show cells + 1 ≤ 601024; omega), (by show slots + 6 ≤ 7293034; omega)⟩ (Nat.le_of_ble_eq_true rfl) dL_law_787 (hs_kI (fun z G1 k n H locs hI hk hn hW hL => ?_))
  replace hk : k ≤ 1 := hk
  replace hn : n ≤ 6 := hn
  obtain ⟨t1, cap1, f1, Y, hyy, hS1⟩ := lw_cls hS (hI)
  obtain ⟨N1, S1, hI1⟩ := hS1.2.2.2.2.2.2.2.2.2.2
  replace hW := lw_W hS1 hW
  refine lv_istore (lv' := [(5, .int _), (0, .ref _), (1, .ref _), (2, .ref _), (3, .ref _), (4, .int _)]) hx hb dL_law_790 hl (by decide) rfl (fun ls hl => ?_)
  refine lv_aload_n hx hb dL_law_792 rfl (lv_at hl 3 rfl) ?_
  refine lv_aload_n hx hb dL_law_793 rfl (lv_at hl 1 rfl) ?_
  refine lv_iload hx hb dL_law_794 (lv_at hl 5 rfl) ?_
  refine lv_iconst (v := 1) hx hb dL_law_796 (by decide) ?_
  refine lv_iadd hx hb dL_law_797 ?_
  refine hs_sld hC hW hX hbl hi1 dL_law_798 ?_
  refine hs_callV hC hs_Tok hW hL (ct_X8_count E mo ar ix sc mI mL G1 hS1.2.2.2.2.1 _ N1 d S1 hI1.b) cw_X8_count lk_L_121 im_X8_count se_X8_count (hs_recv hC hW mo_obj rfl) hl.1 ⟨by decide, by decide, (by show cells + k + 0 ≤ 601024; omega), (by show slots + n + 0 ≤ 7293034; omega)⟩ (Nat.le_of_ble_eq_true rfl) dL_law_799 (lw_kI (dm2 := d) hS1 (fun v sc2 mI2 mL2 h => ⟨h.1, lw_keep hI1 h.2.1 h.2.2⟩) (fun x sc2 mI2 mL2 H locs hI2 hS2 hW hL => ?_))
  refine lv_istore (lv' := [(6, .int _), (5, .int _), (0, .ref _), (1, .ref _), (2, .ref _), (3, .ref _), (4, .int _)]) hx hb dL_law_802 hl (by decide) rfl (fun ls hl => ?_)
  refine lv_goto (tgt := 820) hx hb dL_law_804 (by decide) ?_
  exact kk _ _ _ _ k n (by omega) (by omega) ⟨Y, _, _, _, _, _, _, _, hyy.1, hS2, hyy.q h97⟩ hW hL (lv_sub hl [2, 3, 4, 5, 6] rfl)
set_option maxHeartbeats 4000000 in
set_option maxRecDepth 100000 in
theorem lw_case15 (E : hs_E) (hST : E.1.stackTraces = false) {p : Program} {e : Env} {s : State} {m : MethodId} {args : Array Value} {below : List Frame} {meth : Method} {c : Code} {Q : State → Prop} (hC : hs_C (eD E) vwCl (eT E) (eZ E) (eH E) hs_Ts p s m args c cL_law 8 RL) {b L : Nat} {xs : Nat → Int32} (hX : va_X b L xs s (eH E)) (hbl : b < (eH E).size) {i : Int32} (hi0 : vp_in (i) L) (hi1 : vp_in (i + 1) L) (hi2 : vp_in (i + 2) L) (hi3 : vp_in (i + 3) L) (hi4 : vp_in (i + 4) L) (hi5 : vp_in (i + 5) L) (hi6 : vp_in (i + 6) L) (hi7 : vp_in (i + 7) L) (hi8 : vp_in (i + 8) L) {jj : Nat} (hj9 : jj ≤ 512) {x o mo : Nat} {ar : Nat → Nat} {ix : Nat → Option Nat} {G : hs_G} (hB : lw_B E x o mo ar ix jj G) {H : Heap} {locs : List Loc} {ls : Array Slot} {cells slots : Nat} (hW : hs_W (eD E) vwCl (eH E) G H) (hL : ∀ q ∈ locs, (eH E).size ≤ q.base) (hl : lv_has ls 8 [(0, .ref b), (1, .ref x), (2, .ref mo), (3, .ref o), (4, .int i)]) (hc9 : cells + 500 ≤ 601024) (hn9 : slots + 3000 ≤ 7293034)
    (kk : lw_Kk E p e s m args below meth c b i x o mo ar ix jj cells slots Q 820) : W p E.1 e room_1 s m args below meth c H locs cells slots Q (F0 m 807 ls []) := by
  obtain ⟨X, t, cap, d, sc, mI, mL, f9, rfl, hS, h99, hJ, h97⟩ := hB
  have hB : X 97 ≤ 1152921504606846976 := by omega
  obtain ⟨hx, hb, hml, hown, hts, -⟩ := id hC
  obtain ⟨hT, ho, hto, hos, -⟩ := id hS
  refine lv_aload_n hx hb dL_law_807 rfl (lv_at hl 1 rfl) ?_
  refine hs_callV hC hs_Tok hW hL (ct_X7_astray E t cap X d G hT hJ hB) cw_X7_astray lk_L_122 im_X7_astray se_X7_astray (hs_recv hC hW hT.house rfl) hl.1 ⟨by decide, by decide, (by show cells + 0 ≤ 601024; omega), (by show slots + 0 ≤ 7293034; omega)⟩ (Nat.le_of_ble_eq_true rfl) dL_law_808 (hs_kp1 (fun H locs hW hL => ?_))
  obtain ⟨N1, S1, hI1⟩ := hS.2.2.2.2.2.2.2.2.2.2
  replace hW := lw_W hS hW
  refine lv_aload_n hx hb dL_law_811 rfl (lv_at hl 2 rfl) ?_
  refine hs_callV hC hs_Tok hW hL (ct_X8_astray E mo ar ix sc mI mL G hS.2.2.2.2.1  N1 d S1 hI1) cw_X8_astray lk_L_125 im_X8_astray se_X8_astray (hs_recv hC hW mo_obj rfl) hl.1 ⟨by decide, by decide, (by show cells + 0 ≤ 601024; omega), (by show slots + 0 ≤ 7293034; omega)⟩ (Nat.le_of_ble_eq_true rfl) dL_law_812 (lw_kI (dm2 := d) hS (fun v sc2 mI2 mL2 h => ⟨⟨_, h.1⟩, h.2.1⟩) (fun x sc2 mI2 mL2 H locs hI2 hS2 hW hL => ?_))
  refine lv_icmp_eq (tgt := 820) hx hb dL_law_815 (by decide) (fun c815 => ?_) (fun c815 => ?_)
  · exact kk _ _ _ _ 0 0 (by omega) (by omega) ⟨X, _, _, _, _, _, _, _, rfl, hS2, (vY.rf h99 hJ).q h97⟩ hW hL (lv_sub hl [0, 1, 2, 3, 4] rfl)
  exact absurd c815 (fun z => z (by have e9 := hI2.1; cases e9; rfl))
