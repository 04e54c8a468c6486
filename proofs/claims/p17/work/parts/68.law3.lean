/-! the law's loop -/
theorem lw_le {j L : Nat} (hL : L ≤ 4608) (hj : j ≤ 512) (h : ¬ nI (9 * j) > Int32.ofNat L - 9) : 9 * j + 9 ≤ L := by
  have e1 : (nI (9 * j)).toInt = ((9 * j : Nat) : Int) := nI_toInt (by omega)
  have e2 : (nI L).toInt = (L : Int) := nI_toInt (by omega)
  have e3 : (Int32.ofNat L - 9).toInt = (L : Int) - 9 := by
    rw [Int32.toInt_sub, show (9 : Int32).toInt = 9 from rfl]
    rw [show (Int32.ofNat L).toInt = (L : Int) from e2]
    exact Int.bmod_eq_of_le (by omega) (by omega)
  have h2 : ¬ (Int32.ofNat L - 9 < nI (9 * j)) := h
  rw [Int32.lt_iff_toInt_lt, e1, e3] at h2
  omega
theorem lw_in {j L k : Nat} {i c : Int32} (hL : L ≤ 4608) (h : 9 * j + 9 ≤ L) (hk : k < 9) (hi : i = nI (9 * j)) (hc : c = nI k) : vp_in (i + c) L := by
  rw [hi, hc, nI_add]
  exact vp_in_nI (by omega) (by omega)
set_option maxHeartbeats 4000000 in
set_option maxRecDepth 100000 in
theorem lw_loop (E : hs_E) (hST : E.1.stackTraces = false) {p : Program} {e : Env} {s : State} {m : MethodId} {args : Array Value} {below : List Frame} {meth : Method} {c : Code} {Q : State → Prop} (hC : hs_C (eD E) vwCl (eT E) (eZ E) (eH E) hs_Ts p s m args c cL_law 8 RL) {b L : Nat} {xs : Nat → Int32} (hX : va_X b L xs s (eH E)) (hbl : b < (eH E).size) (hL9 : L ≤ 4608) {x o mo : Nat} {ar : Nat → Nat} {ix : Nat → Option Nat}
    (kend : ∀ (H : Heap) (locs : List Loc) (ls : Array Slot) (cells slots : Nat), (∀ q ∈ locs, (eH E).size ≤ q.base) → cells ≤ 601024 → slots ≤ 7293034 → W p E.1 e room_1 s m args below meth c H locs cells slots Q (F0 m 826 ls [])) :
    ∀ (r j : Nat), L ≤ 9 * (j + r) → j ≤ 512 → ∀ (G : hs_G) (H : Heap) (locs : List Loc) (ls : Array Slot) (cells slots : Nat), lw_B E x o mo ar ix j G → hs_W (eD E) vwCl (eH E) G H → (∀ q ∈ locs, (eH E).size ≤ q.base) → lv_has ls 8 [(0, .ref b), (1, .ref x), (2, .ref mo), (3, .ref o), (4, .int (nI (9 * j)))] → cells ≤ 100 + 460 * j → slots ≤ 60000 + 2030 * j → W p E.1 e room_1 s m args below meth c H locs cells slots Q (F0 m 23 ls []) := by
  obtain ⟨hx, hb, hml, hown, hts, -⟩ := id hC
  intro r
  induction r with
  | zero =>
    intro j hr hj G H locs ls cells slots hB hW hL hl hc9 hn9
    refine lv_iload hx hb dL_law_23 (lv_at hl 4 rfl) ?_
    refine lv_aload_n hx hb dL_law_25 rfl (lv_at hl 0 rfl) ?_
    refine hs_slen hC hW hX hbl dL_law_26 ?_
    refine lv_bipush (v := 9) hx hb dL_law_27 (by decide) ?_
    refine lv_isub hx hb dL_law_29 ?_
    refine lv_icmp_gt (tgt := 826) hx hb dL_law_30 (by decide) (fun c30 => ?_) (fun c30 => ?_)
    · exact kend _ _ _ _ _ hL (by omega) (by omega)
    exact absurd (lw_le hL9 hj c30) (by omega)
  | succ r ih =>
    intro j hr hj G H locs ls cells slots hB hW hL hl hc9 hn9
    refine lv_iload hx hb dL_law_23 (lv_at hl 4 rfl) ?_
    refine lv_aload_n hx hb dL_law_25 rfl (lv_at hl 0 rfl) ?_
    refine hs_slen hC hW hX hbl dL_law_26 ?_
    refine lv_bipush (v := 9) hx hb dL_law_27 (by decide) ?_
    refine lv_isub hx hb dL_law_29 ?_
    refine lv_icmp_gt (tgt := 826) hx hb dL_law_30 (by decide) (fun c30 => ?_) (fun c30 => ?_)
    · exact kend _ _ _ _ _ hL (by omega) (by omega)
    have hlt := lw_le hL9 hj c30
    have hi0 : vp_in (nI (9 * j)) L := vp_in_nI (by omega) (by omega)
    have hi1 : vp_in (nI (9 * j) + 1) L := lw_in hL9 hlt (k := 1) (by decide) rfl rfl
    have hi2 : vp_in (nI (9 * j) + 2) L := lw_in hL9 hlt (k := 2) (by decide) rfl rfl
    have hi3 : vp_in (nI (9 * j) + 3) L := lw_in hL9 hlt (k := 3) (by decide) rfl rfl
    have hi4 : vp_in (nI (9 * j) + 4) L := lw_in hL9 hlt (k := 4) (by decide) rfl rfl
    have hi5 : vp_in (nI (9 * j) + 5) L := lw_in hL9 hlt (k := 5) (by decide) rfl rfl
    have hi6 : vp_in (nI (9 * j) + 6) L := lw_in hL9 hlt (k := 6) (by decide) rfl rfl
    have hi7 : vp_in (nI (9 * j) + 7) L := lw_in hL9 hlt (k := 7) (by decide) rfl rfl
    have hi8 : vp_in (nI (9 * j) + 8) L := lw_in hL9 hlt (k := 8) (by decide) rfl rfl
    have hcK : cells + 500 ≤ 601024 := by omega
    have hnK : slots + 3000 ≤ 7293034 := by omega
    have kk : lw_Kk E p e s m args below meth c b (nI (9 * j)) x o mo ar ix j cells slots Q 820 := by
      intro G' H' locs' ls' k n h1 h2 h3 h4 h5 hl
      refine lv_iinc (lv' := [(4, .int _), (0, .ref _), (1, .ref _), (2, .ref _), (3, .ref _)]) hx hb dL_law_820 hl (k := 4) rfl rfl (by decide) rfl (fun ls hl => ?_)
      refine lv_goto (tgt := 23) hx hb dL_law_823 (by decide) ?_
      have e9 : nI (9 * j) + 9 = nI (9 * (j + 1)) := by rw [show (9 : Int32) = nI 9 from rfl, nI_add]; rfl
      replace hl : lv_has ls 8 [(4, .int (nI (9 * j) + 9)), (0, .ref b), (1, .ref x), (2, .ref mo), (3, .ref o)] := hl
      rw [e9] at hl
      exact ih (j + 1) (by omega) (by omega) G' H' locs' ls _ _ h3 h4 h5 (lv_sub hl [1, 2, 3, 4, 0] rfl) (by omega) (by omega)
    refine lv_aload_n hx hb dL_law_33 rfl (lv_at hl 0 rfl) ?_
    refine lv_iload hx hb dL_law_34 (lv_at hl 4 rfl) ?_
    refine hs_sld hC hW hX hbl hi0 dL_law_36 ?_
    refine lv_bipush (v := 15) hx hb dL_law_37 (by decide) ?_
    refine lv_iand hx hb dL_law_39 ?_
    rcases (show (((xs (nI (9 * j)).toNatClampNeg &&& 15)).toInt < 0 ∨ 15 < ((xs (nI (9 * j)).toNatClampNeg &&& 15)).toInt) ∨ ((xs (nI (9 * j)).toNatClampNeg &&& 15)).toInt = 0 ∨ ((xs (nI (9 * j)).toNatClampNeg &&& 15)).toInt = 1 ∨ ((xs (nI (9 * j)).toNatClampNeg &&& 15)).toInt = 2 ∨ ((xs (nI (9 * j)).toNatClampNeg &&& 15)).toInt = 3 ∨ ((xs (nI (9 * j)).toNatClampNeg &&& 15)).toInt = 4 ∨ ((xs (nI (9 * j)).toNatClampNeg &&& 15)).toInt = 5 ∨ ((xs (nI (9 * j)).toNatClampNeg &&& 15)).toInt = 6 ∨ ((xs (nI (9 * j)).toNatClampNeg &&& 15)).toInt = 7 ∨ ((xs (nI (9 * j)).toNatClampNeg &&& 15)).toInt = 8 ∨ ((xs (nI (9 * j)).toNatClampNeg &&& 15)).toInt = 9 ∨ ((xs (nI (9 * j)).toNatClampNeg &&& 15)).toInt = 10 ∨ ((xs (nI (9 * j)).toNatClampNeg &&& 15)).toInt = 11 ∨ ((xs (nI (9 * j)).toNatClampNeg &&& 15)).toInt = 12 ∨ ((xs (nI (9 * j)).toNatClampNeg &&& 15)).toInt = 13 ∨ ((xs (nI (9 * j)).toNatClampNeg &&& 15)).toInt = 14 ∨ ((xs (nI (9 * j)).toNatClampNeg &&& 15)).toInt = 15 by omega) with c40 | c40 | c40 | c40 | c40 | c40 | c40 | c40 | c40 | c40 | c40 | c40 | c40 | c40 | c40 | c40 | c40
    · refine lv_tableOut (tgt := 820) hx hb dL_law_40 c40 (by decide) ?_
      exact kk _ _ _ _ 0 0 (by omega) (by omega) hB.up hW hL hl
    · refine lv_tableIn (off := 80) (tgt := 120) hx hb dL_law_40 (by omega) (by omega) (by rw [c40]; rfl) (by decide) ?_
      exact lw_case0 E hST hC hX hbl hi0 hi1 hi2 hi3 hi4 hi5 hi6 hi7 hi8 hj hB hW hL hl hcK hnK kk
    · refine lv_tableIn (off := 132) (tgt := 172) hx hb dL_law_40 (by omega) (by omega) (by rw [c40]; rfl) (by decide) ?_
      exact lw_case1 E hST hC hX hbl hi0 hi1 hi2 hi3 hi4 hi5 hi6 hi7 hi8 hj hB hW hL hl hcK hnK kk
    · refine lv_tableIn (off := 160) (tgt := 200) hx hb dL_law_40 (by omega) (by omega) (by rw [c40]; rfl) (by decide) ?_
      exact lw_case2 E hST hC hX hbl hi0 hi1 hi2 hi3 hi4 hi5 hi6 hi7 hi8 hj hB hW hL hl hcK hnK kk
    · refine lv_tableIn (off := 294) (tgt := 334) hx hb dL_law_40 (by omega) (by omega) (by rw [c40]; rfl) (by decide) ?_
      exact lw_case3 E hST hC hX hbl hi0 hi1 hi2 hi3 hi4 hi5 hi6 hi7 hi8 hj hB hW hL hl hcK hnK kk
    · refine lv_tableIn (off := 362) (tgt := 402) hx hb dL_law_40 (by omega) (by omega) (by rw [c40]; rfl) (by decide) ?_
      exact lw_case4 E hST hC hX hbl hi0 hi1 hi2 hi3 hi4 hi5 hi6 hi7 hi8 hj hB hW hL hl hcK hnK kk
    · refine lv_tableIn (off := 430) (tgt := 470) hx hb dL_law_40 (by omega) (by omega) (by rw [c40]; rfl) (by decide) ?_
      exact lw_case5 E hST hC hX hbl hi0 hi1 hi2 hi3 hi4 hi5 hi6 hi7 hi8 hj hB hW hL hl hcK hnK kk
    · refine lv_tableIn (off := 470) (tgt := 510) hx hb dL_law_40 (by omega) (by omega) (by rw [c40]; rfl) (by decide) ?_
      exact lw_case6 E hST hC hX hbl hi0 hi1 hi2 hi3 hi4 hi5 hi6 hi7 hi8 hj hB hW hL hl hcK hnK kk
    · refine lv_tableIn (off := 510) (tgt := 550) hx hb dL_law_40 (by omega) (by omega) (by rw [c40]; rfl) (by decide) ?_
      exact lw_case7 E hST hC hX hbl hi0 hi1 hi2 hi3 hi4 hi5 hi6 hi7 hi8 hj hB hW hL hl hcK hnK kk
    · refine lv_tableIn (off := 526) (tgt := 566) hx hb dL_law_40 (by omega) (by omega) (by rw [c40]; rfl) (by decide) ?_
      exact lw_case8 E hST hC hX hbl hi0 hi1 hi2 hi3 hi4 hi5 hi6 hi7 hi8 hj hB hW hL hl hcK hnK kk
    · refine lv_tableIn (off := 554) (tgt := 594) hx hb dL_law_40 (by omega) (by omega) (by rw [c40]; rfl) (by decide) ?_
      exact lw_case9 E hST hC hX hbl hi0 hi1 hi2 hi3 hi4 hi5 hi6 hi7 hi8 hj hB hW hL hl hcK hnK kk
    · refine lv_tableIn (off := 594) (tgt := 634) hx hb dL_law_40 (by omega) (by omega) (by rw [c40]; rfl) (by decide) ?_
      exact lw_case10 E hST hC hX hbl hi0 hi1 hi2 hi3 hi4 hi5 hi6 hi7 hi8 hj hB hW hL hl hcK hnK kk
    · refine lv_tableIn (off := 634) (tgt := 674) hx hb dL_law_40 (by omega) (by omega) (by rw [c40]; rfl) (by decide) ?_
      exact lw_case11 E hST hC hX hbl hi0 hi1 hi2 hi3 hi4 hi5 hi6 hi7 hi8 hj hB hW hL hl hcK hnK kk
    · refine lv_tableIn (off := 671) (tgt := 711) hx hb dL_law_40 (by omega) (by omega) (by rw [c40]; rfl) (by decide) ?_
      exact lw_case12 E hST hC hX hbl hi0 hi1 hi2 hi3 hi4 hi5 hi6 hi7 hi8 hj hB hW hL hl hcK hnK kk
    · refine lv_tableIn (off := 711) (tgt := 751) hx hb dL_law_40 (by omega) (by omega) (by rw [c40]; rfl) (by decide) ?_
      exact lw_case13 E hST hC hX hbl hi0 hi1 hi2 hi3 hi4 hi5 hi6 hi7 hi8 hj hB hW hL hl hcK hnK kk
    · refine lv_tableIn (off := 739) (tgt := 779) hx hb dL_law_40 (by omega) (by omega) (by rw [c40]; rfl) (by decide) ?_
      exact lw_case14 E hST hC hX hbl hi0 hi1 hi2 hi3 hi4 hi5 hi6 hi7 hi8 hj hB hW hL hl hcK hnK kk
    · refine lv_tableIn (off := 767) (tgt := 807) hx hb dL_law_40 (by omega) (by omega) (by rw [c40]; rfl) (by decide) ?_
      exact lw_case15 E hST hC hX hbl hi0 hi1 hi2 hi3 hi4 hi5 hi6 hi7 hi8 hj hB hW hL hl hcK hnK kk
