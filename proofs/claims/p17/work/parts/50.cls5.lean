/-! the class: the house -/
/-- or it throws: of the class C, the store being G -/
def hs_or2 (Q : hs_P) (G : hs_G) (P : String → Prop) : hs_P := fun r G1 k n => Q r G1 k n ∨ ∃ C : String, P C ∧ r = .inr C ∧ G1 = G ∧ k = 1 ∧ n = 6
section HS50
variable {p : Program} {l : Launch} {e : Env} {R : Room} {s : State} {m : MethodId} {args : Array Value} {below : List Frame} {meth : Method} {c : Code} {cells slots : Nat} {Q : State → Prop} {pc : Nat} {ls : Array Slot} {rest : List Value} {D : va_G} {cl : List vw_C} {H0 : Heap} {rm : Room}
/-- behind a call that may throw: the method leaves with what was thrown -/
theorem hs_kor2 {G : hs_G} {Q1 Qy : hs_P} {P : String → Prop} {K N : Nat} (hnoh : ∀ x ∈ c.exceptionTable.toList, False) (hlocks : meth.locks = false) (hk : cells + 1 ≤ K) (hn : slots + 6 ≤ N) (hq : ∀ C : String, P C → Qy (.inr C) G (cells + 1) (slots + 6))
    (kk : hs_Kr D cl H0 Q1 rm p l e R s m args below meth c cells slots (hs_Z D cl H0 Qy K N below s) pc ls rest) : hs_Kr D cl H0 (hs_or2 Q1 G P) rm p l e R s m args below meth c cells slots (hs_Z D cl H0 Qy K N below s) pc ls rest := by
  refine ⟨?_, ?_⟩
  · rintro v G1 k n H1 locs1 (h | ⟨C, -, h2, -⟩) h3 h4 h5 h6
    · exact kk.1 v G1 k n H1 locs1 h h3 h4 h5 h6
    · cases h2
  · rintro C' x G1 k n H1 locs1 (h | ⟨C, hC, h2, rfl, rfl, rfl⟩) h3 h4 h5 h6 h7
    · exact kk.2 C' x G1 k n H1 locs1 h h3 h4 h5 h6 h7
    · cases h2
      exact hs_leave h5 h6 hlocks hk hn (fun x hx => (hnoh x hx).elim) h7 (hq C' hC)
end HS50
set_option maxHeartbeats 4000000 in
set_option maxRecDepth 100000 in
/-- find -/
theorem ct_X7_find (E : hs_E) (hST : E.1.stackTraces = false) (t : cl_t) (cap X : Nat → Nat) (d : Nat) (G : hs_G) (hT : cl_T E t cap X d G) (i : Int32) : hM E yX7_find ({ frames := 6, cells := 1, slots := 6, locals := 90 }) [.ref (X 0), .int i] G (hs_or2 (hs_O (fun x G1 k n => t x = some (50, 0) ∧ G1 = G ∧ k = 0 ∧ n = 0)) G (fun C => C = "java/lang/IllegalArgumentException")) := by
  refine hs_ofW (cc := cX7_find) (maxL := 2) (ret := (some (.object "SettleHouse$Trade"))) (by decide) co_X7_find ?_
  intro p e s m args below meth c hC hlocks hr hin0 hnoh hW
  obtain ⟨hx, hb, hml, hown, hts, -⟩ := id hC
  have hE := hW
  have hL : ∀ q ∈ ([] : List Loc), (eH E).size ≤ q.base := fun q hq => nomatch hq
  have hl := lv_entry ([.ref (X 0), .int i] : List Value) (n := 2) (Nat.le_of_ble_eq_true rfl)
  rw [lg_entry_eq]
  generalize (lg_sl [.ref (X 0), .int i] ++ List.replicate (2 - (lg_sl [.ref (X 0), .int i]).length) Slot.unset).toArray = ls at hl ⊢
  have hl : lv_has ls 2 [(0, .ref (X 0)), (1, .int i)] := hl
  obtain ⟨mc9, A9, sz9, f9, hLo, hLa, hsc, hmx, hcp, hel, hAA⟩ := hT.l8
  refine lv_iload_n hx hb dX7_find_0 rfl (lv_at hl 1 rfl) ?_
  refine lv_if_lt (tgt := 15) hx hb dX7_find_1 (by decide) (fun c1 => ?_) (fun c1 => ?_)
  · exact hs_throw (names := hs_up2) hC (Or.inr hE.2.2) hW hL hlocks hST (by decide +kernel) tf_up2 lk_X7_188 ii_O_IllegalArgumentException ta_IAE tg_IAE hl.1 dX7_find_15 dX7_find_18 dX7_find_19 dX7_find_22 (fun x hx => (hnoh x hx).elim) (by decide) (by decide) (by decide) (Or.inr ⟨_, rfl, rfl, rfl, rfl, rfl⟩)
  refine lv_iload_n hx hb dX7_find_4 rfl (lv_at hl 1 rfl) ?_
  refine lv_aload_n hx hb dX7_find_5 rfl (lv_at hl 0 rfl) ?_
  refine hs_get hC hW hi_X7 rfl 3 (by decide) lk_X7_33 rfl hT.house rfl dX7_find_6 ?_
  refine hs_callV hC hs_Tok hW hL (ct_size E G (X 8) A9 sz9 mc9 hLo) cw_Jx4a65c_size_8abf5 lk_X7_81 im_Jx4a65c_size_8abf5 se_Jx4a65c_size_8abf5 (hs_recv hC hW hLo rfl) hl.1 (by decide) (Nat.le_of_ble_eq_true rfl) dX7_find_9 (hs_kp1 (fun H locs hW hL => ?_))
  refine lv_icmp_lt (tgt := 23) hx hb dX7_find_12 (by decide) (fun c12 => ?_) (fun c12 => ?_)
  · obtain ⟨j, hj31, rfl⟩ := nI_of c1
    have hlt : j < sz9 := (nI_ltI hj31 (by omega)).mp c12
    obtain ⟨x9, hfx, htx⟩ := hel j hlt
    obtain ⟨nu9, te9, t9, s8, s9, st9, du9, ql9, am9, fa9, pr9, ip9, g9, hX, ht1, ht2, ht3, hg9⟩ := hT.tr htx
    refine lv_aload_n hx hb dX7_find_23 rfl (lv_at hl 0 rfl) ?_
    refine hs_get hC hW hi_X7 rfl 3 (by decide) lk_X7_33 rfl hT.house rfl dX7_find_24 ?_
    refine lv_iload_n hx hb dX7_find_27 rfl (lv_at hl 1 rfl) ?_
    refine hs_callV hC hs_Tok hW hL (ct_get E G (X 8) A9 sz9 mc9 hLo (cap (X 8)) f9 hLa (by omega) j x9 hlt hsc hfx) cw_Jx4a65c_get_915e3 lk_X7_202 im_Jx4a65c_get_915e3 se_Jx4a65c_get_915e3 (hs_recv hC hW hLo rfl) hl.1 (by decide) (Nat.le_of_ble_eq_true rfl) dX7_find_28 (hs_kp1 (fun H locs hW hL => ?_))
    refine hs_cast hC hW lk_X7_99 ca_X5_X5 hX rfl dX7_find_31 ?_
    exact hs_aret hC hW hL hr (Or.inl ⟨_, rfl⟩) (Or.inr ⟨_, rfl⟩) hlocks (by decide) (by decide) dX7_find_34 (Or.inl ⟨x9, rfl, htx, rfl, rfl, rfl⟩)
  exact hs_throw (names := hs_up2) hC (Or.inr hE.2.2) hW hL hlocks hST (by decide +kernel) tf_up2 lk_X7_188 ii_O_IllegalArgumentException ta_IAE tg_IAE hl.1 dX7_find_15 dX7_find_18 dX7_find_19 dX7_find_22 (fun x hx => (hnoh x hx).elim) (by decide) (by decide) (by decide) (Or.inr ⟨_, rfl, rfl, rfl, rfl, rfl⟩)
set_option maxHeartbeats 4000000 in
set_option maxRecDepth 100000 in
/-- findSide -/
theorem ct_X7_findSide (E : hs_E) (hST : E.1.stackTraces = false) (t : cl_t) (cap X : Nat → Nat) (d : Nat) (G : hs_G) (hT : cl_T E t cap X d G) (a : Nat) (ha : t a = some (50, 0)) (pa : Int32) : hM E yX7_findSide ({ frames := 6, cells := 1, slots := 6, locals := 90 }) [.ref a, .int pa] G (hs_or2 (hs_O (fun x G1 k n => t x = some (52, 0) ∧ G1 = G ∧ k = 0 ∧ n = 0)) G (fun C => C = "java/lang/IllegalArgumentException")) := by
  refine hs_ofW (cc := cX7_findSide) (maxL := 2) (ret := (some (.object "SettleHouse$Side"))) (by decide) co_X7_findSide ?_
  intro p e s m args below meth c hC hlocks hr hin0 hnoh hW
  obtain ⟨hx, hb, hml, hown, hts, -⟩ := id hC
  have hE := hW
  have hL : ∀ q ∈ ([] : List Loc), (eH E).size ≤ q.base := fun q hq => nomatch hq
  have hl := lv_entry ([.ref a, .int pa] : List Value) (n := 2) (Nat.le_of_ble_eq_true rfl)
  rw [lg_entry_eq]
  generalize (lg_sl [.ref a, .int pa] ++ List.replicate (2 - (lg_sl [.ref a, .int pa]).length) Slot.unset).toArray = ls at hl ⊢
  have hl : lv_has ls 2 [(0, .ref a), (1, .int pa)] := hl
  obtain ⟨nu9, te9, t9, s8, s9, st9, du9, ql9, am9, fa9, pr9, ip9, g9, hX, ht1, ht2, ht3, hg9⟩ := hT.tr ha
  obtain ⟨de9, re9, se9, qq9, aa9, dy9, lg9, hTe, hde, hre, hse, hdy, hlg⟩ := hT.te ht1
  refine lv_iload_n hx hb dX7_findSide_0 rfl (lv_at hl 1 rfl) ?_
  refine lv_aload_n hx hb dX7_findSide_1 rfl (lv_at hl 0 rfl) ?_
  refine hs_getN hC hW hi_X5 rfl 2 (by decide) lk_X7_172 rfl hX rfl dX7_findSide_2 ?_
  refine hs_getN hC hW hi_X4 rfl 0 (by decide) lk_X7_176 rfl hTe rfl dX7_findSide_5 ?_
  refine lv_icmp_ne (tgt := 16) hx hb dX7_findSide_8 (by decide) (fun c8 => ?_) (fun c8 => ?_)
  · refine lv_iload_n hx hb dX7_findSide_16 rfl (lv_at hl 1 rfl) ?_
    refine lv_aload_n hx hb dX7_findSide_17 rfl (lv_at hl 0 rfl) ?_
    refine hs_getN hC hW hi_X5 rfl 2 (by decide) lk_X7_172 rfl hX rfl dX7_findSide_18 ?_
    refine hs_getN hC hW hi_X4 rfl 1 (by decide) lk_X7_179 rfl hTe rfl dX7_findSide_21 ?_
    refine lv_icmp_ne (tgt := 32) hx hb dX7_findSide_24 (by decide) (fun c24 => ?_) (fun c24 => ?_)
    · exact hs_throw (names := hs_up2) hC (Or.inr hE.2.2) hW hL hlocks hST (by decide +kernel) tf_up2 lk_X7_188 ii_O_IllegalArgumentException ta_IAE tg_IAE hl.1 dX7_findSide_32 dX7_findSide_35 dX7_findSide_36 dX7_findSide_39 (fun x hx => (hnoh x hx).elim) (by decide) (by decide) (by decide) (Or.inr ⟨_, rfl, rfl, rfl, rfl, rfl⟩)
    refine lv_aload_n hx hb dX7_findSide_27 rfl (lv_at hl 0 rfl) ?_
    refine hs_getN hC hW hi_X5 rfl 4 (by decide) lk_X7_213 rfl hX rfl dX7_findSide_28 ?_
    exact hs_aret hC hW hL hr (Or.inl ⟨_, rfl⟩) (Or.inr ⟨_, rfl⟩) hlocks (by decide) (by decide) dX7_findSide_31 (Or.inl ⟨_, rfl, by first | exact ht2 | exact ht3, rfl, rfl, rfl⟩)
  refine lv_aload_n hx hb dX7_findSide_11 rfl (lv_at hl 0 rfl) ?_
  refine hs_getN hC hW hi_X5 rfl 3 (by decide) lk_X7_209 rfl hX rfl dX7_findSide_12 ?_
  exact hs_aret hC hW hL hr (Or.inl ⟨_, rfl⟩) (Or.inr ⟨_, rfl⟩) hlocks (by decide) (by decide) dX7_findSide_15 (Or.inl ⟨_, rfl, by first | exact ht2 | exact ht3, rfl, rfl, rfl⟩)
set_option maxHeartbeats 4000000 in
set_option maxRecDepth 100000 in
/-- firstUnmatched -/
theorem ct_X7_firstUnmatched (E : hs_E) (t : cl_t) (cap X : Nat → Nat) (d : Nat) (G : hs_G) (hT : cl_T E t cap X d G) (b : Nat) (hb9 : t b = some (51, 0)) (te : Int32) : hM E yX7_firstUnmatched ({ frames := 3, cells := 0, slots := 0, locals := 90 }) [.ref (X 0), .ref b, .int te] G (fun r G1 k n => G1 = G ∧ k = 0 ∧ n = 0 ∧ (r = .inl (some .null) ∨ ∃ x : Nat, r = .inl (some (.ref x)) ∧ t x = some (50, 0) ∧ ∀ g', ¬ cl_gr (G x) g')) := by
  refine hs_ofW (cc := cX7_firstUnmatched) (maxL := 5) (ret := (some (.object "SettleHouse$Trade"))) (by decide) co_X7_firstUnmatched ?_
  intro p e s m args below meth c hC hlocks hr hin0 hnoh hW
  obtain ⟨hx, hb, hml, hown, hts, -⟩ := id hC
  have hE := hW
  have hL : ∀ q ∈ ([] : List Loc), (eH E).size ≤ q.base := fun q hq => nomatch hq
  have hl := lv_entry ([.ref (X 0), .ref b, .int te] : List Value) (n := 5) (Nat.le_of_ble_eq_true rfl)
  rw [lg_entry_eq]
  generalize (lg_sl [.ref (X 0), .ref b, .int te] ++ List.replicate (5 - (lg_sl [.ref (X 0), .ref b, .int te]).length) Slot.unset).toArray = ls at hl ⊢
  have hl : lv_has ls 5 [(0, .ref (X 0)), (1, .ref b), (2, .int te)] := hl
  obtain ⟨mc9, A9, sz9, f9, hLo, hLa, hsc, hmx, hcp, hel, hAA⟩ := hT.l8
  refine lv_iconst (v := 0) hx hb dX7_firstUnmatched_0 (by decide) ?_
  refine lv_istore_n (lv' := [(3, .int _), (0, .ref _), (1, .ref _), (2, .int _)]) hx hb dX7_firstUnmatched_1 rfl hl (by decide) rfl (fun ls hl => ?_)
  refine hs_loop (σ := Nat) (fun x => match x with | i => sz9 - i) (fun x H locs ls => match x with | i => (i ≤ sz9) ∧ hs_W (eD E) vwCl (eH E) (G) H ∧ (∀ q ∈ locs, (eH E).size ≤ q.base) ∧ lv_has ls 5 [(0, .ref (X 0)), (1, .ref b), (2, .int te), (3, .int (nI i))]) ?_ 0 _ _ _ ⟨Nat.zero_le _, hW, hL, (lv_sub hl [1, 2, 3, 0] rfl)⟩
  rintro i H locs ls ⟨hinv, hW, hL, hl⟩ ih
  replace hW : hs_W (eD E) vwCl (eH E) (G) H := hW
  replace hl : lv_has ls 5 [(0, .ref (X 0)), (1, .ref b), (2, .int te), (3, .int (nI i))] := hl
  refine lv_iload_n hx hb dX7_firstUnmatched_2 rfl (lv_at hl 3 rfl) ?_
  refine lv_aload_n hx hb dX7_firstUnmatched_3 rfl (lv_at hl 0 rfl) ?_
  refine hs_get hC hW hi_X7 rfl 3 (by decide) lk_X7_33 rfl hT.house rfl dX7_firstUnmatched_4 ?_
  refine hs_callV hC hs_Tok hW hL (ct_size E G (X 8) A9 sz9 mc9 hLo) cw_Jx4a65c_size_8abf5 lk_X7_81 im_Jx4a65c_size_8abf5 se_Jx4a65c_size_8abf5 (hs_recv hC hW hLo rfl) hl.1 (by decide) (Nat.le_of_ble_eq_true rfl) dX7_firstUnmatched_7 (hs_kp1 (fun H locs hW hL => ?_))
  refine lv_icmp_ge (tgt := 64) hx hb dX7_firstUnmatched_10 (by decide) (fun c10 => ?_) (fun c10 => ?_)
  · refine lv_null hx hb dX7_firstUnmatched_64 ?_
    exact hs_aret hC hW hL hr (Or.inl ⟨_, rfl⟩) (Or.inl rfl) hlocks (by decide) (by decide) dX7_firstUnmatched_65 ⟨rfl, rfl, rfl, Or.inl rfl⟩
  have hlt : i < sz9 := Nat.not_le.mp fun z => c10 ((nI_leI (by omega) (by omega)).mpr z)
  obtain ⟨x9, hfx, htx⟩ := hel i hlt
  obtain ⟨nu9, te9, t9, s8, s9, st9, du9, ql9, am9, fa9, pr9, ip9, g9, hX, ht1, ht2, ht3, hg9⟩ := hT.tr htx
  obtain ⟨de9, re9, se9, qq9, aa9, dy9, lg9, hTe, -⟩ := hT.te ht1
  refine lv_aload_n hx hb dX7_firstUnmatched_13 rfl (lv_at hl 0 rfl) ?_
  refine hs_get hC hW hi_X7 rfl 3 (by decide) lk_X7_33 rfl hT.house rfl dX7_firstUnmatched_14 ?_
  refine lv_iload_n hx hb dX7_firstUnmatched_17 rfl (lv_at hl 3 rfl) ?_
  refine hs_callV hC hs_Tok hW hL (ct_get E G (X 8) A9 sz9 mc9 hLo (cap (X 8)) f9 hLa (by omega) i x9 hlt hsc hfx) cw_Jx4a65c_get_915e3 lk_X7_202 im_Jx4a65c_get_915e3 se_Jx4a65c_get_915e3 (hs_recv hC hW hLo rfl) hl.1 (by decide) (Nat.le_of_ble_eq_true rfl) dX7_firstUnmatched_18 (hs_kp1 (fun H locs hW hL => ?_))
  refine hs_cast hC hW lk_X7_99 ca_X5_X5 hX rfl dX7_firstUnmatched_21 ?_
  refine lv_astore (lv' := [(4, .ref _), (0, .ref _), (1, .ref _), (2, .int _), (3, .int _)]) hx hb dX7_firstUnmatched_24 hl (by decide) rfl (fun ls hl => ?_)
  refine lv_aload hx hb dX7_firstUnmatched_26 (lv_at hl 0 rfl) ?_
  refine hs_getN hC hW hi_X5 rfl 5 (by decide) lk_X7_151 rfl hX rfl dX7_firstUnmatched_28 ?_
  refine lv_if_ne (tgt := 58) hx hb dX7_firstUnmatched_31 (by decide) (fun c31 => ?_) (fun c31 => ?_)
  · refine lv_iinc (lv' := [(3, .int _), (4, .ref _), (0, .ref _), (1, .ref _), (2, .int _)]) hx hb dX7_firstUnmatched_58 hl (k := 4) rfl rfl (by decide) rfl (fun ls hl => ?_)
    refine lv_goto (tgt := 2) hx hb dX7_firstUnmatched_61 (by decide) ?_
    rw [hs_inc] at hl
    exact ih (i + 1) _ _ _ (by show sz9 - (i + 1) < sz9 - i; omega) ⟨by omega, hW, hL, (lv_sub hl [2, 3, 4, 0] rfl)⟩
  refine lv_aload hx hb dX7_firstUnmatched_34 (lv_at hl 0 rfl) ?_
  refine hs_getN hC hW hi_X5 rfl 1 (by decide) lk_X7_216 rfl hX rfl dX7_firstUnmatched_36 ?_
  refine lv_iload_n hx hb dX7_firstUnmatched_39 rfl (lv_at hl 3 rfl) ?_
  refine lv_icmp_ne (tgt := 58) hx hb dX7_firstUnmatched_40 (by decide) (fun c40 => ?_) (fun c40 => ?_)
  · refine lv_iinc (lv' := [(3, .int _), (4, .ref _), (0, .ref _), (1, .ref _), (2, .int _)]) hx hb dX7_firstUnmatched_58 hl (k := 4) rfl rfl (by decide) rfl (fun ls hl => ?_)
    refine lv_goto (tgt := 2) hx hb dX7_firstUnmatched_61 (by decide) ?_
    rw [hs_inc] at hl
    exact ih (i + 1) _ _ _ (by show sz9 - (i + 1) < sz9 - i; omega) ⟨by omega, hW, hL, (lv_sub hl [2, 3, 4, 0] rfl)⟩
  refine lv_aload hx hb dX7_firstUnmatched_43 (lv_at hl 0 rfl) ?_
  refine hs_getN hC hW hi_X5 rfl 2 (by decide) lk_X7_172 rfl hX rfl dX7_firstUnmatched_45 ?_
  refine lv_aload_n hx hb dX7_firstUnmatched_48 rfl (lv_at hl 2 rfl) ?_
  refine hs_callVN hC hs_Tok hW hL (ct_X4_isLike E t cap X d G hT t9 b ht1 hb9) cw_X4_isLike lk_X7_219 im_X4_isLike se_X4_isLike (hs_recv hC hW hTe rfl) hl.1 (by decide) (Nat.le_of_ble_eq_true rfl) dX7_firstUnmatched_49 (hs_ke (fun x H locs hJ hW hL => ?_))
  refine lv_if_eq (tgt := 58) hx hb dX7_firstUnmatched_52 (by decide) (fun c52 => ?_) (fun c52 => ?_)
  · refine lv_iinc (lv' := [(3, .int _), (4, .ref _), (0, .ref _), (1, .ref _), (2, .int _)]) hx hb dX7_firstUnmatched_58 hl (k := 4) rfl rfl (by decide) rfl (fun ls hl => ?_)
    refine lv_goto (tgt := 2) hx hb dX7_firstUnmatched_61 (by decide) ?_
    rw [hs_inc] at hl
    exact ih (i + 1) _ _ _ (by show sz9 - (i + 1) < sz9 - i; omega) ⟨by omega, hW, hL, (lv_sub hl [2, 3, 4, 0] rfl)⟩
  refine lv_aload hx hb dX7_firstUnmatched_55 (lv_at hl 0 rfl) ?_
  exact hs_aret hC hW hL hr (Or.inl ⟨_, rfl⟩) (Or.inr ⟨_, rfl⟩) hlocks (by decide) (by decide) dX7_firstUnmatched_57 ⟨rfl, rfl, rfl, Or.inr ⟨x9, rfl, htx, fun g' hg' => by (have y1 := hT.u htx _ _ _ _ _ _ _ _ _ _ _ _ _ hX c31; rw [hX] at hg'; have y2 := cl_grI hg'; rw [y1] at y2; cases y2)⟩⟩
set_option maxHeartbeats 4000000 in
set_option maxRecDepth 100000 in
/-- Trade.shareOfAmount -/
theorem ct_X5_shareB (E : hs_E) (t : cl_t) (cap X : Nat → Nat) (d : Nat) (G : hs_G) (hT : cl_T E t cap X d G) (a : Nat) (ha : t a = some (50, 0)) (nu te : Int32) (t1 s1 s2 : Nat) (st du ql am fa pr ip : Int32) (g : Value) (hX : G a = some (cl_tr nu te t1 s1 s2 st du ql am fa pr ip g)) (hb9 : 0 ≤ ql.toInt ∧ ql.toInt ≤ 1000000 ∧ 0 ≤ am.toInt ∧ am.toInt ≤ 1000000000) (pa : Int32) (hpa : 0 < pa.toInt ∧ pa.toInt ≤ ql.toInt) : hM E yX5_shareOfAmount ({ frames := 0, cells := 0, slots := 0, locals := 0 }) [.ref a, .int pa] G (fun r G1 k n => ∃ x : Int32, hs_pu (some (.int x)) G r G1 k n ∧ (x.toInt = am.toInt * pa.toInt / ql.toInt ∧ 0 ≤ am.toInt * pa.toInt / ql.toInt ∧ am.toInt * pa.toInt / ql.toInt ≤ am.toInt)) := by
  refine hs_ofW (cc := cX5_shareOfAmount) (maxL := 2) (ret := (some .int)) (by decide) co_X5_shareOfAmount ?_
  intro p e s m args below meth c hC hlocks hr hin0 hnoh hW
  obtain ⟨hx, hb, hml, hown, hts, -⟩ := id hC
  have hE := hW
  have hL : ∀ q ∈ ([] : List Loc), (eH E).size ≤ q.base := fun q hq => nomatch hq
  have hl := lv_entry ([.ref a, .int pa] : List Value) (n := 2) (Nat.le_of_ble_eq_true rfl)
  rw [lg_entry_eq]
  generalize (lg_sl [.ref a, .int pa] ++ List.replicate (2 - (lg_sl [.ref a, .int pa]).length) Slot.unset).toArray = ls at hl ⊢
  have hl : lv_has ls 2 [(0, .ref a), (1, .int pa)] := hl
  refine lv_aload_n hx hb dX5_shareOfAmount_0 rfl (lv_at hl 0 rfl) ?_
  refine hs_get hC hW hi_X5 rfl 7 (by decide) lk_X5_57 rfl hX rfl dX5_shareOfAmount_1 ?_
  refine lv_if_le (tgt := 25) hx hb dX5_shareOfAmount_4 (by decide) (fun c4 => ?_) (fun c4 => ?_)
  · exact absurd c4 (by rw [Int32.le_iff_toInt_le, Int32.toInt_zero]; omega)
  refine lv_aload_n hx hb dX5_shareOfAmount_7 rfl (lv_at hl 0 rfl) ?_
  refine hs_get hC hW hi_X5 rfl 8 (by decide) lk_X5_63 rfl hX rfl dX5_shareOfAmount_8 ?_
  refine lv_i2l hx hb dX5_shareOfAmount_11 rfl ?_
  refine lv_iload_n hx hb dX5_shareOfAmount_12 rfl (lv_at hl 1 rfl) ?_
  refine lv_i2l hx hb dX5_shareOfAmount_13 rfl ?_
  refine lv_lmul hx hb dX5_shareOfAmount_14 ?_
  refine lv_aload_n hx hb dX5_shareOfAmount_15 rfl (lv_at hl 0 rfl) ?_
  refine hs_get hC hW hi_X5 rfl 7 (by decide) lk_X5_57 rfl hX rfl dX5_shareOfAmount_16 ?_
  refine lv_i2l hx hb dX5_shareOfAmount_19 rfl ?_
  refine lv_ldiv hx hb dX5_shareOfAmount_20 (mo_pos64 c4) ?_
  refine lv_l2i hx hb dX5_shareOfAmount_21 rfl ?_
  refine lv_goto (tgt := 26) hx hb dX5_shareOfAmount_22 (by decide) ?_
  exact hs_iret hC hW hL hr hlocks (by decide) (by decide) dX5_shareOfAmount_26 ⟨_, ⟨rfl, rfl, rfl, rfl⟩, gp_share ⟨by omega, hb9.2.1⟩ ⟨hb9.2.2.1, hb9.2.2.2⟩ ⟨by omega, hpa.2⟩⟩
set_option maxHeartbeats 4000000 in
set_option maxRecDepth 100000 in
/-- greatestPart -/
theorem ct_X7_greatestPart (E : hs_E) (t : cl_t) (cap X : Nat → Nat) (d : Nat) (G : hs_G) (hT : cl_T E t cap X d G) (a : Nat) (ha : t a = some (50, 0)) (nu te : Int32) (t1 s1 s2 : Nat) (st du ql am fa pr ip : Int32) (g : Value) (hX : G a = some (cl_tr nu te t1 s1 s2 st du ql am fa pr ip g)) (hb9 : 0 ≤ ql.toInt ∧ ql.toInt ≤ 1000000 ∧ 0 ≤ am.toInt ∧ am.toInt ≤ 1000000000) (de re se : Nat) (q0 m0 : Int32) (dy lg : Nat) (hTe : G t1 = some (cl_te de re se q0 m0 dy lg)) (hde : de < 16) (hre : re < 16) (hse : se < 8) (hJ : vJ X) : hM E yX7_greatestPart ({ frames := 1, cells := 0, slots := 0, locals := 40 }) [.ref (X 0), .ref a] G (fun r G1 k n => ∃ x : Int32, hs_pu (some (.int x)) G r G1 k n ∧ gpQ ql am x (vv X (20 + de) (se + 1)).toInt (vv X (20 + re) 0).toInt) := by
  refine hs_ofW (cc := cX7_greatestPart) (maxL := 6) (ret := (some .int)) (by decide) co_X7_greatestPart ?_
  intro p e s m args below meth c hC hlocks hr hin0 hnoh hW
  obtain ⟨hx, hb, hml, hown, hts, -⟩ := id hC
  have hE := hW
  have hL : ∀ q ∈ ([] : List Loc), (eH E).size ≤ q.base := fun q hq => nomatch hq
  have hl := lv_entry ([.ref (X 0), .ref a] : List Value) (n := 6) (Nat.le_of_ble_eq_true rfl)
  rw [lg_entry_eq]
  generalize (lg_sl [.ref (X 0), .ref a] ++ List.replicate (6 - (lg_sl [.ref (X 0), .ref a]).length) Slot.unset).toArray = ls at hl ⊢
  have hl : lv_has ls 6 [(0, .ref (X 0)), (1, .ref a)] := hl
  have hv1 := hJ.le (i := se + 1) (by omega) hde
  have hv2 := hJ.le (i := 0) (by omega) hre
  refine lv_aload_n hx hb dX7_greatestPart_0 rfl (lv_at hl 1 rfl) ?_
  refine hs_getN hC hW hi_X5 rfl 7 (by decide) lk_X7_166 rfl hX rfl dX7_greatestPart_1 ?_
  refine lv_iconst (v := 1) hx hb dX7_greatestPart_4 (by decide) ?_
  refine lv_isub hx hb dX7_greatestPart_5 ?_
  refine lv_i2l hx hb dX7_greatestPart_6 rfl ?_
  refine lv_aload_n hx hb dX7_greatestPart_7 rfl (lv_at hl 0 rfl) ?_
  refine hs_get hC hW hi_X7 rfl 1 (by decide) lk_X7_19 rfl hT.house rfl dX7_greatestPart_8 ?_
  refine lv_aload_n hx hb dX7_greatestPart_11 rfl (lv_at hl 1 rfl) ?_
  refine hs_getN hC hW hi_X5 rfl 2 (by decide) lk_X7_172 rfl hX rfl dX7_greatestPart_12 ?_
  refine hs_getN hC hW hi_X4 rfl 0 (by decide) lk_X7_176 rfl hTe rfl dX7_greatestPart_15 ?_
  refine lv_aload_n hx hb dX7_greatestPart_18 rfl (lv_at hl 1 rfl) ?_
  refine hs_getN hC hW hi_X5 rfl 2 (by decide) lk_X7_172 rfl hX rfl dX7_greatestPart_19 ?_
  refine hs_getN hC hW hi_X4 rfl 2 (by decide) lk_X7_182 rfl hTe rfl dX7_greatestPart_22 ?_
  refine hs_callVN hC hs_Tok hW hL (ct_X6_held E t cap X d G hT de hde _ (cl_as hse)) cw_X6_held lk_X7_56 im_X6_held se_X6_held (hs_recv hC hW hT.vault rfl) hl.1 (by decide) (Nat.le_of_ble_eq_true rfl) dX7_greatestPart_25 (hs_kp1 (fun H locs hW hL => ?_))
  rw [cl_s1 hse]
  refine hs_callS hC hs_Tok hW hL (ct_minl E _ _ _) cw_J9_min_f86c9 lk_X7_307 st_J9_min_f86c9 hl.1 (by decide) (Nat.le_of_ble_eq_true rfl) dX7_greatestPart_28 (hs_kp1 (fun H locs hW hL => ?_))
  refine lv_lstore_n (lv' := [(2, .long _), (0, .ref _), (1, .ref _)]) hx hb dX7_greatestPart_31 rfl hl (by decide) rfl (fun ls hl => ?_)
  refine lv_aload_n hx hb dX7_greatestPart_32 rfl (lv_at hl 1 rfl) ?_
  refine hs_get hC hW hi_X7 rfl 1 (by decide) lk_X7_19 rfl hT.house rfl dX7_greatestPart_33 ?_
  refine lv_aload_n hx hb dX7_greatestPart_36 rfl (lv_at hl 2 rfl) ?_
  refine hs_getN hC hW hi_X5 rfl 2 (by decide) lk_X7_172 rfl hX rfl dX7_greatestPart_37 ?_
  refine hs_getN hC hW hi_X4 rfl 1 (by decide) lk_X7_179 rfl hTe rfl dX7_greatestPart_40 ?_
  refine lv_iconst (v := (-1)) hx hb dX7_greatestPart_43 (by decide) ?_
  refine hs_callVN hC hs_Tok hW hL (ct_X6_held E t cap X d G hT re hre _ cl_as1) cw_X6_held lk_X7_56 im_X6_held se_X6_held (hs_recv hC hW hT.vault rfl) hl.1 (by decide) (Nat.le_of_ble_eq_true rfl) dX7_greatestPart_44 (hs_kp1 (fun H locs hW hL => ?_))
  rw [cl_s0]
  refine lv_lstore (lv' := [(4, .long _), (2, .long _), (0, .ref _), (1, .ref _)]) hx hb dX7_greatestPart_47 hl (by decide) rfl (fun ls hl => ?_)
  refine lv_aload_n hx hb dX7_greatestPart_49 rfl (lv_at hl 3 rfl) ?_
  refine hs_getN hC hW hi_X5 rfl 8 (by decide) lk_X7_169 rfl hX rfl dX7_greatestPart_50 ?_
  refine lv_if_le (tgt := 90) hx hb dX7_greatestPart_53 (by decide) (fun c53 => ?_) (fun c53 => ?_)
  · refine lv_lload_n hx hb dX7_greatestPart_90 rfl (lv_at hl 1 rfl) ?_
    refine lv_l2i hx hb dX7_greatestPart_91 rfl ?_
    exact hs_iret hC hW hL hr hlocks (by decide) (by decide) dX7_greatestPart_92 ⟨_, ⟨rfl, rfl, rfl, rfl⟩, gp_A ⟨hb9.1, hb9.2.1⟩ hb9.2.2.1 hv1.1 (by (rw [Int32.le_iff_toInt_le, Int32.toInt_zero] at c53; omega))⟩
  refine lv_aload_n hx hb dX7_greatestPart_56 rfl (lv_at hl 3 rfl) ?_
  refine hs_getN hC hW hi_X5 rfl 8 (by decide) lk_X7_169 rfl hX rfl dX7_greatestPart_57 ?_
  refine lv_i2l hx hb dX7_greatestPart_60 rfl ?_
  refine lv_lload hx hb dX7_greatestPart_61 (lv_at hl 0 rfl) ?_
  refine W.lcmp hx hb dX7_greatestPart_63 ?_
  refine lv_if_le (tgt := 90) hx hb dX7_greatestPart_64 (by decide) (fun c64 => ?_) (fun c64 => ?_)
  · refine lv_lload_n hx hb dX7_greatestPart_90 rfl (lv_at hl 1 rfl) ?_
    refine lv_l2i hx hb dX7_greatestPart_91 rfl ?_
    exact hs_iret hC hW hL hr hlocks (by decide) (by decide) dX7_greatestPart_92 ⟨_, ⟨rfl, rfl, rfl, rfl⟩, by first | exact hgc | exact gp_A ⟨hb9.1, hb9.2.1⟩ hb9.2.2.1 hv1.1 (by (rw [lg_cmp_le, Int64.le_iff_toInt_le, hs_64] at c64; exact c64))⟩
  have hgc := gp_C ⟨hb9.1, hb9.2.1⟩ ⟨by (rw [Int32.le_iff_toInt_le, Int32.toInt_zero] at c53; omega), hb9.2.2.2⟩ hv1.1 ⟨hv2.1, by (rw [lg_cmp_le, Int64.le_iff_toInt_le, hs_64] at c64; omega)⟩
  refine lv_lload_n hx hb dX7_greatestPart_67 rfl (lv_at hl 1 rfl) ?_
  refine lv_lload hx hb dX7_greatestPart_68 (lv_at hl 0 rfl) ?_
  refine lv_lconst (v := 1) hx hb dX7_greatestPart_70 (by decide) ?_
  refine lv_ladd hx hb dX7_greatestPart_71 ?_
  refine lv_aload_n hx hb dX7_greatestPart_72 rfl (lv_at hl 3 rfl) ?_
  refine hs_getN hC hW hi_X5 rfl 7 (by decide) lk_X7_166 rfl hX rfl dX7_greatestPart_73 ?_
  refine lv_i2l hx hb dX7_greatestPart_76 rfl ?_
  refine lv_lmul hx hb dX7_greatestPart_77 ?_
  refine lv_lconst (v := 1) hx hb dX7_greatestPart_78 (by decide) ?_
  refine lv_lsub hx hb dX7_greatestPart_79 ?_
  refine lv_aload_n hx hb dX7_greatestPart_80 rfl (lv_at hl 3 rfl) ?_
  refine hs_getN hC hW hi_X5 rfl 8 (by decide) lk_X7_169 rfl hX rfl dX7_greatestPart_81 ?_
  refine lv_i2l hx hb dX7_greatestPart_84 rfl ?_
  refine lv_ldiv hx hb dX7_greatestPart_85 (mo_pos64 c53) ?_
  refine hs_callS hC hs_Tok hW hL (ct_minl E _ _ _) cw_J9_min_f86c9 lk_X7_307 st_J9_min_f86c9 hl.1 (by decide) (Nat.le_of_ble_eq_true rfl) dX7_greatestPart_86 (hs_kp1 (fun H locs hW hL => ?_))
  refine lv_lstore_n (lv' := [(2, .long _), (4, .long _), (0, .ref _), (1, .ref _)]) hx hb dX7_greatestPart_89 rfl hl (by decide) rfl (fun ls hl => ?_)
  refine lv_lload_n hx hb dX7_greatestPart_90 rfl (lv_at hl 0 rfl) ?_
  refine lv_l2i hx hb dX7_greatestPart_91 rfl ?_
  exact hs_iret hC hW hL hr hlocks (by decide) (by decide) dX7_greatestPart_92 ⟨_, ⟨rfl, rfl, rfl, rfl⟩, by first | exact hgc | exact gp_A ⟨hb9.1, hb9.2.1⟩ hb9.2.2.1 hv1.1 (by (rw [lg_cmp_le, Int64.le_iff_toInt_le, hs_64] at c64; exact c64))⟩
set_option maxHeartbeats 4000000 in
set_option maxRecDepth 100000 in
/-- settlePartOf -/
theorem ct_X7_settlePartOf (E : hs_E) (t : cl_t) (cap X : Nat → Nat) (d : Nat) (G : hs_G) (hT : cl_T E t cap X d G) (a : Nat) (ha : t a = some (50, 0)) (hJ : vJ X) (hB : X 97 ≤ 1152921504606846976) : hM E yX7_settlePartOf ({ frames := 2, cells := 0, slots := 0, locals := 70 }) [.ref (X 0), .ref a] G (hs_V (cl_0Y E t cap X d G)) := by
  refine hs_ofW (cc := cX7_settlePartOf) (maxL := 3) (ret := none) (by decide) co_X7_settlePartOf ?_
  intro p e s m args below meth c hC hlocks hr hin0 hnoh hW
  obtain ⟨hx, hb, hml, hown, hts, -⟩ := id hC
  have hE := hW
  have hL : ∀ q ∈ ([] : List Loc), (eH E).size ≤ q.base := fun q hq => nomatch hq
  have hl := lv_entry ([.ref (X 0), .ref a] : List Value) (n := 3) (Nat.le_of_ble_eq_true rfl)
  rw [lg_entry_eq]
  generalize (lg_sl [.ref (X 0), .ref a] ++ List.replicate (3 - (lg_sl [.ref (X 0), .ref a]).length) Slot.unset).toArray = ls at hl ⊢
  have hl : lv_has ls 3 [(0, .ref (X 0)), (1, .ref a)] := hl
  obtain ⟨nu9, te9, t9, s8, s9, st9, du9, ql9, am9, fa9, pr9, ip9, g9, hX, ht1, ht2, ht3, hg9⟩ := hT.tr ha
  obtain ⟨de9, re9, se9, qq9, aa9, dy9, lg9, hTe, hde, hre, hse, hdy, hlg, hne, -⟩ := hT.te ht1
  have hb9 := hT.b ha _ _ _ _ _ _ _ _ _ _ _ _ _ hX
  refine lv_aload_n hx hb dX7_settlePartOf_0 rfl (lv_at hl 1 rfl) ?_
  refine hs_getN hC hW hi_X5 rfl 11 (by decide) lk_X7_131 rfl hX rfl dX7_settlePartOf_1 ?_
  refine lv_if_eq (tgt := 15) hx hb dX7_settlePartOf_4 (by decide) (fun c4 => ?_) (fun c4 => ?_)
  · refine lv_iconst (v := 0) hx hb dX7_settlePartOf_15 (by decide) ?_
    refine lv_istore_n (lv' := [(2, .int _), (0, .ref _), (1, .ref _)]) hx hb dX7_settlePartOf_16 rfl hl (by decide) rfl (fun ls hl => ?_)
    refine lv_iload_n hx hb dX7_settlePartOf_17 rfl (lv_at hl 0 rfl) ?_
    refine lv_if_le (tgt := 32) hx hb dX7_settlePartOf_18 (by decide) (fun c18 => ?_) (fun c18 => ?_)
    · exact hs_vret hC hW hL hr hlocks (by decide) (by decide) dX7_settlePartOf_32 ⟨rfl, rfl, rfl, by first | exact ⟨⟨_, hT1, fun n hn => vSt_lo hn, hJ2⟩, hF1⟩ | exact ⟨⟨X, hT, fun _ _ => rfl, hJ⟩, cl_F.rf⟩⟩
    exact absurd c18 (by first | decide | simp [mo_up])
  refine lv_aload_n hx hb dX7_settlePartOf_7 rfl (lv_at hl 0 rfl) ?_
  refine lv_aload_n hx hb dX7_settlePartOf_8 rfl (lv_at hl 1 rfl) ?_
  refine hs_callV hC hs_Tok hW hL (ct_X7_greatestPart E t cap X d G hT a ha nu9 te9 t9 s8 s9 st9 du9 ql9 am9 fa9 pr9 ip9 g9 hX hb9 de9 re9 se9 qq9 aa9 dy9 lg9 hTe hde hre hse hJ) cw_X7_greatestPart lk_X7_300 im_X7_greatestPart se_X7_greatestPart (hs_recv hC hW hT.house rfl) hl.1 (by decide) (Nat.le_of_ble_eq_true rfl) dX7_settlePartOf_9 (hs_ke (fun x H locs hJx hW hL => ?_))
  refine lv_goto (tgt := 16) hx hb dX7_settlePartOf_12 (by decide) ?_
  refine lv_istore_n (lv' := [(2, .int _), (0, .ref _), (1, .ref _)]) hx hb dX7_settlePartOf_16 rfl hl (by decide) rfl (fun ls hl => ?_)
  refine lv_iload_n hx hb dX7_settlePartOf_17 rfl (lv_at hl 0 rfl) ?_
  refine lv_if_le (tgt := 32) hx hb dX7_settlePartOf_18 (by decide) (fun c18 => ?_) (fun c18 => ?_)
  · exact hs_vret hC hW hL hr hlocks (by decide) (by decide) dX7_settlePartOf_32 ⟨rfl, rfl, rfl, by first | exact ⟨⟨_, hT1, fun n hn => vSt_lo hn, hJ2⟩, hF1⟩ | exact ⟨⟨X, hT, fun _ _ => rfl, hJ⟩, cl_F.rf⟩⟩
  have hx9 : 0 < x.toInt := by (rw [Int32.le_iff_toInt_le, Int32.toInt_zero] at c18; omega)
  obtain ⟨g1, g2, g3⟩ := hJx hx9
  refine lv_aload_n hx hb dX7_settlePartOf_21 rfl (lv_at hl 1 rfl) ?_
  refine lv_aload_n hx hb dX7_settlePartOf_22 rfl (lv_at hl 2 rfl) ?_
  refine lv_iload_n hx hb dX7_settlePartOf_23 rfl (lv_at hl 0 rfl) ?_
  refine lv_aload_n hx hb dX7_settlePartOf_24 rfl (lv_at hl 2 rfl) ?_
  refine lv_iload_n hx hb dX7_settlePartOf_25 rfl (lv_at hl 0 rfl) ?_
  refine hs_callVN hC hs_Tok hW hL (ct_X5_shareB E t cap X d G hT a ha nu9 te9 t9 s8 s9 st9 du9 ql9 am9 fa9 pr9 ip9 g9 hX hb9 x ⟨hx9, by omega⟩) cw_X5_shareOfAmount lk_X7_304 im_X5_shareOfAmount se_X5_shareOfAmount (hs_recv hC hW hX rfl) hl.1 (by decide) (Nat.le_of_ble_eq_true rfl) dX7_settlePartOf_26 (hs_ke (fun y H locs hJy hW hL => ?_))
  obtain ⟨y1, y2, y3⟩ := hJy
  have hst := ct_X7_settle E t cap X d G hT a ha nu9 te9 t9 s8 s9 st9 du9 ql9 am9 fa9 pr9 ip9 g9 hX de9 re9 se9 qq9 aa9 dy9 lg9 hTe hde hre hse ht1 ht2 ht3 hg9 hb9 x y ⟨by omega, by omega⟩ ⟨by omega, by omega⟩
  have hJ2 : vJ (vSt X de9 re9 se9 x.toInt64 y.toInt64) := vSt_J hJ hB hde hre hne (by rw [hs_64]; omega) (by rw [hs_64]; omega) (by rw [hs_64]; exact g2) (by rw [hs_64, y1]; exact g3)
  refine hs_callV hC hs_Tok hW hL hst cw_X7_settle lk_X7_286 im_X7_settle se_X7_settle (hs_recv hC hW hT.house rfl) hl.1 (by decide) (Nat.le_of_ble_eq_true rfl) dX7_settlePartOf_29 (hs_kV (fun G1 k n H locs hI hk hn hW hL => ?_))
  obtain ⟨rfl, rfl, hT1, hF1, -⟩ := hI
  exact hs_vret hC hW hL hr hlocks (by decide) (by decide) dX7_settlePartOf_32 ⟨rfl, rfl, rfl, by first | exact ⟨⟨_, hT1, fun n hn => vSt_lo hn, hJ2⟩, hF1⟩ | exact ⟨⟨X, hT, fun _ _ => rfl, hJ⟩, cl_F.rf⟩⟩
set_option maxHeartbeats 4000000 in
set_option maxRecDepth 100000 in
/-- Group.size -/
theorem ct_X1_sizeF (E : hs_E) (t : cl_t) (cap X : Nat → Nat) (d : Nat) (G : hs_G) (hT : cl_T E t cap X d G) (g L A sz : Nat) (mc : Int32) (hGr : G g = some (.inr (2, [.ref L]))) (hLo : G L = some (al_o mc A (nI sz))) : hM E yX1_size ({ frames := 1, cells := 0, slots := 0, locals := 30 }) [.ref g] G (hs_pu (some (.int (nI sz))) G) := by
  refine hs_ofW (cc := cX1_size) (maxL := 1) (ret := (some .int)) (by decide) co_X1_size ?_
  intro p e s m args below meth c hC hlocks hr hin0 hnoh hW
  obtain ⟨hx, hb, hml, hown, hts, -⟩ := id hC
  have hE := hW
  have hL : ∀ q ∈ ([] : List Loc), (eH E).size ≤ q.base := fun q hq => nomatch hq
  have hl := lv_entry ([.ref g] : List Value) (n := 1) (Nat.le_of_ble_eq_true rfl)
  rw [lg_entry_eq]
  generalize (lg_sl [.ref g] ++ List.replicate (1 - (lg_sl [.ref g]).length) Slot.unset).toArray = ls at hl ⊢
  have hl : lv_has ls 1 [(0, .ref g)] := hl
  refine lv_aload_n hx hb dX1_size_0 rfl (lv_at hl 0 rfl) ?_
  refine hs_get hC hW hi_X1 rfl 0 (by decide) lk_X1_10 rfl hGr rfl dX1_size_1 ?_
  refine hs_callV hC hs_Tok hW hL (ct_size E G L A sz mc hLo) cw_Jx4a65c_size_8abf5 lk_X1_16 im_Jx4a65c_size_8abf5 se_Jx4a65c_size_8abf5 (hs_recv hC hW hLo rfl) hl.1 (by decide) (Nat.le_of_ble_eq_true rfl) dX1_size_4 (hs_kp1 (fun H locs hW hL => ?_))
  exact hs_iret hC hW hL hr hlocks (by decide) (by decide) dX1_size_7 ⟨by rfl, rfl, rfl, rfl⟩
set_option maxHeartbeats 4000000 in
set_option maxRecDepth 100000 in
/-- settleWholly -/
theorem ct_X7_settleWholly (E : hs_E) (t : cl_t) (cap X : Nat → Nat) (d : Nat) (G : hs_G) (hT : cl_T E t cap X d G) (g L A sz : Nat) (mc : Int32) (f : Nat → Option Nat) (hLt : t L = some (54, g)) (hGr : G g = some (.inr (2, [.ref L]))) (hLo : G L = some (al_o mc A (nI sz))) (hLa : G A = some (al_a E (cap L) f)) (hsc : sz ≤ cap L) (hmx : sz ≤ 6) (hcp : cap L ≤ 223) (hel : ∀ j, j < sz → ∃ x : Nat, f j = some x ∧ t x = some (50, 0)) (hAA : (A = eE E ∧ cap L = 0) ∨ (t A = some (60, L) ∧ 0 < cap L)) (hgt : t g = some (53, 0)) (h99 : X 99 = 0) (hJ : vJ X) (hB : X 97 ≤ 1152921504606846976) (hcv : ∀ u, u < sz → cvm X G f sz u) : hM E yX7_settleWholly ({ frames := 5, cells := 0, slots := 0, locals := 160 }) [.ref (X 0), .ref g] G (hs_I (fun _ G1 k n => cl_0Y E t cap X d G G1 k n)) := by
  refine hs_ofW (cc := cX7_settleWholly) (maxL := 5) (ret := (some .int)) (by decide) co_X7_settleWholly ?_
  intro p e s m args below meth c hC hlocks hr hin0 hnoh hW
  obtain ⟨hx, hb, hml, hown, hts, -⟩ := id hC
  have hE := hW
  have hL : ∀ q ∈ ([] : List Loc), (eH E).size ≤ q.base := fun q hq => nomatch hq
  have hl := lv_entry ([.ref (X 0), .ref g] : List Value) (n := 5) (Nat.le_of_ble_eq_true rfl)
  rw [lg_entry_eq]
  generalize (lg_sl [.ref (X 0), .ref g] ++ List.replicate (5 - (lg_sl [.ref (X 0), .ref g]).length) Slot.unset).toArray = ls at hl ⊢
  have hl : lv_has ls 5 [(0, .ref (X 0)), (1, .ref g)] := hl
  refine lv_aload_n hx hb dX7_settleWholly_0 rfl (lv_at hl 1 rfl) ?_
  refine hs_callVN hC hs_Tok hW hL (ct_X1_sizeF E t cap X d G hT g L A sz mc hGr hLo) cw_X1_size lk_X7_141 im_X1_size se_X1_size (hs_recv hC hW hGr rfl) hl.1 (by decide) (Nat.le_of_ble_eq_true rfl) dX7_settleWholly_1 (hs_kp1 (fun H locs hW hL => ?_))
  refine lv_istore_n (lv' := [(2, .int _), (0, .ref _), (1, .ref _)]) hx hb dX7_settleWholly_4 rfl hl (by decide) rfl (fun ls hl => ?_)
  refine lv_iload_n hx hb dX7_settleWholly_5 rfl (lv_at hl 0 rfl) ?_
  refine lv_istore_n (lv' := [(3, .int _), (2, .int _), (0, .ref _), (1, .ref _)]) hx hb dX7_settleWholly_6 rfl hl (by decide) rfl (fun ls hl => ?_)
  refine hs_loop (σ := Nat × Int32 × (Nat → Option Nat) × hs_G × (Nat → Nat)) (fun x => match x with | (j, mc1, f1, G1, Y) => j) (fun x H locs ls => match x with | (j, mc1, f1, G1, Y) => (j ≤ sz ∧ cl_T E t cap Y d G1 ∧ cl_F t G t G1 ∧ G1 L = some (al_o mc1 A (nI j)) ∧ G1 A = some (al_a E (cap L) f1) ∧ G1 g = some (.inr (2, [.ref L])) ∧ vK X Y G f sz G1 f1 j) ∧ hs_W (eD E) vwCl (eH E) (G1) H ∧ (∀ q ∈ locs, (eH E).size ≤ q.base) ∧ lv_has ls 5 [(0, .ref (X 0)), (1, .ref g), (2, .int (nI sz)), (3, .int (nI j))]) ?_ (sz, mc, f, G, X) _ _ _ ⟨⟨Nat.le_refl _, hT, cl_F.rf, hLo, hLa, hGr, vK.rf⟩, hW, hL, (lv_sub hl [2, 3, 1, 0] rfl)⟩
  rintro ⟨j, mc1, f1, G1, Y⟩ H locs ls ⟨hinv, hW, hL, hl⟩ ih
  replace hW : hs_W (eD E) vwCl (eH E) (G1) H := hW
  replace hl : lv_has ls 5 [(0, .ref (X 0)), (1, .ref g), (2, .int (nI sz)), (3, .int (nI j))] := hl
  obtain ⟨i1, i2, i3, i4, i5, i6, i7⟩ := hinv
  refine lv_iload_n hx hb dX7_settleWholly_7 rfl (lv_at hl 3 rfl) ?_
  refine lv_if_le (tgt := 62) hx hb dX7_settleWholly_8 (by decide) (fun c8 => ?_) (fun c8 => ?_)
  · have hj0 : j = 0 := by (rw [show (0 : Int32) = nI 0 by decide +kernel] at c8; have y := (nI_leI (by omega) (by omega)).mp c8; omega)
    subst hj0
    refine lv_iload_n hx hb dX7_settleWholly_62 rfl (lv_at hl 2 rfl) ?_
    exact hs_iret hC hW hL hr hlocks (by decide) (by decide) dX7_settleWholly_63 ⟨_, rfl, rfl, rfl, ⟨Y, i2, i7.1, i7.fin hJ (fun p i hp hi => cv_all hJ (tgd_of hT hel) hcv hp hi)⟩, i3⟩
  obtain ⟨j, rfl⟩ := mo_pos c8
  have hY := i7.1
  have h9Y : Y 99 = 0 := (hY 99 (by decide)).trans h99
  obtain ⟨f9, hLa9, hsc9, hmx9, hcp9, hel9, hAA9⟩ := (i2.l54 hLt).at i4 (by omega)
  have e9 : f9 = f1 := by (rw [i5] at hLa9; cases hLa9; rfl)
  rw [e9] at hel9
  have hAt : t A = some (60, L) := (hAA9.resolve_left (fun w => by omega)).1
  obtain ⟨hinj, hmem⟩ := (i2.D h9Y hLt).at i4 (by omega) i5
  obtain ⟨x9, hfx, htx, hgx⟩ := hmem 0 (by omega)
  obtain ⟨nu9, te9, t9, s8, s9, st9, du9, ql9, am9, fa9, pr9, ip9, g9, hX, ht1, ht2, ht3, hg9⟩ := i2.tr htx
  have eg : g9 = .ref g := cl_grI (by rw [hX] at hgx; exact hgx)
  subst eg
  obtain ⟨de9, re9, se9, qq9, aa9, dy9, lg9, hTe, hde, hre, hse, hdy, hlg, hne, -⟩ := i2.te ht1
  have hb9 := i2.b htx _ _ _ _ _ _ _ _ _ _ _ _ _ hX
  have hcc := ct_X7_settle E t cap Y d G1 i2 x9 htx nu9 te9 t9 s8 s9 st9 du9 ql9 am9 fa9 pr9 ip9 (.ref g) hX de9 re9 se9 qq9 aa9 dy9 lg9 hTe hde hre hse ht1 ht2 ht3 hg9 hb9 ql9 am9 ⟨hb9.1, Int.le_refl _⟩ ⟨hb9.2.2.1, Int.le_refl _⟩
  rw [hY 0 (by decide)] at hcc
  have hH1 := i2.houseY hY
  refine lv_aload_n hx hb dX7_settleWholly_11 rfl (lv_at hl 1 rfl) ?_
  refine hs_getN hC hW hi_X1 rfl 0 (by decide) lk_X7_277 rfl i6 rfl dX7_settleWholly_12 ?_
  refine hs_callV hC hs_Tok hW hL (ct_isEmpty E G1 L A (j + 1) mc1 i4) cw_Jx4a65c_isEmpty_aae02 lk_X7_283 im_Jx4a65c_isEmpty_aae02 se_Jx4a65c_isEmpty_aae02 (hs_recv hC hW i4 rfl) hl.1 (by decide) (Nat.le_of_ble_eq_true rfl) dX7_settleWholly_15 (hs_kp1 (fun H locs hW hL => ?_))
  refine lv_if_ne (tgt := 62) hx hb dX7_settleWholly_18 (by decide) (fun c18 => ?_) (fun c18 => ?_)
  · exact absurd c18 (fun z => z (if_neg (fun w => by (rw [show (0 : Int32) = nI 0 by decide +kernel, dt_nI (by omega) (by omega)] at w; omega))))
  refine lv_aload_n hx hb dX7_settleWholly_21 rfl (lv_at hl 1 rfl) ?_
  refine hs_getN hC hW hi_X1 rfl 0 (by decide) lk_X7_277 rfl i6 rfl dX7_settleWholly_22 ?_
  refine lv_iconst (v := 0) hx hb dX7_settleWholly_25 (by decide) ?_
  rw [show (0 : Int32) = nI 0 by decide +kernel]
  refine hs_callV hC hs_Tok hW hL (ct_get E G1 L A (j + 1) mc1 i4 (cap L) f1 i5 (by omega) 0 x9 (by omega) hsc9 hfx) cw_Jx4a65c_get_915e3 lk_X7_202 im_Jx4a65c_get_915e3 se_Jx4a65c_get_915e3 (hs_recv hC hW i4 rfl) hl.1 (by decide) (Nat.le_of_ble_eq_true rfl) dX7_settleWholly_26 (hs_kp1 (fun H locs hW hL => ?_))
  refine hs_cast hC hW lk_X7_99 ca_X5_X5 hX rfl dX7_settleWholly_29 ?_
  refine lv_astore (lv' := [(4, .ref _), (0, .ref _), (1, .ref _), (2, .int _), (3, .int _)]) hx hb dX7_settleWholly_32 hl (by decide) rfl (fun ls hl => ?_)
  refine lv_aload_n hx hb dX7_settleWholly_34 rfl (lv_at hl 1 rfl) ?_
  refine lv_aload hx hb dX7_settleWholly_35 (lv_at hl 0 rfl) ?_
  refine lv_aload hx hb dX7_settleWholly_37 (lv_at hl 0 rfl) ?_
  refine hs_getN hC hW hi_X5 rfl 7 (by decide) lk_X7_166 rfl hX rfl dX7_settleWholly_39 ?_
  refine lv_aload hx hb dX7_settleWholly_42 (lv_at hl 0 rfl) ?_
  refine hs_getN hC hW hi_X5 rfl 8 (by decide) lk_X7_169 rfl hX rfl dX7_settleWholly_44 ?_
  refine hs_callV hC hs_Tok hW hL hcc cw_X7_settle lk_X7_286 im_X7_settle se_X7_settle (hs_recv hC hW hH1 rfl) hl.1 (by decide) (Nat.le_of_ble_eq_true rfl) dX7_settleWholly_47 (hs_kV (fun G2 k n H locs hI hk hn hW hL => ?_))
  obtain ⟨rfl, rfl, hT2, hF2, hX2, hfr2⟩ := hI
  have nk : ∀ {x y : Nat} {k : Nat × Nat} {k' : Nat × Nat}, t x = some k → t y = some k' → k ≠ k' → x ≠ y := fun hx hy hk z => hk (by rw [z, hy] at hx; cases hx; rfl)
  have h99b : vSt Y de9 re9 se9 ql9.toInt64 am9.toInt64 99 = 0 := (vSt_lo (by decide)).trans h9Y
  have hG2 := (hfr2 g _ hgt (by simp) (nk hgt htx (by simp))).trans i6
  have hL2 := (hfr2 L _ hLt (by simp) (nk hLt htx (by simp))).trans i4
  have hA2 := (hfr2 A _ hAt (by simp) (nk hAt htx (by simp))).trans i5
  have hb2 : 0 ≤ (ql9 - ql9).toInt ∧ (ql9 - ql9).toInt ≤ 1000000 ∧ 0 ≤ (am9 - am9).toInt ∧ (am9 - am9).toInt ≤ 1000000000 := by (rw [i32_sub ⟨hb9.1, Int.le_refl _⟩, i32_sub ⟨hb9.2.2.1, Int.le_refl _⟩]; omega)
  refine lv_aload hx hb dX7_settleWholly_50 (lv_at hl 0 rfl) ?_
  refine lv_iconst (v := 2) hx hb dX7_settleWholly_52 (by decide) ?_
  refine hs_callVN hC hs_Tok hW hL (ct_X5_endG E t cap _ d G2 hT2 x9 htx nu9 te9 t9 s8 s9 st9 du9 _ _ fa9 pr9 ip9 g L A (j + 1) mc1 f1 hLt hG2 hL2 hA2 hsc9 (by omega) hcp9 hel9 hAA9 hgt h99b hX2 ht1 ht2 ht3 hb2 2 (by decide)) cw_X5_end lk_X7_157 im_X5_end se_X5_end (hs_recv hC hW hX2 rfl) hl.1 (by decide) (Nat.le_of_ble_eq_true rfl) dX7_settleWholly_53 (hs_kV (fun G3 k n H locs hI hk hn hW hL => ?_))
  obtain ⟨rfl, rfl, hT3, hF3, G4, e3, hdr⟩ := hI
  obtain ⟨mc2, f2, v1, v2, v3, v4⟩ := sw_step (by omega) hmx i2 i6 i7 hT hel hel9 hJ hB hinj hfx htx hX hTe hde hre hse hne hb9 hgt hLt hAt hfr2 e3 hdr
  refine lv_iinc (lv' := [(3, .int _), (4, .ref _), (0, .ref _), (1, .ref _), (2, .int _)]) hx hb dX7_settleWholly_56 hl (k := 4) rfl rfl (by decide) rfl (fun ls hl => ?_)
  refine lv_goto (tgt := 7) hx hb dX7_settleWholly_59 (by decide) ?_
  rw [hs_dec] at hl
  exact ih (j, mc2, f2, G3, _) _ _ _ (by show j < j + 1; omega) ⟨⟨by omega, hT3, (i3.tr hF2).tr hF3, v1, v2, v3, v4⟩, hW, hL, (lv_sub hl [2, 3, 4, 0] rfl)⟩
