/-! the class: Trade and Group, what reads them; drop, end -/
theorem cl_elT {E : hs_E} {t : cl_t} {cap X : Nat → Nat} {d sz : Nat} {G : hs_G} {f : Nat → Option Nat} (hT : cl_T E t cap X d G) (h : ∀ j, j < sz → ∃ x : Nat, f j = some x ∧ t x = some (50, 0)) : al_E G 6 sz f := by
  intro j y hj hy
  obtain ⟨x, h1, h2⟩ := h j hj
  rw [hy] at h1
  cases h1
  obtain ⟨nu, te, t1, s1, s2, st, du, ql, am, fa, pr, ip, g, hX, -⟩ := hT.tr h2
  exact ⟨_, hX⟩
theorem cl_elG {E : hs_E} {t : cl_t} {cap X : Nat → Nat} {d sz : Nat} {G : hs_G} {f : Nat → Option Nat} (hT : cl_T E t cap X d G) (h : ∀ j, j < sz → ∃ x : Nat, f j = some x ∧ t x = some (53, 0)) : al_E G 2 sz f := by
  intro j y hj hy
  obtain ⟨x, h1, h2⟩ := h j hj
  rw [hy] at h1
  cases h1
  obtain ⟨L, hX, -⟩ := hT.gr h2
  exact ⟨_, hX⟩
theorem cl_el6 : al_el 6 := ⟨_, rfl, ca_X5_O_Object, by decide⟩
theorem cl_el2 : al_el 2 := ⟨_, rfl, ca_X1_O_Object, by decide⟩
theorem va_up_id {α : Type} {f : Nat → α} {k : Nat} {v : α} (h : f k = v) : va_up f k v = f := by
  funext j
  by_cases e : j = k
  · subst e
    rw [va_up_self, h]
  · rw [va_up_ne _ _ e]
/-- a list changes, its array the same -/
theorem cl_T.list0 {E : hs_E} {t : cl_t} {cap X : Nat → Nat} {d L k o mx el A sz : Nat} {G : hs_G} {mc : Int32} {f : Nat → Option Nat} (h : cl_T E t cap X d G) (hL : t L = some (k, o)) (hk : (k = 8 ∧ mx = 150 ∧ el = 50) ∨ (k = 9 ∧ mx = 150 ∧ el = 53) ∨ (k = 54 ∧ mx = 6 ∧ el = 50)) (hA : t A = some (60, L)) (h1 : sz ≤ cap L) (h2 : sz ≤ mx) (h3 : cap L ≤ 223) (h0 : 0 < cap L) (hf : ∀ j, j < sz → ∃ x : Nat, f j = some x ∧ t x = some (el, 0)) (hD : X 99 = 0 → k = 54 → (∀ i j, i < sz → j < sz → f i = f j → i = j) ∧ ∀ j, j < sz → ∃ x : Nat, f j = some x ∧ t x = some (50, 0) ∧ cl_gr (G x) o) :
    cl_T E t cap X d (hs_up (hs_up G A (al_a E (cap L) f)) L (al_o mc A (nI sz))) ∧ cl_F t G t (hs_up (hs_up G A (al_a E (cap L) f)) L (al_o mc A (nI sz))) := by
  have q := h.list (mc := mc) hL hk (Or.inl hA) h1 h2 h3 h0 hf hD
  rw [va_up_id hA, va_up_id (f := cap) rfl] at q
  exact q
set_option maxHeartbeats 4000000 in
set_option maxRecDepth 100000 in
/-- Trade.isOpen -/
theorem ct_X5_isOpen (E : hs_E) (t : cl_t) (cap X : Nat → Nat) (d : Nat) (G : hs_G) (hT : cl_T E t cap X d G) (a : Nat) (ha : t a = some (50, 0)) : hM E yX5_isOpen ({ frames := 0, cells := 0, slots := 0, locals := 0 }) [.ref a] G (fun r G1 k n => ∃ x : Int32, hs_pu (some (.int x)) G r G1 k n ∧ (x = 0 ∨ x = 1)) := by
  refine hs_ofW (cc := cX5_isOpen) (maxL := 1) (ret := (some .boolean)) (by decide) co_X5_isOpen ?_
  intro p e s m args below meth c hC hlocks hr hin0 hnoh hW
  obtain ⟨hx, hb, hml, hown, hts, -⟩ := id hC
  have hE := hW
  have hL : ∀ q ∈ ([] : List Loc), (eH E).size ≤ q.base := fun q hq => nomatch hq
  have hl := lv_entry ([.ref a] : List Value) (n := 1) (Nat.le_of_ble_eq_true rfl)
  rw [lg_entry_eq]
  generalize (lg_sl [.ref a] ++ List.replicate (1 - (lg_sl [.ref a]).length) Slot.unset).toArray = ls at hl ⊢
  have hl : lv_has ls 1 [(0, .ref a)] := hl
  obtain ⟨nu9, te9, t9, s8, s9, st9, du9, ql9, am9, fa9, pr9, ip9, g9, hX, ht1, ht2, ht3, hg9⟩ := hT.tr ha
  refine lv_aload_n hx hb dX5_isOpen_0 rfl (lv_at hl 0 rfl) ?_
  refine hs_get hC hW hi_X5 rfl 5 (by decide) lk_X5_21 rfl hX rfl dX5_isOpen_1 ?_
  refine lv_if_eq (tgt := 15) hx hb dX5_isOpen_4 (by decide) (fun c4 => ?_) (fun c4 => ?_)
  · refine lv_iconst (v := 1) hx hb dX5_isOpen_15 (by decide) ?_
    refine lv_goto (tgt := 20) hx hb dX5_isOpen_16 (by decide) ?_
    exact hs_zret hC hW hL hr hlocks (by decide) (by decide) dX5_isOpen_20 (by rfl) ⟨_, ⟨rfl, rfl, rfl, rfl⟩, by first | exact Or.inl rfl | exact Or.inr rfl⟩
  refine lv_aload_n hx hb dX5_isOpen_7 rfl (lv_at hl 0 rfl) ?_
  refine hs_get hC hW hi_X5 rfl 5 (by decide) lk_X5_21 rfl hX rfl dX5_isOpen_8 ?_
  refine lv_iconst (v := 1) hx hb dX5_isOpen_11 (by decide) ?_
  refine lv_icmp_ne (tgt := 19) hx hb dX5_isOpen_12 (by decide) (fun c12 => ?_) (fun c12 => ?_)
  · refine lv_iconst (v := 0) hx hb dX5_isOpen_19 (by decide) ?_
    exact hs_zret hC hW hL hr hlocks (by decide) (by decide) dX5_isOpen_20 (by rfl) ⟨_, ⟨rfl, rfl, rfl, rfl⟩, by first | exact Or.inl rfl | exact Or.inr rfl⟩
  refine lv_iconst (v := 1) hx hb dX5_isOpen_15 (by decide) ?_
  refine lv_goto (tgt := 20) hx hb dX5_isOpen_16 (by decide) ?_
  exact hs_zret hC hW hL hr hlocks (by decide) (by decide) dX5_isOpen_20 (by rfl) ⟨_, ⟨rfl, rfl, rfl, rfl⟩, by first | exact Or.inl rfl | exact Or.inr rfl⟩
set_option maxHeartbeats 4000000 in
set_option maxRecDepth 100000 in
/-- Trade.isFreeToSettle -/
theorem ct_X5_isFreeToSettle (E : hs_E) (t : cl_t) (cap X : Nat → Nat) (d : Nat) (G : hs_G) (hT : cl_T E t cap X d G) (a : Nat) (ha : t a = some (50, 0)) (td : Int32) : hM E yX5_isFreeToSettle ({ frames := 0, cells := 0, slots := 0, locals := 0 }) [.ref a, .int td] G (fun r G1 k n => ∃ x : Int32, hs_pu (some (.int x)) G r G1 k n ∧ (x = 0 ∨ x = 1)) := by
  refine hs_ofW (cc := cX5_isFreeToSettle) (maxL := 2) (ret := (some .boolean)) (by decide) co_X5_isFreeToSettle ?_
  intro p e s m args below meth c hC hlocks hr hin0 hnoh hW
  obtain ⟨hx, hb, hml, hown, hts, -⟩ := id hC
  have hE := hW
  have hL : ∀ q ∈ ([] : List Loc), (eH E).size ≤ q.base := fun q hq => nomatch hq
  have hl := lv_entry ([.ref a, .int td] : List Value) (n := 2) (Nat.le_of_ble_eq_true rfl)
  rw [lg_entry_eq]
  generalize (lg_sl [.ref a, .int td] ++ List.replicate (2 - (lg_sl [.ref a, .int td]).length) Slot.unset).toArray = ls at hl ⊢
  have hl : lv_has ls 2 [(0, .ref a), (1, .int td)] := hl
  obtain ⟨nu9, te9, t9, s8, s9, st9, du9, ql9, am9, fa9, pr9, ip9, g9, hX, ht1, ht2, ht3, hg9⟩ := hT.tr ha
  obtain ⟨u8, v8, hS8⟩ := hT.si ht2
  obtain ⟨u9, v9, hS9⟩ := hT.si ht3
  refine lv_aload_n hx hb dX5_isFreeToSettle_0 rfl (lv_at hl 0 rfl) ?_
  refine hs_get hC hW hi_X5 rfl 6 (by decide) lk_X5_25 rfl hX rfl dX5_isFreeToSettle_1 ?_
  refine lv_iload_n hx hb dX5_isFreeToSettle_4 rfl (lv_at hl 1 rfl) ?_
  refine lv_icmp_gt (tgt := 32) hx hb dX5_isFreeToSettle_5 (by decide) (fun c5 => ?_) (fun c5 => ?_)
  · refine lv_iconst (v := 0) hx hb dX5_isFreeToSettle_32 (by decide) ?_
    exact hs_zret hC hW hL hr hlocks (by decide) (by decide) dX5_isFreeToSettle_33 (by rfl) ⟨_, ⟨rfl, rfl, rfl, rfl⟩, by first | exact Or.inl rfl | exact Or.inr rfl⟩
  refine lv_aload_n hx hb dX5_isFreeToSettle_8 rfl (lv_at hl 0 rfl) ?_
  refine hs_get hC hW hi_X5 rfl 3 (by decide) lk_X5_12 rfl hX rfl dX5_isFreeToSettle_9 ?_
  refine hs_getN hC hW hi_X3 rfl 0 (by decide) lk_X5_66 rfl hS8 rfl dX5_isFreeToSettle_12 ?_
  refine lv_if_ne (tgt := 32) hx hb dX5_isFreeToSettle_15 (by decide) (fun c15 => ?_) (fun c15 => ?_)
  · refine lv_iconst (v := 0) hx hb dX5_isFreeToSettle_32 (by decide) ?_
    exact hs_zret hC hW hL hr hlocks (by decide) (by decide) dX5_isFreeToSettle_33 (by rfl) ⟨_, ⟨rfl, rfl, rfl, rfl⟩, by first | exact Or.inl rfl | exact Or.inr rfl⟩
  refine lv_aload_n hx hb dX5_isFreeToSettle_18 rfl (lv_at hl 0 rfl) ?_
  refine hs_get hC hW hi_X5 rfl 4 (by decide) lk_X5_18 rfl hX rfl dX5_isFreeToSettle_19 ?_
  refine hs_getN hC hW hi_X3 rfl 0 (by decide) lk_X5_66 rfl hS9 rfl dX5_isFreeToSettle_22 ?_
  refine lv_if_ne (tgt := 32) hx hb dX5_isFreeToSettle_25 (by decide) (fun c25 => ?_) (fun c25 => ?_)
  · refine lv_iconst (v := 0) hx hb dX5_isFreeToSettle_32 (by decide) ?_
    exact hs_zret hC hW hL hr hlocks (by decide) (by decide) dX5_isFreeToSettle_33 (by rfl) ⟨_, ⟨rfl, rfl, rfl, rfl⟩, by first | exact Or.inl rfl | exact Or.inr rfl⟩
  refine lv_iconst (v := 1) hx hb dX5_isFreeToSettle_28 (by decide) ?_
  refine lv_goto (tgt := 33) hx hb dX5_isFreeToSettle_29 (by decide) ?_
  exact hs_zret hC hW hL hr hlocks (by decide) (by decide) dX5_isFreeToSettle_33 (by rfl) ⟨_, ⟨rfl, rfl, rfl, rfl⟩, by first | exact Or.inl rfl | exact Or.inr rfl⟩
set_option maxHeartbeats 4000000 in
set_option maxRecDepth 100000 in
/-- Trade.bothWishToCancel -/
theorem ct_X5_bothWishToCancel (E : hs_E) (t : cl_t) (cap X : Nat → Nat) (d : Nat) (G : hs_G) (hT : cl_T E t cap X d G) (a : Nat) (ha : t a = some (50, 0)) : hM E yX5_bothWishToCancel ({ frames := 0, cells := 0, slots := 0, locals := 0 }) [.ref a] G (fun r G1 k n => ∃ x : Int32, hs_pu (some (.int x)) G r G1 k n ∧ (x = 0 ∨ x = 1)) := by
  refine hs_ofW (cc := cX5_bothWishToCancel) (maxL := 1) (ret := (some .boolean)) (by decide) co_X5_bothWishToCancel ?_
  intro p e s m args below meth c hC hlocks hr hin0 hnoh hW
  obtain ⟨hx, hb, hml, hown, hts, -⟩ := id hC
  have hE := hW
  have hL : ∀ q ∈ ([] : List Loc), (eH E).size ≤ q.base := fun q hq => nomatch hq
  have hl := lv_entry ([.ref a] : List Value) (n := 1) (Nat.le_of_ble_eq_true rfl)
  rw [lg_entry_eq]
  generalize (lg_sl [.ref a] ++ List.replicate (1 - (lg_sl [.ref a]).length) Slot.unset).toArray = ls at hl ⊢
  have hl : lv_has ls 1 [(0, .ref a)] := hl
  obtain ⟨nu9, te9, t9, s8, s9, st9, du9, ql9, am9, fa9, pr9, ip9, g9, hX, ht1, ht2, ht3, hg9⟩ := hT.tr ha
  obtain ⟨u8, v8, hS8⟩ := hT.si ht2
  obtain ⟨u9, v9, hS9⟩ := hT.si ht3
  refine lv_aload_n hx hb dX5_bothWishToCancel_0 rfl (lv_at hl 0 rfl) ?_
  refine hs_get hC hW hi_X5 rfl 3 (by decide) lk_X5_12 rfl hX rfl dX5_bothWishToCancel_1 ?_
  refine hs_getN hC hW hi_X3 rfl 1 (by decide) lk_X5_69 rfl hS8 rfl dX5_bothWishToCancel_4 ?_
  refine lv_if_eq (tgt := 24) hx hb dX5_bothWishToCancel_7 (by decide) (fun c7 => ?_) (fun c7 => ?_)
  · refine lv_iconst (v := 0) hx hb dX5_bothWishToCancel_24 (by decide) ?_
    exact hs_zret hC hW hL hr hlocks (by decide) (by decide) dX5_bothWishToCancel_25 (by rfl) ⟨_, ⟨rfl, rfl, rfl, rfl⟩, by first | exact Or.inl rfl | exact Or.inr rfl⟩
  refine lv_aload_n hx hb dX5_bothWishToCancel_10 rfl (lv_at hl 0 rfl) ?_
  refine hs_get hC hW hi_X5 rfl 4 (by decide) lk_X5_18 rfl hX rfl dX5_bothWishToCancel_11 ?_
  refine hs_getN hC hW hi_X3 rfl 1 (by decide) lk_X5_69 rfl hS9 rfl dX5_bothWishToCancel_14 ?_
  refine lv_if_eq (tgt := 24) hx hb dX5_bothWishToCancel_17 (by decide) (fun c17 => ?_) (fun c17 => ?_)
  · refine lv_iconst (v := 0) hx hb dX5_bothWishToCancel_24 (by decide) ?_
    exact hs_zret hC hW hL hr hlocks (by decide) (by decide) dX5_bothWishToCancel_25 (by rfl) ⟨_, ⟨rfl, rfl, rfl, rfl⟩, by first | exact Or.inl rfl | exact Or.inr rfl⟩
  refine lv_iconst (v := 1) hx hb dX5_bothWishToCancel_20 (by decide) ?_
  refine lv_goto (tgt := 25) hx hb dX5_bothWishToCancel_21 (by decide) ?_
  exact hs_zret hC hW hL hr hlocks (by decide) (by decide) dX5_bothWishToCancel_25 (by rfl) ⟨_, ⟨rfl, rfl, rfl, rfl⟩, by first | exact Or.inl rfl | exact Or.inr rfl⟩
set_option maxHeartbeats 4000000 in
set_option maxRecDepth 100000 in
/-- Trade.shareOfAmount -/
theorem ct_X5_shareOfAmount (E : hs_E) (t : cl_t) (cap X : Nat → Nat) (d : Nat) (G : hs_G) (hT : cl_T E t cap X d G) (a : Nat) (ha : t a = some (50, 0)) (pa : Int32) : hM E yX5_shareOfAmount ({ frames := 0, cells := 0, slots := 0, locals := 0 }) [.ref a, .int pa] G (fun r G1 k n => ∃ x : Int32, hs_pu (some (.int x)) G r G1 k n ∧ True) := by
  refine hs_ofW (cc := cX5_shareOfAmount) (maxL := 2) (ret := (some .int)) (by decide) co_X5_shareOfAmount ?_
  intro p e s m args below meth c hC hlocks hr hin0 hnoh hW
  obtain ⟨hx, hb, hml, hown, hts, -⟩ := id hC
  have hE := hW
  have hL : ∀ q ∈ ([] : List Loc), (eH E).size ≤ q.base := fun q hq => nomatch hq
  have hl := lv_entry ([.ref a, .int pa] : List Value) (n := 2) (Nat.le_of_ble_eq_true rfl)
  rw [lg_entry_eq]
  generalize (lg_sl [.ref a, .int pa] ++ List.replicate (2 - (lg_sl [.ref a, .int pa]).length) Slot.unset).toArray = ls at hl ⊢
  have hl : lv_has ls 2 [(0, .ref a), (1, .int pa)] := hl
  obtain ⟨nu9, te9, t9, s8, s9, st9, du9, ql9, am9, fa9, pr9, ip9, g9, hX, ht1, ht2, ht3, hg9⟩ := hT.tr ha
  refine lv_aload_n hx hb dX5_shareOfAmount_0 rfl (lv_at hl 0 rfl) ?_
  refine hs_get hC hW hi_X5 rfl 7 (by decide) lk_X5_57 rfl hX rfl dX5_shareOfAmount_1 ?_
  refine lv_if_le (tgt := 25) hx hb dX5_shareOfAmount_4 (by decide) (fun c4 => ?_) (fun c4 => ?_)
  · refine lv_iconst (v := 0) hx hb dX5_shareOfAmount_25 (by decide) ?_
    exact hs_iret hC hW hL hr hlocks (by decide) (by decide) dX5_shareOfAmount_26 ⟨_, ⟨rfl, rfl, rfl, rfl⟩, trivial⟩
  refine lv_aload_n hx hb dX5_shareOfAmount_7 rfl (lv_at hl 0 rfl) ?_
  refine hs_get hC hW hi_X5 rfl 8 (by decide) lk_X5_63 rfl hX rfl dX5_shareOfAmount_8 ?_
  refine lv_i2l hx hb dX5_shareOfAmount_11 rfl ?_
  refine lv_iload_n hx hb dX5_shareOfAmount_12 rfl (lv_at hl 1 rfl) ?_
  refine lv_i2l hx hb dX5_shareOfAmount_13 rfl ?_
  refine lv_lmul hx hb dX5_shareOfAmount_14 ?_
  refine lv_aload_n hx hb dX5_shareOfAmount_15 rfl (lv_at hl 0 rfl) ?_
  refine hs_get hC hW hi_X5 rfl 7 (by decide) lk_X5_57 rfl hX rfl dX5_shareOfAmount_16 ?_
  refine lv_i2l hx hb dX5_shareOfAmount_19 rfl ?_
  refine lv_ldiv hx hb dX5_shareOfAmount_20 (mo_pos64 c4) ?_
  refine lv_l2i hx hb dX5_shareOfAmount_21 rfl ?_
  refine lv_goto (tgt := 26) hx hb dX5_shareOfAmount_22 (by decide) ?_
  exact hs_iret hC hW hL hr hlocks (by decide) (by decide) dX5_shareOfAmount_26 ⟨_, ⟨rfl, rfl, rfl, rfl⟩, trivial⟩
set_option maxHeartbeats 4000000 in
set_option maxRecDepth 100000 in
/-- Group.size -/
theorem ct_X1_size (E : hs_E) (t : cl_t) (cap X : Nat → Nat) (d : Nat) (G : hs_G) (hT : cl_T E t cap X d G) (g : Nat) (hg : t g = some (53, 0)) : hM E yX1_size ({ frames := 1, cells := 0, slots := 0, locals := 30 }) [.ref g] G (fun r G1 k n => ∃ x : Int32, hs_pu (some (.int x)) G r G1 k n ∧ True) := by
  refine hs_ofW (cc := cX1_size) (maxL := 1) (ret := (some .int)) (by decide) co_X1_size ?_
  intro p e s m args below meth c hC hlocks hr hin0 hnoh hW
  obtain ⟨hx, hb, hml, hown, hts, -⟩ := id hC
  have hE := hW
  have hL : ∀ q ∈ ([] : List Loc), (eH E).size ≤ q.base := fun q hq => nomatch hq
  have hl := lv_entry ([.ref g] : List Value) (n := 1) (Nat.le_of_ble_eq_true rfl)
  rw [lg_entry_eq]
  generalize (lg_sl [.ref g] ++ List.replicate (1 - (lg_sl [.ref g]).length) Slot.unset).toArray = ls at hl ⊢
  have hl : lv_has ls 1 [(0, .ref g)] := hl
  obtain ⟨L9, hGr, hLt⟩ := hT.gr hg
  obtain ⟨mc9, A9, sz9, f9, hLo, hLa, hsc, hmx, hcp, hel, hAA⟩ := hT.l54 hLt
  refine lv_aload_n hx hb dX1_size_0 rfl (lv_at hl 0 rfl) ?_
  refine hs_get hC hW hi_X1 rfl 0 (by decide) lk_X1_10 rfl hGr rfl dX1_size_1 ?_
  refine hs_callV hC hs_Tok hW hL (ct_size E G L9 A9 sz9 mc9 hLo) cw_Jx4a65c_size_8abf5 lk_X1_16 im_Jx4a65c_size_8abf5 se_Jx4a65c_size_8abf5 (hs_recv hC hW hLo rfl) hl.1 (by decide) (Nat.le_of_ble_eq_true rfl) dX1_size_4 (hs_kp1 (fun H locs hW hL => ?_))
  exact hs_iret hC hW hL hr hlocks (by decide) (by decide) dX1_size_7 ⟨_, ⟨rfl, rfl, rfl, rfl⟩, trivial⟩
set_option maxHeartbeats 4000000 in
set_option maxRecDepth 100000 in
/-- Group.isLedBy -/
theorem ct_X1_isLedBy (E : hs_E) (t : cl_t) (cap X : Nat → Nat) (d : Nat) (G : hs_G) (hT : cl_T E t cap X d G) (g : Nat) (hg : t g = some (53, 0)) (a : Nat) : hM E yX1_isLedBy ({ frames := 3, cells := 0, slots := 0, locals := 90 }) [.ref g, .ref a] G (fun r G1 k n => ∃ x : Int32, hs_pu (some (.int x)) G r G1 k n ∧ (x = 0 ∨ x = 1)) := by
  refine hs_ofW (cc := cX1_isLedBy) (maxL := 2) (ret := (some .boolean)) (by decide) co_X1_isLedBy ?_
  intro p e s m args below meth c hC hlocks hr hin0 hnoh hW
  obtain ⟨hx, hb, hml, hown, hts, -⟩ := id hC
  have hE := hW
  have hL : ∀ q ∈ ([] : List Loc), (eH E).size ≤ q.base := fun q hq => nomatch hq
  have hl := lv_entry ([.ref g, .ref a] : List Value) (n := 2) (Nat.le_of_ble_eq_true rfl)
  rw [lg_entry_eq]
  generalize (lg_sl [.ref g, .ref a] ++ List.replicate (2 - (lg_sl [.ref g, .ref a]).length) Slot.unset).toArray = ls at hl ⊢
  have hl : lv_has ls 2 [(0, .ref g), (1, .ref a)] := hl
  obtain ⟨L9, hGr, hLt⟩ := hT.gr hg
  obtain ⟨mc9, A9, sz9, f9, hLo, hLa, hsc, hmx, hcp, hel, hAA⟩ := hT.l54 hLt
  refine lv_aload_n hx hb dX1_isLedBy_0 rfl (lv_at hl 0 rfl) ?_
  refine hs_get hC hW hi_X1 rfl 0 (by decide) lk_X1_10 rfl hGr rfl dX1_isLedBy_1 ?_
  refine hs_callV hC hs_Tok hW hL (ct_size E G L9 A9 sz9 mc9 hLo) cw_Jx4a65c_size_8abf5 lk_X1_16 im_Jx4a65c_size_8abf5 se_Jx4a65c_size_8abf5 (hs_recv hC hW hLo rfl) hl.1 (by decide) (Nat.le_of_ble_eq_true rfl) dX1_isLedBy_4 (hs_kp1 (fun H locs hW hL => ?_))
  refine lv_if_le (tgt := 26) hx hb dX1_isLedBy_7 (by decide) (fun c7 => ?_) (fun c7 => ?_)
  · refine lv_iconst (v := 0) hx hb dX1_isLedBy_26 (by decide) ?_
    exact hs_zret hC hW hL hr hlocks (by decide) (by decide) dX1_isLedBy_27 (by rfl) ⟨_, ⟨rfl, rfl, rfl, rfl⟩, by first | exact Or.inl rfl | exact Or.inr rfl⟩
  have hlt : 0 < sz9 := by rcases Nat.eq_zero_or_pos sz9 with z | z; (exact absurd (by rw [z]; decide +kernel) c7); exact z
  obtain ⟨x9, hfx, htx⟩ := hel 0 hlt
  refine lv_aload_n hx hb dX1_isLedBy_10 rfl (lv_at hl 0 rfl) ?_
  refine hs_get hC hW hi_X1 rfl 0 (by decide) lk_X1_10 rfl hGr rfl dX1_isLedBy_11 ?_
  refine lv_iconst (v := 0) hx hb dX1_isLedBy_14 (by decide) ?_
  rw [show (0 : Int32) = nI 0 by decide +kernel]
  refine hs_callV hC hs_Tok hW hL (ct_get E G L9 A9 sz9 mc9 hLo (cap L9) f9 hLa (by omega) 0 x9 hlt hsc hfx) cw_Jx4a65c_get_915e3 lk_X1_20 im_Jx4a65c_get_915e3 se_Jx4a65c_get_915e3 (hs_recv hC hW hLo rfl) hl.1 (by decide) (Nat.le_of_ble_eq_true rfl) dX1_isLedBy_15 (hs_kp1 (fun H locs hW hL => ?_))
  refine lv_aload_n hx hb dX1_isLedBy_18 rfl (lv_at hl 1 rfl) ?_
  refine lv_acmp_ne (rx := some _) (ry := some _) (tgt := 26) hx hb dX1_isLedBy_19 (by decide) (fun c19 => ?_) (fun c19 => ?_)
  · refine lv_iconst (v := 0) hx hb dX1_isLedBy_26 (by decide) ?_
    exact hs_zret hC hW hL hr hlocks (by decide) (by decide) dX1_isLedBy_27 (by rfl) ⟨_, ⟨rfl, rfl, rfl, rfl⟩, by first | exact Or.inl rfl | exact Or.inr rfl⟩
  refine lv_iconst (v := 1) hx hb dX1_isLedBy_22 (by decide) ?_
  refine lv_goto (tgt := 27) hx hb dX1_isLedBy_23 (by decide) ?_
  exact hs_zret hC hW hL hr hlocks (by decide) (by decide) dX1_isLedBy_27 (by rfl) ⟨_, ⟨rfl, rfl, rfl, rfl⟩, by first | exact Or.inl rfl | exact Or.inr rfl⟩
set_option maxHeartbeats 4000000 in
set_option maxRecDepth 100000 in
/-- Group.isReady -/
theorem ct_X1_isReady (E : hs_E) (t : cl_t) (cap X : Nat → Nat) (d : Nat) (G : hs_G) (hT : cl_T E t cap X d G) (g : Nat) (hg : t g = some (53, 0)) (td : Int32) : hM E yX1_isReady ({ frames := 3, cells := 0, slots := 0, locals := 90 }) [.ref g, .int td] G (fun r G1 k n => ∃ x : Int32, hs_pu (some (.int x)) G r G1 k n ∧ (x = 0 ∨ x = 1)) := by
  refine hs_ofW (cc := cX1_isReady) (maxL := 3) (ret := (some .boolean)) (by decide) co_X1_isReady ?_
  intro p e s m args below meth c hC hlocks hr hin0 hnoh hW
  obtain ⟨hx, hb, hml, hown, hts, -⟩ := id hC
  have hE := hW
  have hL : ∀ q ∈ ([] : List Loc), (eH E).size ≤ q.base := fun q hq => nomatch hq
  have hl := lv_entry ([.ref g, .int td] : List Value) (n := 3) (Nat.le_of_ble_eq_true rfl)
  rw [lg_entry_eq]
  generalize (lg_sl [.ref g, .int td] ++ List.replicate (3 - (lg_sl [.ref g, .int td]).length) Slot.unset).toArray = ls at hl ⊢
  have hl : lv_has ls 3 [(0, .ref g), (1, .int td)] := hl
  obtain ⟨L9, hGr, hLt⟩ := hT.gr hg
  obtain ⟨mc9, A9, sz9, f9, hLo, hLa, hsc, hmx, hcp, hel, hAA⟩ := hT.l54 hLt
  refine lv_iconst (v := 0) hx hb dX1_isReady_0 (by decide) ?_
  refine lv_istore_n (lv' := [(2, .int _), (0, .ref _), (1, .int _)]) hx hb dX1_isReady_1 rfl hl (by decide) rfl (fun ls hl => ?_)
  refine hs_loop (σ := Nat) (fun x => match x with | i => sz9 - i) (fun x H locs ls => match x with | i => (i ≤ sz9) ∧ hs_W (eD E) vwCl (eH E) (G) H ∧ (∀ q ∈ locs, (eH E).size ≤ q.base) ∧ lv_has ls 3 [(0, .ref g), (1, .int td), (2, .int (nI i))]) ?_ 0 _ _ _ ⟨Nat.zero_le _, hW, hL, (lv_sub hl [1, 2, 0] rfl)⟩
  rintro i H locs ls ⟨hinv, hW, hL, hl⟩ ih
  replace hW : hs_W (eD E) vwCl (eH E) (G) H := hW
  replace hl : lv_has ls 3 [(0, .ref g), (1, .int td), (2, .int (nI i))] := hl
  refine lv_iload_n hx hb dX1_isReady_2 rfl (lv_at hl 2 rfl) ?_
  refine lv_aload_n hx hb dX1_isReady_3 rfl (lv_at hl 0 rfl) ?_
  refine hs_get hC hW hi_X1 rfl 0 (by decide) lk_X1_10 rfl hGr rfl dX1_isReady_4 ?_
  refine hs_callV hC hs_Tok hW hL (ct_size E G L9 A9 sz9 mc9 hLo) cw_Jx4a65c_size_8abf5 lk_X1_16 im_Jx4a65c_size_8abf5 se_Jx4a65c_size_8abf5 (hs_recv hC hW hLo rfl) hl.1 (by decide) (Nat.le_of_ble_eq_true rfl) dX1_isReady_7 (hs_kp1 (fun H locs hW hL => ?_))
  refine lv_icmp_ge (tgt := 39) hx hb dX1_isReady_10 (by decide) (fun c10 => ?_) (fun c10 => ?_)
  · refine lv_iconst (v := 1) hx hb dX1_isReady_39 (by decide) ?_
    exact hs_zret hC hW hL hr hlocks (by decide) (by decide) dX1_isReady_40 (by rfl) ⟨_, ⟨rfl, rfl, rfl, rfl⟩, by first | exact Or.inl rfl | exact Or.inr rfl⟩
  have hlt : i < sz9 := Nat.not_le.mp fun z => c10 ((nI_leI (by omega) (by omega)).mpr z)
  obtain ⟨x9, hfx, htx⟩ := hel i hlt
  obtain ⟨nu9, te9, t9, s8, s9, st9, du9, ql9, am9, fa9, pr9, ip9, g9, hX, ht1, ht2, ht3, hg9⟩ := hT.tr htx
  refine lv_aload_n hx hb dX1_isReady_13 rfl (lv_at hl 0 rfl) ?_
  refine hs_get hC hW hi_X1 rfl 0 (by decide) lk_X1_10 rfl hGr rfl dX1_isReady_14 ?_
  refine lv_iload_n hx hb dX1_isReady_17 rfl (lv_at hl 2 rfl) ?_
  refine hs_callV hC hs_Tok hW hL (ct_get E G L9 A9 sz9 mc9 hLo (cap L9) f9 hLa (by omega) i x9 hlt hsc hfx) cw_Jx4a65c_get_915e3 lk_X1_20 im_Jx4a65c_get_915e3 se_Jx4a65c_get_915e3 (hs_recv hC hW hLo rfl) hl.1 (by decide) (Nat.le_of_ble_eq_true rfl) dX1_isReady_18 (hs_kp1 (fun H locs hW hL => ?_))
  refine hs_cast hC hW lk_X1_24 ca_X5_X5 hX rfl dX1_isReady_21 ?_
  refine lv_iload_n hx hb dX1_isReady_24 rfl (lv_at hl 1 rfl) ?_
  refine hs_callVN hC hs_Tok hW hL (ct_X5_isFreeToSettle E t cap X d G hT x9 htx _) cw_X5_isFreeToSettle lk_X1_48 im_X5_isFreeToSettle se_X5_isFreeToSettle (hs_recv hC hW hX rfl) hl.1 (by decide) (Nat.le_of_ble_eq_true rfl) dX1_isReady_25 (hs_ke (fun x H locs hJ hW hL => ?_))
  refine lv_if_ne (tgt := 33) hx hb dX1_isReady_28 (by decide) (fun c28 => ?_) (fun c28 => ?_)
  · refine lv_iinc (lv' := [(2, .int _), (0, .ref _), (1, .int _)]) hx hb dX1_isReady_33 hl (k := 2) rfl rfl (by decide) rfl (fun ls hl => ?_)
    refine lv_goto (tgt := 2) hx hb dX1_isReady_36 (by decide) ?_
    rw [hs_inc] at hl
    exact ih (i + 1) _ _ _ (by show sz9 - (i + 1) < sz9 - i; omega) ⟨by omega, hW, hL, (lv_sub hl [1, 2, 0] rfl)⟩
  refine lv_iconst (v := 0) hx hb dX1_isReady_31 (by decide) ?_
  exact hs_zret hC hW hL hr hlocks (by decide) (by decide) dX1_isReady_32 (by rfl) ⟨_, ⟨rfl, rfl, rfl, rfl⟩, by first | exact Or.inl rfl | exact Or.inr rfl⟩
set_option maxHeartbeats 4000000 in
set_option maxRecDepth 100000 in
/-- Group.priority -/
theorem ct_X1_priority (E : hs_E) (t : cl_t) (cap X : Nat → Nat) (d : Nat) (G : hs_G) (hT : cl_T E t cap X d G) (g : Nat) (hg : t g = some (53, 0)) : hM E yX1_priority ({ frames := 3, cells := 0, slots := 0, locals := 90 }) [.ref g] G (fun r G1 k n => ∃ x : Int32, hs_pu (some (.int x)) G r G1 k n ∧ True) := by
  refine hs_ofW (cc := cX1_priority) (maxL := 3) (ret := (some .int)) (by decide) co_X1_priority ?_
  intro p e s m args below meth c hC hlocks hr hin0 hnoh hW
  obtain ⟨hx, hb, hml, hown, hts, -⟩ := id hC
  have hE := hW
  have hL : ∀ q ∈ ([] : List Loc), (eH E).size ≤ q.base := fun q hq => nomatch hq
  have hl := lv_entry ([.ref g] : List Value) (n := 3) (Nat.le_of_ble_eq_true rfl)
  rw [lg_entry_eq]
  generalize (lg_sl [.ref g] ++ List.replicate (3 - (lg_sl [.ref g]).length) Slot.unset).toArray = ls at hl ⊢
  have hl : lv_has ls 3 [(0, .ref g)] := hl
  obtain ⟨L9, hGr, hLt⟩ := hT.gr hg
  obtain ⟨mc9, A9, sz9, f9, hLo, hLa, hsc, hmx, hcp, hel, hAA⟩ := hT.l54 hLt
  refine lv_iconst (v := 0) hx hb dX1_priority_0 (by decide) ?_
  refine lv_istore_n (lv' := [(1, .int _), (0, .ref _)]) hx hb dX1_priority_1 rfl hl (by decide) rfl (fun ls hl => ?_)
  refine lv_iconst (v := 0) hx hb dX1_priority_2 (by decide) ?_
  refine lv_istore_n (lv' := [(2, .int _), (1, .int _), (0, .ref _)]) hx hb dX1_priority_3 rfl hl (by decide) rfl (fun ls hl => ?_)
  refine hs_loop (σ := Nat × Int32) (fun x => match x with | (i, gr) => sz9 - i) (fun x H locs ls => match x with | (i, gr) => (i ≤ sz9) ∧ hs_W (eD E) vwCl (eH E) (G) H ∧ (∀ q ∈ locs, (eH E).size ≤ q.base) ∧ lv_has ls 3 [(0, .ref g), (1, .int gr), (2, .int (nI i))]) ?_ (0, _) _ _ _ ⟨Nat.zero_le _, hW, hL, (lv_sub hl [2, 1, 0] rfl)⟩
  rintro ⟨i, gr⟩ H locs ls ⟨hinv, hW, hL, hl⟩ ih
  replace hW : hs_W (eD E) vwCl (eH E) (G) H := hW
  replace hl : lv_has ls 3 [(0, .ref g), (1, .int gr), (2, .int (nI i))] := hl
  refine lv_iload_n hx hb dX1_priority_4 rfl (lv_at hl 2 rfl) ?_
  refine lv_aload_n hx hb dX1_priority_5 rfl (lv_at hl 0 rfl) ?_
  refine hs_get hC hW hi_X1 rfl 0 (by decide) lk_X1_10 rfl hGr rfl dX1_priority_6 ?_
  refine hs_callV hC hs_Tok hW hL (ct_size E G L9 A9 sz9 mc9 hLo) cw_Jx4a65c_size_8abf5 lk_X1_16 im_Jx4a65c_size_8abf5 se_Jx4a65c_size_8abf5 (hs_recv hC hW hLo rfl) hl.1 (by decide) (Nat.le_of_ble_eq_true rfl) dX1_priority_9 (hs_kp1 (fun H locs hW hL => ?_))
  refine lv_icmp_ge (tgt := 40) hx hb dX1_priority_12 (by decide) (fun c12 => ?_) (fun c12 => ?_)
  · refine lv_iload_n hx hb dX1_priority_40 rfl (lv_at hl 1 rfl) ?_
    exact hs_iret hC hW hL hr hlocks (by decide) (by decide) dX1_priority_41 ⟨_, ⟨rfl, rfl, rfl, rfl⟩, trivial⟩
  have hlt : i < sz9 := Nat.not_le.mp fun z => c12 ((nI_leI (by omega) (by omega)).mpr z)
  obtain ⟨x9, hfx, htx⟩ := hel i hlt
  obtain ⟨nu9, te9, t9, s8, s9, st9, du9, ql9, am9, fa9, pr9, ip9, g9, hX, ht1, ht2, ht3, hg9⟩ := hT.tr htx
  refine lv_iload_n hx hb dX1_priority_15 rfl (lv_at hl 1 rfl) ?_
  refine lv_aload_n hx hb dX1_priority_16 rfl (lv_at hl 0 rfl) ?_
  refine hs_get hC hW hi_X1 rfl 0 (by decide) lk_X1_10 rfl hGr rfl dX1_priority_17 ?_
  refine lv_iload_n hx hb dX1_priority_20 rfl (lv_at hl 2 rfl) ?_
  refine hs_callV hC hs_Tok hW hL (ct_get E G L9 A9 sz9 mc9 hLo (cap L9) f9 hLa (by omega) i x9 hlt hsc hfx) cw_Jx4a65c_get_915e3 lk_X1_20 im_Jx4a65c_get_915e3 se_Jx4a65c_get_915e3 (hs_recv hC hW hLo rfl) hl.1 (by decide) (Nat.le_of_ble_eq_true rfl) dX1_priority_21 (hs_kp1 (fun H locs hW hL => ?_))
  refine hs_cast hC hW lk_X1_24 ca_X5_X5 hX rfl dX1_priority_24 ?_
  refine hs_getN hC hW hi_X5 rfl 10 (by decide) lk_X1_52 rfl hX rfl dX1_priority_27 ?_
  refine hs_callS hC hs_Tok hW hL (ct_max E _ _ _) cw_J9_max_7cf53 lk_X1_55 st_J9_max_7cf53 hl.1 (by decide) (Nat.le_of_ble_eq_true rfl) dX1_priority_30 (hs_kp1 (fun H locs hW hL => ?_))
  refine lv_istore_n (lv' := [(1, .int _), (0, .ref _), (2, .int _)]) hx hb dX1_priority_33 rfl hl (by decide) rfl (fun ls hl => ?_)
  refine lv_iinc (lv' := [(2, .int _), (1, .int _), (0, .ref _)]) hx hb dX1_priority_34 hl (k := 2) rfl rfl (by decide) rfl (fun ls hl => ?_)
  refine lv_goto (tgt := 4) hx hb dX1_priority_37 (by decide) ?_
  rw [hs_inc] at hl
  exact ih (i + 1, _) _ _ _ (by show sz9 - (i + 1) < sz9 - i; omega) ⟨by omega, hW, hL, (lv_sub hl [2, 1, 0] rfl)⟩
