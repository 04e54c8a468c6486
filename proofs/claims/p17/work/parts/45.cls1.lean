/-! the class: Days, Vault, Journal, Terms -/
section CLK
variable {p : Program} {l : Launch} {e : Env} {R : Room} {s : State} {m : MethodId} {args : Array Value} {below : List Frame} {meth : Method} {c : Code} {cells slots : Nat} {Q : State → Prop} {pc : Nat} {ls : Array Slot} {rest : List Value} {D : va_G} {cl : List vw_C} {H0 : Heap} {rm : Room}
theorem hs_kj {G : hs_G} (kk : ∀ (x : Int64) (H1 : Heap) (locs1 : List Loc), hs_W D cl H0 G H1 → (∀ q ∈ locs1, H0.size ≤ q.base) → W p l e R s m args below meth c H1 locs1 cells slots Q (F0 m (pc + 3) ls (.long x :: rest))) : hs_Kr D cl H0 (fun r G1 k n => ∃ x : Int64, hs_pu (some (.long x)) G r G1 k n) rm p l e R s m args below meth c cells slots Q pc ls rest := by
  refine ⟨?_, ?_⟩
  · rintro v G1 k n H1 locs1 ⟨x, h1, rfl, rfl, rfl⟩ - - h5 h6
    cases h1
    exact kk x H1 locs1 h5 h6
  · rintro C x G1 k n H1 locs1 ⟨y, h1, -⟩
    cases h1
end CLK
set_option maxHeartbeats 4000000 in
set_option maxRecDepth 100000 in
/-- Journal.write -/
theorem ct_X2_write (E : hs_E) (t : cl_t) (cap X : Nat → Nat) (d : Nat) (G : hs_G) (hT : cl_T E t cap X d G) (a b c9 e9 : Int32) : hM E yX2_write ({ frames := 0, cells := 0, slots := 0, locals := 0 }) [.ref (X 6), .int a, .int b, .int c9, .int e9] G (hs_V (fun G1 k n => cl_0 E t cap X d G G1 k n ∧ ∀ q kq, t q = some kq → 40 ≤ kq.1 → G1 q = G q)) := by
  refine hs_ofW (cc := cX2_write) (maxL := 5) (ret := none) (by decide) co_X2_write ?_
  intro p e s m args below meth c hC hlocks hr hin0 hnoh hW
  obtain ⟨hx, hb, hml, hown, hts, -⟩ := id hC
  have hE := hW
  have hL : ∀ q ∈ ([] : List Loc), (eH E).size ≤ q.base := fun q hq => nomatch hq
  have hl := lv_entry ([.ref (X 6), .int a, .int b, .int c9, .int e9] : List Value) (n := 5) (Nat.le_of_ble_eq_true rfl)
  rw [lg_entry_eq]
  generalize (lg_sl [.ref (X 6), .int a, .int b, .int c9, .int e9] ++ List.replicate (5 - (lg_sl [.ref (X 6), .int a, .int b, .int c9, .int e9]).length) Slot.unset).toArray = ls at hl ⊢
  have hl : lv_has ls 5 [(0, .ref (X 6)), (1, .int a), (2, .int b), (3, .int c9), (4, .int e9)] := hl
  obtain ⟨r9, hr9, hJ0⟩ := hT.jour
  obtain ⟨f9, hF⟩ := hT.jc
  have h67 : X 6 ≠ X 7 := hT.ne (by decide) (by decide) (by decide)
  refine lv_aload_n hx hb dX2_write_0 rfl (lv_at hl 0 rfl) ?_
  refine hs_get hC hW hi_X2 rfl 1 (by decide) lk_X2_15 rfl hJ0 rfl dX2_write_1 ?_
  refine lv_sipush (v := 1500) hx hb dX2_write_4 (by decide) ?_
  refine lv_icmp_ge (tgt := 75) hx hb dX2_write_7 (by decide) (fun c7 => ?_) (fun c7 => ?_)
  · exact hs_vret hC hW hL hr hlocks (by decide) (by decide) dX2_write_75 ⟨rfl, ⟨rfl, rfl, by first | exact ⟨hT, cl_F.rf⟩ | exact ⟨((hT.pC _).1.pJ (by omega)).1, (hT.pC _).2.tr ((hT.pC _).1.pJ (by omega)).2⟩⟩, fun q kq hq h40 => by first | rfl | rw [hs_up_ne _ _ (hT.not hq h40 (by decide)), hs_up_ne _ _ (hT.not hq h40 (by decide))]⟩
  have hlt : r9 < 1500 := Nat.not_le.mp fun z => c7 (by rw [show (1500 : Int32) = nI 1500 by decide +kernel]; exact (nI_leI (by omega) (by omega)).mpr z)
  refine lv_aload_n hx hb dX2_write_10 rfl (lv_at hl 0 rfl) ?_
  refine hs_get hC hW hi_X2 rfl 0 (by decide) lk_X2_11 rfl hJ0 rfl dX2_write_11 ?_
  refine lv_aload_n hx hb dX2_write_14 rfl (lv_at hl 0 rfl) ?_
  refine hs_get hC hW hi_X2 rfl 1 (by decide) lk_X2_15 rfl hJ0 rfl dX2_write_15 ?_
  refine lv_iconst (v := 4) hx hb dX2_write_18 (by decide) ?_
  refine lv_imul hx hb dX2_write_19 ?_
  refine lv_iload_n hx hb dX2_write_20 rfl (lv_at hl 1 rfl) ?_
  refine hs_iast hC hW hL 0 hF (hT.szX 7 (by decide)) rfl (cl_j0 hlt) dX2_write_21 (fun H locs hW hL => ?_)
  refine lv_aload_n hx hb dX2_write_22 rfl (lv_at hl 0 rfl) ?_
  refine hs_get hC hW hi_X2 rfl 0 (by decide) lk_X2_11 rfl ((hs_up_ne _ _ h67).trans hJ0) rfl dX2_write_23 ?_
  refine lv_aload_n hx hb dX2_write_26 rfl (lv_at hl 0 rfl) ?_
  refine hs_get hC hW hi_X2 rfl 1 (by decide) lk_X2_15 rfl ((hs_up_ne _ _ h67).trans hJ0) rfl dX2_write_27 ?_
  refine lv_iconst (v := 4) hx hb dX2_write_30 (by decide) ?_
  refine lv_imul hx hb dX2_write_31 ?_
  refine lv_iconst (v := 1) hx hb dX2_write_32 (by decide) ?_
  refine lv_iadd hx hb dX2_write_33 ?_
  refine lv_iload_n hx hb dX2_write_34 rfl (lv_at hl 2 rfl) ?_
  refine hs_iast hC hW hL 0 (hs_up_eq _ _ _) (hT.szX 7 (by decide)) rfl (cl_jk 1 hlt (by decide +kernel) (by decide)) dX2_write_35 (fun H locs hW hL => ?_)
  rw [hs_up_up] at hW
  refine lv_aload_n hx hb dX2_write_36 rfl (lv_at hl 0 rfl) ?_
  refine hs_get hC hW hi_X2 rfl 0 (by decide) lk_X2_11 rfl ((hs_up_ne _ _ h67).trans hJ0) rfl dX2_write_37 ?_
  refine lv_aload_n hx hb dX2_write_40 rfl (lv_at hl 0 rfl) ?_
  refine hs_get hC hW hi_X2 rfl 1 (by decide) lk_X2_15 rfl ((hs_up_ne _ _ h67).trans hJ0) rfl dX2_write_41 ?_
  refine lv_iconst (v := 4) hx hb dX2_write_44 (by decide) ?_
  refine lv_imul hx hb dX2_write_45 ?_
  refine lv_iconst (v := 2) hx hb dX2_write_46 (by decide) ?_
  refine lv_iadd hx hb dX2_write_47 ?_
  refine lv_iload_n hx hb dX2_write_48 rfl (lv_at hl 3 rfl) ?_
  refine hs_iast hC hW hL 0 (hs_up_eq _ _ _) (hT.szX 7 (by decide)) rfl (cl_jk 2 hlt (by decide +kernel) (by decide)) dX2_write_49 (fun H locs hW hL => ?_)
  rw [hs_up_up] at hW
  refine lv_aload_n hx hb dX2_write_50 rfl (lv_at hl 0 rfl) ?_
  refine hs_get hC hW hi_X2 rfl 0 (by decide) lk_X2_11 rfl ((hs_up_ne _ _ h67).trans hJ0) rfl dX2_write_51 ?_
  refine lv_aload_n hx hb dX2_write_54 rfl (lv_at hl 0 rfl) ?_
  refine hs_get hC hW hi_X2 rfl 1 (by decide) lk_X2_15 rfl ((hs_up_ne _ _ h67).trans hJ0) rfl dX2_write_55 ?_
  refine lv_iconst (v := 4) hx hb dX2_write_58 (by decide) ?_
  refine lv_imul hx hb dX2_write_59 ?_
  refine lv_iconst (v := 3) hx hb dX2_write_60 (by decide) ?_
  refine lv_iadd hx hb dX2_write_61 ?_
  refine lv_iload hx hb dX2_write_62 (lv_at hl 4 rfl) ?_
  refine hs_iast hC hW hL 0 (hs_up_eq _ _ _) (hT.szX 7 (by decide)) rfl (cl_jk 3 hlt (by decide +kernel) (by decide)) dX2_write_64 (fun H locs hW hL => ?_)
  rw [hs_up_up] at hW
  refine lv_aload_n hx hb dX2_write_65 rfl (lv_at hl 0 rfl) ?_
  refine lv_dup hx hb dX2_write_66 rfl ?_
  refine hs_get hC hW hi_X2 rfl 1 (by decide) lk_X2_15 rfl ((hs_up_ne _ _ h67).trans hJ0) rfl dX2_write_67 ?_
  refine lv_iconst (v := 1) hx hb dX2_write_70 (by decide) ?_
  refine lv_iadd hx hb dX2_write_71 ?_
  rw [nI_1]
  refine hs_put hC hW hL hi_X2 tyX2 tyX2_ok nmX2 rfl 1 (by decide) lk_X2_15 rfl rfl ((hs_up_ne _ _ h67).trans hJ0) (hT.szX 6 (by decide)) rfl rfl (Nat.le_of_ble_eq_true rfl) dX2_write_72 (fun H locs hW hL => ?_)
  exact hs_vret hC hW hL hr hlocks (by decide) (by decide) dX2_write_75 ⟨rfl, ⟨rfl, rfl, by first | exact ⟨hT, cl_F.rf⟩ | exact ⟨((hT.pC _).1.pJ (by omega)).1, (hT.pC _).2.tr ((hT.pC _).1.pJ (by omega)).2⟩⟩, fun q kq hq h40 => by first | rfl | rw [hs_up_ne _ _ (hT.not hq h40 (by decide)), hs_up_ne _ _ (hT.not hq h40 (by decide))]⟩
theorem cl_jr {x y : Int32} {r : Nat} (hr : r ≤ 1500) (h0 : ¬ x < 0) (h1 : ¬ x ≥ nI r) (h2 : ¬ y < 0) (h3 : y < 4) : vp_in (x * 4 + y) 6000 := by
  obtain ⟨a, ha, rfl⟩ := nI_of h0
  obtain ⟨b, hb, rfl⟩ := nI_of h2
  have h4 : a < r := Nat.not_le.mp fun z => h1 ((nI_leI (by omega) ha).mpr z)
  have h5 : b < 4 := (nI_ltI hb (by decide)).mp (by rw [show nI 4 = (4 : Int32) by decide +kernel]; exact h3)
  exact cl_jk b (by omega) rfl h5
set_option maxHeartbeats 4000000 in
set_option maxRecDepth 100000 in
/-- Journal.read -/
theorem ct_X2_read (E : hs_E) (t : cl_t) (cap X : Nat → Nat) (d : Nat) (G : hs_G) (hT : cl_T E t cap X d G) (a b : Int32) : hM E yX2_read ({ frames := 0, cells := 0, slots := 0, locals := 0 }) [.ref (X 6), .int a, .int b] G (fun r G1 k n => ∃ x : Int32, hs_pu (some (.int x)) G r G1 k n ∧ True) := by
  refine hs_ofW (cc := cX2_read) (maxL := 3) (ret := (some .int)) (by decide) co_X2_read ?_
  intro p e s m args below meth c hC hlocks hr hin0 hnoh hW
  obtain ⟨hx, hb, hml, hown, hts, -⟩ := id hC
  have hE := hW
  have hL : ∀ q ∈ ([] : List Loc), (eH E).size ≤ q.base := fun q hq => nomatch hq
  have hl := lv_entry ([.ref (X 6), .int a, .int b] : List Value) (n := 3) (Nat.le_of_ble_eq_true rfl)
  rw [lg_entry_eq]
  generalize (lg_sl [.ref (X 6), .int a, .int b] ++ List.replicate (3 - (lg_sl [.ref (X 6), .int a, .int b]).length) Slot.unset).toArray = ls at hl ⊢
  have hl : lv_has ls 3 [(0, .ref (X 6)), (1, .int a), (2, .int b)] := hl
  obtain ⟨r9, hr9, hJ0⟩ := hT.jour
  obtain ⟨f9, hF⟩ := hT.jc
  refine lv_iload_n hx hb dX2_read_0 rfl (lv_at hl 1 rfl) ?_
  refine lv_if_lt (tgt := 21) hx hb dX2_read_1 (by decide) (fun c1 => ?_) (fun c1 => ?_)
  · refine lv_iconst (v := (-1)) hx hb dX2_read_21 (by decide) ?_
    exact hs_iret hC hW hL hr hlocks (by decide) (by decide) dX2_read_22 ⟨_, ⟨rfl, rfl, rfl, rfl⟩, trivial⟩
  refine lv_iload_n hx hb dX2_read_4 rfl (lv_at hl 1 rfl) ?_
  refine lv_aload_n hx hb dX2_read_5 rfl (lv_at hl 0 rfl) ?_
  refine hs_get hC hW hi_X2 rfl 1 (by decide) lk_X2_15 rfl hJ0 rfl dX2_read_6 ?_
  refine lv_icmp_ge (tgt := 21) hx hb dX2_read_9 (by decide) (fun c9 => ?_) (fun c9 => ?_)
  · refine lv_iconst (v := (-1)) hx hb dX2_read_21 (by decide) ?_
    exact hs_iret hC hW hL hr hlocks (by decide) (by decide) dX2_read_22 ⟨_, ⟨rfl, rfl, rfl, rfl⟩, trivial⟩
  refine lv_iload_n hx hb dX2_read_12 rfl (lv_at hl 2 rfl) ?_
  refine lv_if_lt (tgt := 21) hx hb dX2_read_13 (by decide) (fun c13 => ?_) (fun c13 => ?_)
  · refine lv_iconst (v := (-1)) hx hb dX2_read_21 (by decide) ?_
    exact hs_iret hC hW hL hr hlocks (by decide) (by decide) dX2_read_22 ⟨_, ⟨rfl, rfl, rfl, rfl⟩, trivial⟩
  refine lv_iload_n hx hb dX2_read_16 rfl (lv_at hl 2 rfl) ?_
  refine lv_iconst (v := 4) hx hb dX2_read_17 (by decide) ?_
  refine lv_icmp_lt (tgt := 23) hx hb dX2_read_18 (by decide) (fun c18 => ?_) (fun c18 => ?_)
  · refine lv_aload_n hx hb dX2_read_23 rfl (lv_at hl 0 rfl) ?_
    refine hs_get hC hW hi_X2 rfl 0 (by decide) lk_X2_11 rfl hJ0 rfl dX2_read_24 ?_
    refine lv_iload_n hx hb dX2_read_27 rfl (lv_at hl 1 rfl) ?_
    refine lv_iconst (v := 4) hx hb dX2_read_28 (by decide) ?_
    refine lv_imul hx hb dX2_read_29 ?_
    refine lv_iload_n hx hb dX2_read_30 rfl (lv_at hl 2 rfl) ?_
    refine lv_iadd hx hb dX2_read_31 ?_
    refine hs_iald hC hW 0 hF rfl (cl_jr hr9 c1 c9 c13 c18) dX2_read_32 ?_
    exact hs_iret hC hW hL hr hlocks (by decide) (by decide) dX2_read_33 ⟨_, ⟨rfl, rfl, rfl, rfl⟩, trivial⟩
  refine lv_iconst (v := (-1)) hx hb dX2_read_21 (by decide) ?_
  exact hs_iret hC hW hL hr hlocks (by decide) (by decide) dX2_read_22 ⟨_, ⟨rfl, rfl, rfl, rfl⟩, trivial⟩
set_option maxHeartbeats 4000000 in
set_option maxRecDepth 100000 in
/-- Terms.isLike -/
theorem ct_X4_isLike (E : hs_E) (t : cl_t) (cap X : Nat → Nat) (d : Nat) (G : hs_G) (hT : cl_T E t cap X d G) (a b : Nat) (ha : t a = some (51, 0)) (hb9 : t b = some (51, 0)) : hM E yX4_isLike ({ frames := 0, cells := 0, slots := 0, locals := 0 }) [.ref a, .ref b] G (fun r G1 k n => ∃ x : Int32, hs_pu (some (.int x)) G r G1 k n ∧ (x = 0 ∨ x = 1)) := by
  refine hs_ofW (cc := cX4_isLike) (maxL := 2) (ret := (some .boolean)) (by decide) co_X4_isLike ?_
  intro p e s m args below meth c hC hlocks hr hin0 hnoh hW
  obtain ⟨hx, hb, hml, hown, hts, -⟩ := id hC
  have hE := hW
  have hL : ∀ q ∈ ([] : List Loc), (eH E).size ≤ q.base := fun q hq => nomatch hq
  have hl := lv_entry ([.ref a, .ref b] : List Value) (n := 2) (Nat.le_of_ble_eq_true rfl)
  rw [lg_entry_eq]
  generalize (lg_sl [.ref a, .ref b] ++ List.replicate (2 - (lg_sl [.ref a, .ref b]).length) Slot.unset).toArray = ls at hl ⊢
  have hl : lv_has ls 2 [(0, .ref a), (1, .ref b)] := hl
  obtain ⟨a1, a2, a3, a4, a5, a6, a7, hA, -⟩ := hT.te ha
  obtain ⟨b1, b2, b3, b4, b5, b6, b7, hB, -⟩ := hT.te hb9
  refine lv_aload_n hx hb dX4_isLike_0 rfl (lv_at hl 0 rfl) ?_
  refine hs_get hC hW hi_X4 rfl 0 (by decide) lk_X4_7 rfl hA rfl dX4_isLike_1 ?_
  refine lv_aload_n hx hb dX4_isLike_4 rfl (lv_at hl 1 rfl) ?_
  refine hs_get hC hW hi_X4 rfl 0 (by decide) lk_X4_7 rfl hB rfl dX4_isLike_5 ?_
  refine lv_icmp_ne (tgt := 81) hx hb dX4_isLike_8 (by decide) (fun c8 => ?_) (fun c8 => ?_)
  · refine lv_iconst (v := 0) hx hb dX4_isLike_81 (by decide) ?_
    exact hs_zret hC hW hL hr hlocks (by decide) (by decide) dX4_isLike_82 (by rfl) ⟨_, ⟨rfl, rfl, rfl, rfl⟩, by first | exact Or.inl rfl | exact Or.inr rfl⟩
  refine lv_aload_n hx hb dX4_isLike_11 rfl (lv_at hl 0 rfl) ?_
  refine hs_get hC hW hi_X4 rfl 1 (by decide) lk_X4_13 rfl hA rfl dX4_isLike_12 ?_
  refine lv_aload_n hx hb dX4_isLike_15 rfl (lv_at hl 1 rfl) ?_
  refine hs_get hC hW hi_X4 rfl 1 (by decide) lk_X4_13 rfl hB rfl dX4_isLike_16 ?_
  refine lv_icmp_ne (tgt := 81) hx hb dX4_isLike_19 (by decide) (fun c19 => ?_) (fun c19 => ?_)
  · refine lv_iconst (v := 0) hx hb dX4_isLike_81 (by decide) ?_
    exact hs_zret hC hW hL hr hlocks (by decide) (by decide) dX4_isLike_82 (by rfl) ⟨_, ⟨rfl, rfl, rfl, rfl⟩, by first | exact Or.inl rfl | exact Or.inr rfl⟩
  refine lv_aload_n hx hb dX4_isLike_22 rfl (lv_at hl 0 rfl) ?_
  refine hs_get hC hW hi_X4 rfl 2 (by decide) lk_X4_16 rfl hA rfl dX4_isLike_23 ?_
  refine lv_aload_n hx hb dX4_isLike_26 rfl (lv_at hl 1 rfl) ?_
  refine hs_get hC hW hi_X4 rfl 2 (by decide) lk_X4_16 rfl hB rfl dX4_isLike_27 ?_
  refine lv_icmp_ne (tgt := 81) hx hb dX4_isLike_30 (by decide) (fun c30 => ?_) (fun c30 => ?_)
  · refine lv_iconst (v := 0) hx hb dX4_isLike_81 (by decide) ?_
    exact hs_zret hC hW hL hr hlocks (by decide) (by decide) dX4_isLike_82 (by rfl) ⟨_, ⟨rfl, rfl, rfl, rfl⟩, by first | exact Or.inl rfl | exact Or.inr rfl⟩
  refine lv_aload_n hx hb dX4_isLike_33 rfl (lv_at hl 0 rfl) ?_
  refine hs_get hC hW hi_X4 rfl 3 (by decide) lk_X4_19 rfl hA rfl dX4_isLike_34 ?_
  refine lv_aload_n hx hb dX4_isLike_37 rfl (lv_at hl 1 rfl) ?_
  refine hs_get hC hW hi_X4 rfl 3 (by decide) lk_X4_19 rfl hB rfl dX4_isLike_38 ?_
  refine lv_icmp_ne (tgt := 81) hx hb dX4_isLike_41 (by decide) (fun c41 => ?_) (fun c41 => ?_)
  · refine lv_iconst (v := 0) hx hb dX4_isLike_81 (by decide) ?_
    exact hs_zret hC hW hL hr hlocks (by decide) (by decide) dX4_isLike_82 (by rfl) ⟨_, ⟨rfl, rfl, rfl, rfl⟩, by first | exact Or.inl rfl | exact Or.inr rfl⟩
  refine lv_aload_n hx hb dX4_isLike_44 rfl (lv_at hl 0 rfl) ?_
  refine hs_get hC hW hi_X4 rfl 4 (by decide) lk_X4_22 rfl hA rfl dX4_isLike_45 ?_
  refine lv_aload_n hx hb dX4_isLike_48 rfl (lv_at hl 1 rfl) ?_
  refine hs_get hC hW hi_X4 rfl 4 (by decide) lk_X4_22 rfl hB rfl dX4_isLike_49 ?_
  refine lv_icmp_ne (tgt := 81) hx hb dX4_isLike_52 (by decide) (fun c52 => ?_) (fun c52 => ?_)
  · refine lv_iconst (v := 0) hx hb dX4_isLike_81 (by decide) ?_
    exact hs_zret hC hW hL hr hlocks (by decide) (by decide) dX4_isLike_82 (by rfl) ⟨_, ⟨rfl, rfl, rfl, rfl⟩, by first | exact Or.inl rfl | exact Or.inr rfl⟩
  refine lv_aload_n hx hb dX4_isLike_55 rfl (lv_at hl 0 rfl) ?_
  refine hs_get hC hW hi_X4 rfl 5 (by decide) lk_X4_25 rfl hA rfl dX4_isLike_56 ?_
  refine lv_aload_n hx hb dX4_isLike_59 rfl (lv_at hl 1 rfl) ?_
  refine hs_get hC hW hi_X4 rfl 5 (by decide) lk_X4_25 rfl hB rfl dX4_isLike_60 ?_
  refine lv_icmp_ne (tgt := 81) hx hb dX4_isLike_63 (by decide) (fun c63 => ?_) (fun c63 => ?_)
  · refine lv_iconst (v := 0) hx hb dX4_isLike_81 (by decide) ?_
    exact hs_zret hC hW hL hr hlocks (by decide) (by decide) dX4_isLike_82 (by rfl) ⟨_, ⟨rfl, rfl, rfl, rfl⟩, by first | exact Or.inl rfl | exact Or.inr rfl⟩
  refine lv_aload_n hx hb dX4_isLike_66 rfl (lv_at hl 0 rfl) ?_
  refine hs_get hC hW hi_X4 rfl 6 (by decide) lk_X4_28 rfl hA rfl dX4_isLike_67 ?_
  refine lv_aload_n hx hb dX4_isLike_70 rfl (lv_at hl 1 rfl) ?_
  refine hs_get hC hW hi_X4 rfl 6 (by decide) lk_X4_28 rfl hB rfl dX4_isLike_71 ?_
  refine lv_icmp_ne (tgt := 81) hx hb dX4_isLike_74 (by decide) (fun c74 => ?_) (fun c74 => ?_)
  · refine lv_iconst (v := 0) hx hb dX4_isLike_81 (by decide) ?_
    exact hs_zret hC hW hL hr hlocks (by decide) (by decide) dX4_isLike_82 (by rfl) ⟨_, ⟨rfl, rfl, rfl, rfl⟩, by first | exact Or.inl rfl | exact Or.inr rfl⟩
  refine lv_iconst (v := 1) hx hb dX4_isLike_77 (by decide) ?_
  refine lv_goto (tgt := 82) hx hb dX4_isLike_78 (by decide) ?_
  exact hs_zret hC hW hL hr hlocks (by decide) (by decide) dX4_isLike_82 (by rfl) ⟨_, ⟨rfl, rfl, rfl, rfl⟩, by first | exact Or.inl rfl | exact Or.inr rfl⟩
