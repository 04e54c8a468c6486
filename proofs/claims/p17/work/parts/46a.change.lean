/-! the class: what a trade and a group change -/
section HS46a
variable {p : Program} {l : Launch} {e : Env} {R : Room} {s : State} {m : MethodId} {args : Array Value} {below : List Frame} {meth : Method} {c : Code} {cells slots : Nat} {Q : State → Prop} {pc : Nat} {ls : Array Slot} {rest : List Value} {D : va_G} {cl : List vw_C} {H0 : Heap} {rm : Room}
theorem hs_keJ {P : Int64 → Prop} {G : hs_G} (kk : ∀ (x : Int64) (H1 : Heap) (locs1 : List Loc), P x → hs_W D cl H0 G H1 → (∀ q ∈ locs1, H0.size ≤ q.base) → W p l e R s m args below meth c H1 locs1 cells slots Q (F0 m (pc + 3) ls (.long x :: rest))) : hs_Kr D cl H0 (fun r G1 k n => ∃ x : Int64, hs_pu (some (.long x)) G r G1 k n ∧ P x) rm p l e R s m args below meth c cells slots Q pc ls rest := by
  refine ⟨?_, ?_⟩
  · rintro v G1 k n H1 locs1 ⟨x, ⟨h1, rfl, rfl, rfl⟩, hP⟩ h3 h4 h5 h6
    cases h1
    exact kk x H1 locs1 hP h5 h6
  · rintro C x G1 k n H1 locs1 ⟨y, ⟨h1, -⟩, -⟩
    cases h1
end HS46a
theorem ch_c {p de re se : Nat} {am q : Int} {A B : Int64} (h : 0 ≤ am ∧ am ≤ 1000000000) (hA : A.toInt = if p = de then am else 0) (hB : B.toInt = if p = re then am else 0) : (0 + A - B).toInt = tc de re se q am p 0 := by
  have b1 : 0 ≤ A.toInt ∧ A.toInt ≤ 1000000000 := by rw [hA]; split <;> omega
  have b2 : 0 ≤ B.toInt ∧ B.toInt ≤ 1000000000 := by rw [hB]; split <;> omega
  rw [Int64.zero_add, i64_sub (by omega) (by omega), hA, hB]
  unfold tc
  rw [if_pos rfl]
  split <;> split <;> omega
theorem ch_s {p de re se : Nat} {am q : Int} {A B : Int64} (h : 0 ≤ q ∧ q ≤ 1000000) (hA : A.toInt = if p = re then q else 0) (hB : B.toInt = if p = de then q else 0) : (0 + A - B).toInt = tc de re se q am p (se + 1) := by
  have b1 : 0 ≤ A.toInt ∧ A.toInt ≤ 1000000000 := by rw [hA]; split <;> omega
  have b2 : 0 ≤ B.toInt ∧ B.toInt ≤ 1000000000 := by rw [hB]; split <;> omega
  rw [Int64.zero_add, i64_sub (by omega) (by omega), hA, hB]
  unfold tc
  rw [if_neg (show ¬ se + 1 = 0 by omega), if_pos rfl]
  split <;> split <;> omega
theorem ch_n {p de re se i : Nat} {am q : Int} (h0 : i ≠ 0) (h1 : i ≠ se + 1) : (0 : Int64).toInt = tc de re se q am p i := by
  unfold tc
  rw [if_neg h0, if_neg h1]
  rfl
theorem ch_y {p de : Nat} {x : Int32} (hp : p < 16) (hd : de < 16) (c : nI p = nI de) : x.toInt64.toInt = if p = de then x.toInt else 0 := by
  rw [if_pos ((dt_nI (by omega) (by omega)).mp c), Int32.toInt_toInt64]
theorem ch_z {p de : Nat} {x : Int} (hp : p < 16) (hd : de < 16) (c : ¬ nI p = nI de) : (0 : Int64).toInt = if p = de then x else 0 := by
  rw [if_neg (fun z => c (by rw [z]))]
  rfl
theorem ch_0 {i : Nat} (hi : i < 9) : (nI i - 1 = (-1 : Int32)) ↔ i = 0 := by
  have key : ∀ i : Fin 9, (nI i.val - 1 = (-1 : Int32)) ↔ i.val = 0 := by decide +kernel
  exact key ⟨i, hi⟩
theorem ch_1 {i se : Nat} (hi : i < 9) (hs : se < 8) : (nI i - 1 = nI se) ↔ i = se + 1 := by
  have key : ∀ (i : Fin 9) (s : Fin 8), (nI i.val - 1 = nI s.val) ↔ i.val = s.val + 1 := by decide +kernel
  exact key ⟨i, hi⟩ ⟨se, hs⟩
set_option maxHeartbeats 4000000 in
set_option maxRecDepth 100000 in
/-- Trade.change -/
theorem ct_X5_change (E : hs_E) (t : cl_t) (cap X : Nat → Nat) (d : Nat) (G : hs_G) (hT : cl_T E t cap X d G) (a : Nat) (ha : t a = some (50, 0)) (pa i : Nat) (hpa : pa < 16) (hi : i < 9) : hM E yX5_change ({ frames := 0, cells := 0, slots := 0, locals := 0 }) [.ref a, .int (nI pa), .int (nI i - 1)] G (fun r G1 k n => ∃ x : Int64, hs_pu (some (.long x)) G r G1 k n ∧ x.toInt = tcG G a pa i ∧ -1000000000 ≤ tcG G a pa i ∧ tcG G a pa i ≤ 1000000000) := by
  refine hs_ofW (cc := cX5_change) (maxL := 5) (ret := (some .long)) (by decide) co_X5_change ?_
  intro p e s m args below meth c hC hlocks hr hin0 hnoh hW
  obtain ⟨hx, hb, hml, hown, hts, -⟩ := id hC
  have hE := hW
  have hL : ∀ q ∈ ([] : List Loc), (eH E).size ≤ q.base := fun q hq => nomatch hq
  have hl := lv_entry ([.ref a, .int (nI pa), .int (nI i - 1)] : List Value) (n := 5) (Nat.le_of_ble_eq_true rfl)
  rw [lg_entry_eq]
  generalize (lg_sl [.ref a, .int (nI pa), .int (nI i - 1)] ++ List.replicate (5 - (lg_sl [.ref a, .int (nI pa), .int (nI i - 1)]).length) Slot.unset).toArray = ls at hl ⊢
  have hl : lv_has ls 5 [(0, .ref a), (1, .int (nI pa)), (2, .int (nI i - 1))] := hl
  obtain ⟨nu9, te9, t9, s8, s9, st9, du9, ql9, am9, fa9, pr9, ip9, g9, hX, ht1, ht2, ht3, hg9⟩ := hT.tr ha
  obtain ⟨de9, re9, se9, qq9, aa9, dy9, lg9, hTe, hde, hre, hse, hdy, hlg⟩ := hT.te ht1
  have hb9 := hT.b ha _ _ _ _ _ _ _ _ _ _ _ _ _ hX
  refine lv_lconst (v := 0) hx hb dX5_change_0 (by decide) ?_
  refine lv_lstore_n (lv' := [(3, .long _), (0, .ref _), (1, .int _), (2, .int _)]) hx hb dX5_change_1 rfl hl (by decide) rfl (fun ls hl => ?_)
  refine lv_iload_n hx hb dX5_change_2 rfl (lv_at hl 3 rfl) ?_
  refine lv_iconst (v := (-1)) hx hb dX5_change_3 (by decide) ?_
  refine lv_icmp_ne (tgt := 56) hx hb dX5_change_4 (by decide) (fun c4 => ?_) (fun c4 => ?_)
  · refine lv_iload_n hx hb dX5_change_56 rfl (lv_at hl 3 rfl) ?_
    refine lv_aload_n hx hb dX5_change_57 rfl (lv_at hl 1 rfl) ?_
    refine hs_get hC hW hi_X5 rfl 2 (by decide) lk_X5_48 rfl hX rfl dX5_change_58 ?_
    refine hs_getN hC hW hi_X4 rfl 2 (by decide) lk_X5_84 rfl hTe rfl dX5_change_61 ?_
    refine lv_icmp_ne (tgt := 113) hx hb dX5_change_64 (by decide) (fun c64 => ?_) (fun c64 => ?_)
    · refine lv_lload_n hx hb dX5_change_113 rfl (lv_at hl 0 rfl) ?_
      exact hs_lret hC hW hL hr hlocks (by decide) (by decide) dX5_change_114 ⟨_, ⟨rfl, rfl, rfl, rfl⟩, (by rw [tcG_at hX hTe hde hre hse]; exact ch_n (fun z => c4 ((ch_0 hi).mpr z)) (fun z => c64 ((ch_1 hi hse).mpr z))), by rw [tcG_at hX hTe hde hre hse]; exact tc_bd ⟨hb9.1, hb9.2.1⟩ ⟨hb9.2.2.1, hb9.2.2.2⟩ _ _⟩
    refine lv_lload_n hx hb dX5_change_67 rfl (lv_at hl 0 rfl) ?_
    refine lv_iload_n hx hb dX5_change_68 rfl (lv_at hl 2 rfl) ?_
    refine lv_aload_n hx hb dX5_change_69 rfl (lv_at hl 1 rfl) ?_
    refine hs_get hC hW hi_X5 rfl 2 (by decide) lk_X5_48 rfl hX rfl dX5_change_70 ?_
    refine hs_getN hC hW hi_X4 rfl 1 (by decide) lk_X5_81 rfl hTe rfl dX5_change_73 ?_
    refine lv_icmp_ne (tgt := 87) hx hb dX5_change_76 (by decide) (fun c76 => ?_) (fun c76 => ?_)
    · refine lv_lconst (v := 0) hx hb dX5_change_87 (by decide) ?_
      refine lv_ladd hx hb dX5_change_88 ?_
      refine lv_lstore_n (lv' := [(3, .long _), (0, .ref _), (1, .int _), (2, .int _)]) hx hb dX5_change_89 rfl hl (by decide) rfl (fun ls hl => ?_)
      refine lv_lload_n hx hb dX5_change_90 rfl (lv_at hl 0 rfl) ?_
      refine lv_iload_n hx hb dX5_change_91 rfl (lv_at hl 2 rfl) ?_
      refine lv_aload_n hx hb dX5_change_92 rfl (lv_at hl 1 rfl) ?_
      refine hs_get hC hW hi_X5 rfl 2 (by decide) lk_X5_48 rfl hX rfl dX5_change_93 ?_
      refine hs_getN hC hW hi_X4 rfl 0 (by decide) lk_X5_78 rfl hTe rfl dX5_change_96 ?_
      refine lv_icmp_ne (tgt := 110) hx hb dX5_change_99 (by decide) (fun c99 => ?_) (fun c99 => ?_)
      · refine lv_lconst (v := 0) hx hb dX5_change_110 (by decide) ?_
        refine lv_lsub hx hb dX5_change_111 ?_
        refine lv_lstore_n (lv' := [(3, .long _), (0, .ref _), (1, .int _), (2, .int _)]) hx hb dX5_change_112 rfl hl (by decide) rfl (fun ls hl => ?_)
        refine lv_lload_n hx hb dX5_change_113 rfl (lv_at hl 0 rfl) ?_
        exact hs_lret hC hW hL hr hlocks (by decide) (by decide) dX5_change_114 ⟨_, ⟨rfl, rfl, rfl, rfl⟩, (by rw [tcG_at hX hTe hde hre hse]; obtain rfl := (ch_1 hi hse).mp c64; exact ch_s ⟨hb9.1, hb9.2.1⟩ (by first | exact ch_y hpa hre c76 | exact ch_z hpa hre c76) (by first | exact ch_y hpa hde c99 | exact ch_z hpa hde c99)), by rw [tcG_at hX hTe hde hre hse]; exact tc_bd ⟨hb9.1, hb9.2.1⟩ ⟨hb9.2.2.1, hb9.2.2.2⟩ _ _⟩
      refine lv_aload_n hx hb dX5_change_102 rfl (lv_at hl 1 rfl) ?_
      refine hs_get hC hW hi_X5 rfl 7 (by decide) lk_X5_57 rfl hX rfl dX5_change_103 ?_
      refine lv_i2l hx hb dX5_change_106 rfl ?_
      refine lv_goto (tgt := 111) hx hb dX5_change_107 (by decide) ?_
      refine lv_lsub hx hb dX5_change_111 ?_
      refine lv_lstore_n (lv' := [(3, .long _), (0, .ref _), (1, .int _), (2, .int _)]) hx hb dX5_change_112 rfl hl (by decide) rfl (fun ls hl => ?_)
      refine lv_lload_n hx hb dX5_change_113 rfl (lv_at hl 0 rfl) ?_
      exact hs_lret hC hW hL hr hlocks (by decide) (by decide) dX5_change_114 ⟨_, ⟨rfl, rfl, rfl, rfl⟩, (by rw [tcG_at hX hTe hde hre hse]; obtain rfl := (ch_1 hi hse).mp c64; exact ch_s ⟨hb9.1, hb9.2.1⟩ (by first | exact ch_y hpa hre c76 | exact ch_z hpa hre c76) (by first | exact ch_y hpa hde c99 | exact ch_z hpa hde c99)), by rw [tcG_at hX hTe hde hre hse]; exact tc_bd ⟨hb9.1, hb9.2.1⟩ ⟨hb9.2.2.1, hb9.2.2.2⟩ _ _⟩
    refine lv_aload_n hx hb dX5_change_79 rfl (lv_at hl 1 rfl) ?_
    refine hs_get hC hW hi_X5 rfl 7 (by decide) lk_X5_57 rfl hX rfl dX5_change_80 ?_
    refine lv_i2l hx hb dX5_change_83 rfl ?_
    refine lv_goto (tgt := 88) hx hb dX5_change_84 (by decide) ?_
    refine lv_ladd hx hb dX5_change_88 ?_
    refine lv_lstore_n (lv' := [(3, .long _), (0, .ref _), (1, .int _), (2, .int _)]) hx hb dX5_change_89 rfl hl (by decide) rfl (fun ls hl => ?_)
    refine lv_lload_n hx hb dX5_change_90 rfl (lv_at hl 0 rfl) ?_
    refine lv_iload_n hx hb dX5_change_91 rfl (lv_at hl 2 rfl) ?_
    refine lv_aload_n hx hb dX5_change_92 rfl (lv_at hl 1 rfl) ?_
    refine hs_get hC hW hi_X5 rfl 2 (by decide) lk_X5_48 rfl hX rfl dX5_change_93 ?_
    refine hs_getN hC hW hi_X4 rfl 0 (by decide) lk_X5_78 rfl hTe rfl dX5_change_96 ?_
    refine lv_icmp_ne (tgt := 110) hx hb dX5_change_99 (by decide) (fun c99 => ?_) (fun c99 => ?_)
    · refine lv_lconst (v := 0) hx hb dX5_change_110 (by decide) ?_
      refine lv_lsub hx hb dX5_change_111 ?_
      refine lv_lstore_n (lv' := [(3, .long _), (0, .ref _), (1, .int _), (2, .int _)]) hx hb dX5_change_112 rfl hl (by decide) rfl (fun ls hl => ?_)
      refine lv_lload_n hx hb dX5_change_113 rfl (lv_at hl 0 rfl) ?_
      exact hs_lret hC hW hL hr hlocks (by decide) (by decide) dX5_change_114 ⟨_, ⟨rfl, rfl, rfl, rfl⟩, (by rw [tcG_at hX hTe hde hre hse]; obtain rfl := (ch_1 hi hse).mp c64; exact ch_s ⟨hb9.1, hb9.2.1⟩ (by first | exact ch_y hpa hre c76 | exact ch_z hpa hre c76) (by first | exact ch_y hpa hde c99 | exact ch_z hpa hde c99)), by rw [tcG_at hX hTe hde hre hse]; exact tc_bd ⟨hb9.1, hb9.2.1⟩ ⟨hb9.2.2.1, hb9.2.2.2⟩ _ _⟩
    refine lv_aload_n hx hb dX5_change_102 rfl (lv_at hl 1 rfl) ?_
    refine hs_get hC hW hi_X5 rfl 7 (by decide) lk_X5_57 rfl hX rfl dX5_change_103 ?_
    refine lv_i2l hx hb dX5_change_106 rfl ?_
    refine lv_goto (tgt := 111) hx hb dX5_change_107 (by decide) ?_
    refine lv_lsub hx hb dX5_change_111 ?_
    refine lv_lstore_n (lv' := [(3, .long _), (0, .ref _), (1, .int _), (2, .int _)]) hx hb dX5_change_112 rfl hl (by decide) rfl (fun ls hl => ?_)
    refine lv_lload_n hx hb dX5_change_113 rfl (lv_at hl 0 rfl) ?_
    exact hs_lret hC hW hL hr hlocks (by decide) (by decide) dX5_change_114 ⟨_, ⟨rfl, rfl, rfl, rfl⟩, (by rw [tcG_at hX hTe hde hre hse]; obtain rfl := (ch_1 hi hse).mp c64; exact ch_s ⟨hb9.1, hb9.2.1⟩ (by first | exact ch_y hpa hre c76 | exact ch_z hpa hre c76) (by first | exact ch_y hpa hde c99 | exact ch_z hpa hde c99)), by rw [tcG_at hX hTe hde hre hse]; exact tc_bd ⟨hb9.1, hb9.2.1⟩ ⟨hb9.2.2.1, hb9.2.2.2⟩ _ _⟩
  refine lv_lload_n hx hb dX5_change_7 rfl (lv_at hl 0 rfl) ?_
  refine lv_iload_n hx hb dX5_change_8 rfl (lv_at hl 2 rfl) ?_
  refine lv_aload_n hx hb dX5_change_9 rfl (lv_at hl 1 rfl) ?_
  refine hs_get hC hW hi_X5 rfl 2 (by decide) lk_X5_48 rfl hX rfl dX5_change_10 ?_
  refine hs_getN hC hW hi_X4 rfl 0 (by decide) lk_X5_78 rfl hTe rfl dX5_change_13 ?_
  refine lv_icmp_ne (tgt := 27) hx hb dX5_change_16 (by decide) (fun c16 => ?_) (fun c16 => ?_)
  · refine lv_lconst (v := 0) hx hb dX5_change_27 (by decide) ?_
    refine lv_ladd hx hb dX5_change_28 ?_
    refine lv_lstore_n (lv' := [(3, .long _), (0, .ref _), (1, .int _), (2, .int _)]) hx hb dX5_change_29 rfl hl (by decide) rfl (fun ls hl => ?_)
    refine lv_lload_n hx hb dX5_change_30 rfl (lv_at hl 0 rfl) ?_
    refine lv_iload_n hx hb dX5_change_31 rfl (lv_at hl 2 rfl) ?_
    refine lv_aload_n hx hb dX5_change_32 rfl (lv_at hl 1 rfl) ?_
    refine hs_get hC hW hi_X5 rfl 2 (by decide) lk_X5_48 rfl hX rfl dX5_change_33 ?_
    refine hs_getN hC hW hi_X4 rfl 1 (by decide) lk_X5_81 rfl hTe rfl dX5_change_36 ?_
    refine lv_icmp_ne (tgt := 50) hx hb dX5_change_39 (by decide) (fun c39 => ?_) (fun c39 => ?_)
    · refine lv_lconst (v := 0) hx hb dX5_change_50 (by decide) ?_
      refine lv_lsub hx hb dX5_change_51 ?_
      refine lv_lstore_n (lv' := [(3, .long _), (0, .ref _), (1, .int _), (2, .int _)]) hx hb dX5_change_52 rfl hl (by decide) rfl (fun ls hl => ?_)
      refine lv_goto (tgt := 113) hx hb dX5_change_53 (by decide) ?_
      refine lv_lload_n hx hb dX5_change_113 rfl (lv_at hl 0 rfl) ?_
      exact hs_lret hC hW hL hr hlocks (by decide) (by decide) dX5_change_114 ⟨_, ⟨rfl, rfl, rfl, rfl⟩, (by rw [tcG_at hX hTe hde hre hse]; obtain rfl := (ch_0 hi).mp c4; exact ch_c ⟨hb9.2.2.1, hb9.2.2.2⟩ (by first | exact ch_y hpa hde c16 | exact ch_z hpa hde c16) (by first | exact ch_y hpa hre c39 | exact ch_z hpa hre c39)), by rw [tcG_at hX hTe hde hre hse]; exact tc_bd ⟨hb9.1, hb9.2.1⟩ ⟨hb9.2.2.1, hb9.2.2.2⟩ _ _⟩
    refine lv_aload_n hx hb dX5_change_42 rfl (lv_at hl 1 rfl) ?_
    refine hs_get hC hW hi_X5 rfl 8 (by decide) lk_X5_63 rfl hX rfl dX5_change_43 ?_
    refine lv_i2l hx hb dX5_change_46 rfl ?_
    refine lv_goto (tgt := 51) hx hb dX5_change_47 (by decide) ?_
    refine lv_lsub hx hb dX5_change_51 ?_
    refine lv_lstore_n (lv' := [(3, .long _), (0, .ref _), (1, .int _), (2, .int _)]) hx hb dX5_change_52 rfl hl (by decide) rfl (fun ls hl => ?_)
    refine lv_goto (tgt := 113) hx hb dX5_change_53 (by decide) ?_
    refine lv_lload_n hx hb dX5_change_113 rfl (lv_at hl 0 rfl) ?_
    exact hs_lret hC hW hL hr hlocks (by decide) (by decide) dX5_change_114 ⟨_, ⟨rfl, rfl, rfl, rfl⟩, (by rw [tcG_at hX hTe hde hre hse]; obtain rfl := (ch_0 hi).mp c4; exact ch_c ⟨hb9.2.2.1, hb9.2.2.2⟩ (by first | exact ch_y hpa hde c16 | exact ch_z hpa hde c16) (by first | exact ch_y hpa hre c39 | exact ch_z hpa hre c39)), by rw [tcG_at hX hTe hde hre hse]; exact tc_bd ⟨hb9.1, hb9.2.1⟩ ⟨hb9.2.2.1, hb9.2.2.2⟩ _ _⟩
  refine lv_aload_n hx hb dX5_change_19 rfl (lv_at hl 1 rfl) ?_
  refine hs_get hC hW hi_X5 rfl 8 (by decide) lk_X5_63 rfl hX rfl dX5_change_20 ?_
  refine lv_i2l hx hb dX5_change_23 rfl ?_
  refine lv_goto (tgt := 28) hx hb dX5_change_24 (by decide) ?_
  refine lv_ladd hx hb dX5_change_28 ?_
  refine lv_lstore_n (lv' := [(3, .long _), (0, .ref _), (1, .int _), (2, .int _)]) hx hb dX5_change_29 rfl hl (by decide) rfl (fun ls hl => ?_)
  refine lv_lload_n hx hb dX5_change_30 rfl (lv_at hl 0 rfl) ?_
  refine lv_iload_n hx hb dX5_change_31 rfl (lv_at hl 2 rfl) ?_
  refine lv_aload_n hx hb dX5_change_32 rfl (lv_at hl 1 rfl) ?_
  refine hs_get hC hW hi_X5 rfl 2 (by decide) lk_X5_48 rfl hX rfl dX5_change_33 ?_
  refine hs_getN hC hW hi_X4 rfl 1 (by decide) lk_X5_81 rfl hTe rfl dX5_change_36 ?_
  refine lv_icmp_ne (tgt := 50) hx hb dX5_change_39 (by decide) (fun c39 => ?_) (fun c39 => ?_)
  · refine lv_lconst (v := 0) hx hb dX5_change_50 (by decide) ?_
    refine lv_lsub hx hb dX5_change_51 ?_
    refine lv_lstore_n (lv' := [(3, .long _), (0, .ref _), (1, .int _), (2, .int _)]) hx hb dX5_change_52 rfl hl (by decide) rfl (fun ls hl => ?_)
    refine lv_goto (tgt := 113) hx hb dX5_change_53 (by decide) ?_
    refine lv_lload_n hx hb dX5_change_113 rfl (lv_at hl 0 rfl) ?_
    exact hs_lret hC hW hL hr hlocks (by decide) (by decide) dX5_change_114 ⟨_, ⟨rfl, rfl, rfl, rfl⟩, (by rw [tcG_at hX hTe hde hre hse]; obtain rfl := (ch_0 hi).mp c4; exact ch_c ⟨hb9.2.2.1, hb9.2.2.2⟩ (by first | exact ch_y hpa hde c16 | exact ch_z hpa hde c16) (by first | exact ch_y hpa hre c39 | exact ch_z hpa hre c39)), by rw [tcG_at hX hTe hde hre hse]; exact tc_bd ⟨hb9.1, hb9.2.1⟩ ⟨hb9.2.2.1, hb9.2.2.2⟩ _ _⟩
  refine lv_aload_n hx hb dX5_change_42 rfl (lv_at hl 1 rfl) ?_
  refine hs_get hC hW hi_X5 rfl 8 (by decide) lk_X5_63 rfl hX rfl dX5_change_43 ?_
  refine lv_i2l hx hb dX5_change_46 rfl ?_
  refine lv_goto (tgt := 51) hx hb dX5_change_47 (by decide) ?_
  refine lv_lsub hx hb dX5_change_51 ?_
  refine lv_lstore_n (lv' := [(3, .long _), (0, .ref _), (1, .int _), (2, .int _)]) hx hb dX5_change_52 rfl hl (by decide) rfl (fun ls hl => ?_)
  refine lv_goto (tgt := 113) hx hb dX5_change_53 (by decide) ?_
  refine lv_lload_n hx hb dX5_change_113 rfl (lv_at hl 0 rfl) ?_
  exact hs_lret hC hW hL hr hlocks (by decide) (by decide) dX5_change_114 ⟨_, ⟨rfl, rfl, rfl, rfl⟩, (by rw [tcG_at hX hTe hde hre hse]; obtain rfl := (ch_0 hi).mp c4; exact ch_c ⟨hb9.2.2.1, hb9.2.2.2⟩ (by first | exact ch_y hpa hde c16 | exact ch_z hpa hde c16) (by first | exact ch_y hpa hre c39 | exact ch_z hpa hre c39)), by rw [tcG_at hX hTe hde hre hse]; exact tc_bd ⟨hb9.1, hb9.2.1⟩ ⟨hb9.2.2.1, hb9.2.2.2⟩ _ _⟩
set_option maxHeartbeats 4000000 in
set_option maxRecDepth 100000 in
/-- Group.changeOf -/
theorem ct_X1_changeOf (E : hs_E) (t : cl_t) (cap X : Nat → Nat) (d : Nat) (G : hs_G) (hT : cl_T E t cap X d G) (g L A sz : Nat) (mc : Int32) (f : Nat → Option Nat) (hGr : G g = some (.inr (2, [.ref L]))) (hLo : G L = some (al_o mc A (nI sz))) (hLa : G A = some (al_a E (cap L) f)) (hsc : sz ≤ cap L) (hmx : sz ≤ 6) (hcp : cap L ≤ 223) (hel : ∀ j, j < sz → ∃ x : Nat, f j = some x ∧ t x = some (50, 0)) (pa i : Nat) (hpa : pa < 16) (hi : i < 9) : hM E yX1_changeOf ({ frames := 3, cells := 0, slots := 0, locals := 90 }) [.ref g, .int (nI pa), .int (nI i - 1)] G (fun r G1 k n => ∃ x : Int64, hs_pu (some (.long x)) G r G1 k n ∧ x.toInt = tsum G f pa i sz ∧ -6000000000 ≤ x.toInt ∧ x.toInt ≤ 6000000000) := by
  refine hs_ofW (cc := cX1_changeOf) (maxL := 6) (ret := (some .long)) (by decide) co_X1_changeOf ?_
  intro p e s m args below meth c hC hlocks hr hin0 hnoh hW
  obtain ⟨hx, hb, hml, hown, hts, -⟩ := id hC
  have hE := hW
  have hL : ∀ q ∈ ([] : List Loc), (eH E).size ≤ q.base := fun q hq => nomatch hq
  have hl := lv_entry ([.ref g, .int (nI pa), .int (nI i - 1)] : List Value) (n := 6) (Nat.le_of_ble_eq_true rfl)
  rw [lg_entry_eq]
  generalize (lg_sl [.ref g, .int (nI pa), .int (nI i - 1)] ++ List.replicate (6 - (lg_sl [.ref g, .int (nI pa), .int (nI i - 1)]).length) Slot.unset).toArray = ls at hl ⊢
  have hl : lv_has ls 6 [(0, .ref g), (1, .int (nI pa)), (2, .int (nI i - 1))] := hl
  refine lv_lconst (v := 0) hx hb dX1_changeOf_0 (by decide) ?_
  refine lv_lstore_n (lv' := [(3, .long _), (0, .ref _), (1, .int _), (2, .int _)]) hx hb dX1_changeOf_1 rfl hl (by decide) rfl (fun ls hl => ?_)
  refine lv_iconst (v := 0) hx hb dX1_changeOf_2 (by decide) ?_
  refine lv_istore (lv' := [(5, .int _), (3, .long _), (0, .ref _), (1, .int _), (2, .int _)]) hx hb dX1_changeOf_3 hl (by decide) rfl (fun ls hl => ?_)
  refine hs_loop (σ := Nat × Int64) (fun x => match x with | (j, su) => sz - j) (fun x H locs ls => match x with | (j, su) => (j ≤ sz ∧ su.toInt = tsum G f pa i j ∧ -(1000000000 * (j : Int)) ≤ su.toInt ∧ su.toInt ≤ 1000000000 * (j : Int)) ∧ hs_W (eD E) vwCl (eH E) (G) H ∧ (∀ q ∈ locs, (eH E).size ≤ q.base) ∧ lv_has ls 6 [(0, .ref g), (1, .int (nI pa)), (2, .int (nI i - 1)), (3, .long su), (5, .int (nI j))]) ?_ (0, 0) _ _ _ ⟨⟨Nat.zero_le _, rfl, by decide, by decide⟩, hW, hL, (lv_sub hl [2, 3, 4, 1, 0] rfl)⟩
  rintro ⟨j, su⟩ H locs ls ⟨hinv, hW, hL, hl⟩ ih
  replace hW : hs_W (eD E) vwCl (eH E) (G) H := hW
  replace hl : lv_has ls 6 [(0, .ref g), (1, .int (nI pa)), (2, .int (nI i - 1)), (3, .long su), (5, .int (nI j))] := hl
  refine lv_iload hx hb dX1_changeOf_5 (lv_at hl 4 rfl) ?_
  refine lv_aload_n hx hb dX1_changeOf_7 rfl (lv_at hl 0 rfl) ?_
  refine hs_get hC hW hi_X1 rfl 0 (by decide) lk_X1_10 rfl hGr rfl dX1_changeOf_8 ?_
  refine hs_callV hC hs_Tok hW hL (ct_size E G L A sz mc hLo) cw_Jx4a65c_size_8abf5 lk_X1_16 im_Jx4a65c_size_8abf5 se_Jx4a65c_size_8abf5 (hs_recv hC hW hLo rfl) hl.1 (by decide) (Nat.le_of_ble_eq_true rfl) dX1_changeOf_11 (hs_kp1 (fun H locs hW hL => ?_))
  refine lv_icmp_ge (tgt := 43) hx hb dX1_changeOf_14 (by decide) (fun c14 => ?_) (fun c14 => ?_)
  · have hj8 : j = sz := Nat.le_antisymm hinv.1 ((nI_leI (by omega) (by omega)).mp c14)
    refine lv_lload_n hx hb dX1_changeOf_43 rfl (lv_at hl 3 rfl) ?_
    exact hs_lret hC hW hL hr hlocks (by decide) (by decide) dX1_changeOf_44 ⟨_, ⟨rfl, rfl, rfl, rfl⟩, by rw [hinv.2.1, hj8], by omega, by omega⟩
  have hlt : j < sz := Nat.not_le.mp fun z => c14 ((nI_leI (by omega) (by omega)).mpr z)
  obtain ⟨x9, hfx, htx⟩ := hel j hlt
  obtain ⟨nu9, te9, t9, s8, s9, st9, du9, ql9, am9, fa9, pr9, ip9, g9, hX, ht1, ht2, ht3, hg9⟩ := hT.tr htx
  refine lv_lload_n hx hb dX1_changeOf_17 rfl (lv_at hl 3 rfl) ?_
  refine lv_aload_n hx hb dX1_changeOf_18 rfl (lv_at hl 0 rfl) ?_
  refine hs_get hC hW hi_X1 rfl 0 (by decide) lk_X1_10 rfl hGr rfl dX1_changeOf_19 ?_
  refine lv_iload hx hb dX1_changeOf_22 (lv_at hl 4 rfl) ?_
  refine hs_callV hC hs_Tok hW hL (ct_get E G L A sz mc hLo (cap L) f hLa (by omega) j x9 hlt hsc hfx) cw_Jx4a65c_get_915e3 lk_X1_20 im_Jx4a65c_get_915e3 se_Jx4a65c_get_915e3 (hs_recv hC hW hLo rfl) hl.1 (by decide) (Nat.le_of_ble_eq_true rfl) dX1_changeOf_24 (hs_kp1 (fun H locs hW hL => ?_))
  refine hs_cast hC hW lk_X1_24 ca_X5_X5 hX rfl dX1_changeOf_27 ?_
  refine lv_iload_n hx hb dX1_changeOf_30 rfl (lv_at hl 1 rfl) ?_
  refine lv_iload_n hx hb dX1_changeOf_31 rfl (lv_at hl 2 rfl) ?_
  refine hs_callVN hC hs_Tok hW hL (ct_X5_change E t cap X d G hT x9 htx pa i hpa hi) cw_X5_change lk_X1_61 im_X5_change se_X5_change (hs_recv hC hW hX rfl) hl.1 (by decide) (Nat.le_of_ble_eq_true rfl) dX1_changeOf_32 (hs_keJ (fun x H locs hJx hW hL => ?_))
  refine lv_ladd hx hb dX1_changeOf_35 ?_
  refine lv_lstore_n (lv' := [(3, .long _), (0, .ref _), (1, .int _), (2, .int _), (5, .int _)]) hx hb dX1_changeOf_36 rfl hl (by decide) rfl (fun ls hl => ?_)
  refine lv_iinc (lv' := [(5, .int _), (3, .long _), (0, .ref _), (1, .int _), (2, .int _)]) hx hb dX1_changeOf_37 hl (k := 4) rfl rfl (by decide) rfl (fun ls hl => ?_)
  refine lv_goto (tgt := 5) hx hb dX1_changeOf_40 (by decide) ?_
  rw [hs_inc] at hl
  obtain ⟨hx1, hx2, hx3⟩ := hJx
  have hs9 : (su + x).toInt = tsum G f pa i (j + 1) := by (rw [i64_add (by omega) (by omega), hinv.2.1, hx1]); (show _ = tsum G f pa i j + (match f j with | some x => tcG G x pa i | none => 0)); rw [hfx]
  have hs8 : (su + x).toInt = su.toInt + x.toInt := i64_add (by omega) (by omega)
  exact ih (j + 1, _) _ _ _ (by show sz - (j + 1) < sz - j; omega) ⟨⟨by omega, hs9, by omega, by omega⟩, hW, hL, (lv_sub hl [2, 3, 4, 1, 0] rfl)⟩
