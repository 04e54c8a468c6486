/-! the class: tell -/
section HS57
variable {p : Program} {l : Launch} {e : Env} {R : Room} {s : State} {m : MethodId} {args : Array Value} {below : List Frame} {meth : Method} {c : Code} {cells slots : Nat} {Q : State → Prop} {pc : Nat} {ls : Array Slot} {rest : List Value} {D : va_G} {cl : List vw_C} {H0 : Heap} {rm : Room}
theorem hs_kN {G : hs_G} {P : Nat → Prop} (k0 : ∀ (H1 : Heap) (locs1 : List Loc), hs_W D cl H0 G H1 → (∀ q ∈ locs1, H0.size ≤ q.base) → W p l e R s m args below meth c H1 locs1 cells slots Q (F0 m (pc + 3) ls (.null :: rest))) (k1 : ∀ (x : Nat), P x → ∀ (H1 : Heap) (locs1 : List Loc), hs_W D cl H0 G H1 → (∀ q ∈ locs1, H0.size ≤ q.base) → W p l e R s m args below meth c H1 locs1 cells slots Q (F0 m (pc + 3) ls (.ref x :: rest))) :
    hs_Kr D cl H0 (fun r G1 k n => G1 = G ∧ k = 0 ∧ n = 0 ∧ (r = .inl (some .null) ∨ ∃ x : Nat, r = .inl (some (.ref x)) ∧ P x)) rm p l e R s m args below meth c cells slots Q pc ls rest := by
  refine ⟨?_, ?_⟩
  · rintro v G1 k n H1 locs1 ⟨rfl, rfl, rfl, h1 | ⟨x, h1, hP⟩⟩ - - h5 h6
    · cases h1
      exact k0 H1 locs1 h5 h6
    · cases h1
      exact k1 x hP H1 locs1 h5 h6
  · rintro C x G1 k n H1 locs1 ⟨-, -, -, h1 | ⟨y, h1, -⟩⟩
    · cases h1
    · cases h1
end HS57
theorem al_S3 {G : hs_G} {q r1 r2 : Nat} {a b c e : va_E} (h1 : r1 ≠ q) (h2 : r2 ≠ q) : hs_up (hs_up (hs_up (hs_up G q a) r1 b) r2 c) q e = hs_up (hs_up (hs_up G r1 b) r2 c) q e := by
  rw [hs_up_sw _ h1.symm, hs_up_sw _ h2.symm, hs_up_up]
set_option maxHeartbeats 4000000 in
set_option maxRecDepth 100000 in
/-- tell -/
theorem ct_X7_tell (E : hs_E) (hST : E.1.stackTraces = false) (t : cl_t) (cap X : Nat → Nat) (d : Nat) (G : hs_G) (hT : cl_T E t cap X d G) (h99 : X 99 = 0) (pa ot dl se qu am day lag : Int32) : hM E yX7_tell ({ frames := 8, cells := 5, slots := 260, locals := 320 }) [.ref (X 0), .int pa, .int ot, .int dl, .int se, .int qu, .int am, .int day, .int lag] G (hs_or2 (hs_I (fun _ G1 k n => cl_M E t cap X (d) G 5 260 G1 k n)) G (fun C => C = "java/lang/IllegalArgumentException" ∨ C = "java/lang/IllegalStateException")) := by
  refine hs_ofW (cc := cX7_tell) (maxL := 13) (ret := (some .int)) (by decide) co_X7_tell ?_
  intro p e s m args below meth c hC hlocks hr hin0 hnoh hW
  obtain ⟨hx, hb, hml, hown, hts, -⟩ := id hC
  have hE := hW
  have hL : ∀ q ∈ ([] : List Loc), (eH E).size ≤ q.base := fun q hq => nomatch hq
  have hl := lv_entry ([.ref (X 0), .int pa, .int ot, .int dl, .int se, .int qu, .int am, .int day, .int lag] : List Value) (n := 13) (Nat.le_of_ble_eq_true rfl)
  rw [lg_entry_eq]
  generalize (lg_sl [.ref (X 0), .int pa, .int ot, .int dl, .int se, .int qu, .int am, .int day, .int lag] ++ List.replicate (13 - (lg_sl [.ref (X 0), .int pa, .int ot, .int dl, .int se, .int qu, .int am, .int day, .int lag]).length) Slot.unset).toArray = ls at hl ⊢
  have hl : lv_has ls 13 [(0, .ref (X 0)), (1, .int pa), (2, .int ot), (3, .int dl), (4, .int se), (5, .int qu), (6, .int am), (7, .int day), (8, .int lag)] := hl
  obtain ⟨mc9, A9, sz9, f9, hLo, hLa, hsc, hmx, hcp, hel, hAA⟩ := hT.l8
  refine lv_iload_n hx hb dX7_tell_0 rfl (lv_at hl 1 rfl) ?_
  refine hs_callS hC hs_Tok hW hL (ct_X7_isParty E _ _) cw_X7_isParty lk_X7_40 st_X7_isParty hl.1 (by first | decide | (refine ⟨by decide, by decide, ?_, ?_⟩ <;> dsimp only <;> omega)) (Nat.le_of_ble_eq_true rfl) dX7_tell_1 (hs_kp1 (fun H locs hW hL => ?_))
  refine lv_if_eq (tgt := 34) hx hb dX7_tell_4 (by decide) (fun c4 => ?_) (fun c4 => ?_)
  · refine lv_iconst (v := 0) hx hb dX7_tell_34 (by decide) ?_
    refine hs_callS hC hs_Tok hW hL (ct_X7_checkArgument E hST G _) cw_X7_checkArgument lk_X7_52 st_X7_checkArgument hl.1 (by first | decide | (refine ⟨by decide, by decide, ?_, ?_⟩ <;> dsimp only <;> omega)) (Nat.le_of_ble_eq_true rfl) dX7_tell_35 (hs_kck hnoh hlocks (by decide) (by decide) (fun hno => Or.inr ⟨_, Or.inl rfl, rfl, rfl, rfl, rfl⟩) (fun hok35 H locs hW hL => ?_))
    exact absurd rfl hok35
  refine lv_iload_n hx hb dX7_tell_7 rfl (lv_at hl 2 rfl) ?_
  refine hs_callS hC hs_Tok hW hL (ct_X7_isParty E _ _) cw_X7_isParty lk_X7_40 st_X7_isParty hl.1 (by first | decide | (refine ⟨by decide, by decide, ?_, ?_⟩ <;> dsimp only <;> omega)) (Nat.le_of_ble_eq_true rfl) dX7_tell_8 (hs_kp1 (fun H locs hW hL => ?_))
  refine lv_if_eq (tgt := 34) hx hb dX7_tell_11 (by decide) (fun c11 => ?_) (fun c11 => ?_)
  · refine lv_iconst (v := 0) hx hb dX7_tell_34 (by decide) ?_
    refine hs_callS hC hs_Tok hW hL (ct_X7_checkArgument E hST G _) cw_X7_checkArgument lk_X7_52 st_X7_checkArgument hl.1 (by first | decide | (refine ⟨by decide, by decide, ?_, ?_⟩ <;> dsimp only <;> omega)) (Nat.le_of_ble_eq_true rfl) dX7_tell_35 (hs_kck hnoh hlocks (by decide) (by decide) (fun hno => Or.inr ⟨_, Or.inl rfl, rfl, rfl, rfl, rfl⟩) (fun hok35 H locs hW hL => ?_))
    exact absurd rfl hok35
  refine lv_iload_n hx hb dX7_tell_14 rfl (lv_at hl 1 rfl) ?_
  refine lv_iload_n hx hb dX7_tell_15 rfl (lv_at hl 2 rfl) ?_
  refine lv_icmp_eq (tgt := 34) hx hb dX7_tell_16 (by decide) (fun c16 => ?_) (fun c16 => ?_)
  · refine lv_iconst (v := 0) hx hb dX7_tell_34 (by decide) ?_
    refine hs_callS hC hs_Tok hW hL (ct_X7_checkArgument E hST G _) cw_X7_checkArgument lk_X7_52 st_X7_checkArgument hl.1 (by first | decide | (refine ⟨by decide, by decide, ?_, ?_⟩ <;> dsimp only <;> omega)) (Nat.le_of_ble_eq_true rfl) dX7_tell_35 (hs_kck hnoh hlocks (by decide) (by decide) (fun hno => Or.inr ⟨_, Or.inl rfl, rfl, rfl, rfl, rfl⟩) (fun hok35 H locs hW hL => ?_))
    exact absurd rfl hok35
  refine lv_iload hx hb dX7_tell_19 (lv_at hl 4 rfl) ?_
  refine lv_iconst (v := 0) hx hb dX7_tell_21 (by decide) ?_
  refine lv_bipush (v := 7) hx hb dX7_tell_22 (by decide) ?_
  refine hs_callS hC hs_Tok hW hL (ct_X7_isWithin E _ _ _ _) cw_X7_isWithin lk_X7_48 st_X7_isWithin hl.1 (by first | decide | (refine ⟨by decide, by decide, ?_, ?_⟩ <;> dsimp only <;> omega)) (Nat.le_of_ble_eq_true rfl) dX7_tell_24 (hs_kp1 (fun H locs hW hL => ?_))
  refine lv_if_eq (tgt := 34) hx hb dX7_tell_27 (by decide) (fun c27 => ?_) (fun c27 => ?_)
  · refine lv_iconst (v := 0) hx hb dX7_tell_34 (by decide) ?_
    refine hs_callS hC hs_Tok hW hL (ct_X7_checkArgument E hST G _) cw_X7_checkArgument lk_X7_52 st_X7_checkArgument hl.1 (by first | decide | (refine ⟨by decide, by decide, ?_, ?_⟩ <;> dsimp only <;> omega)) (Nat.le_of_ble_eq_true rfl) dX7_tell_35 (hs_kck hnoh hlocks (by decide) (by decide) (fun hno => Or.inr ⟨_, Or.inl rfl, rfl, rfl, rfl, rfl⟩) (fun hok35 H locs hW hL => ?_))
    exact absurd rfl hok35
  refine lv_iconst (v := 1) hx hb dX7_tell_30 (by decide) ?_
  refine lv_goto (tgt := 35) hx hb dX7_tell_31 (by decide) ?_
  refine hs_callS hC hs_Tok hW hL (ct_X7_checkArgument E hST G _) cw_X7_checkArgument lk_X7_52 st_X7_checkArgument hl.1 (by first | decide | (refine ⟨by decide, by decide, ?_, ?_⟩ <;> dsimp only <;> omega)) (Nat.le_of_ble_eq_true rfl) dX7_tell_35 (hs_kck hnoh hlocks (by decide) (by decide) (fun hno => Or.inr ⟨_, Or.inl rfl, rfl, rfl, rfl, rfl⟩) (fun hok35 H locs hW hL => ?_))
  refine lv_iload hx hb dX7_tell_38 (lv_at hl 5 rfl) ?_
  refine lv_iconst (v := 0) hx hb dX7_tell_40 (by decide) ?_
  refine lv_ldc hx hb hown (hts _ lk_X7_80) dX7_tell_41 ?_
  refine hs_callS hC hs_Tok hW hL (ct_X7_isWithin E _ _ _ _) cw_X7_isWithin lk_X7_48 st_X7_isWithin hl.1 (by first | decide | (refine ⟨by decide, by decide, ?_, ?_⟩ <;> dsimp only <;> omega)) (Nat.le_of_ble_eq_true rfl) dX7_tell_43 (hs_kp1 (fun H locs hW hL => ?_))
  refine lv_if_eq (tgt := 64) hx hb dX7_tell_46 (by decide) (fun c46 => ?_) (fun c46 => ?_)
  · refine lv_iconst (v := 0) hx hb dX7_tell_64 (by decide) ?_
    refine hs_callS hC hs_Tok hW hL (ct_X7_checkArgument E hST G _) cw_X7_checkArgument lk_X7_52 st_X7_checkArgument hl.1 (by first | decide | (refine ⟨by decide, by decide, ?_, ?_⟩ <;> dsimp only <;> omega)) (Nat.le_of_ble_eq_true rfl) dX7_tell_65 (hs_kck hnoh hlocks (by decide) (by decide) (fun hno => Or.inr ⟨_, Or.inl rfl, rfl, rfl, rfl, rfl⟩) (fun hok65 H locs hW hL => ?_))
    exact absurd rfl hok65
  refine lv_iload hx hb dX7_tell_49 (lv_at hl 6 rfl) ?_
  refine lv_iconst (v := 0) hx hb dX7_tell_51 (by decide) ?_
  refine lv_ldc hx hb hown (hts _ lk_X7_47) dX7_tell_52 ?_
  refine hs_callS hC hs_Tok hW hL (ct_X7_isWithin E _ _ _ _) cw_X7_isWithin lk_X7_48 st_X7_isWithin hl.1 (by first | decide | (refine ⟨by decide, by decide, ?_, ?_⟩ <;> dsimp only <;> omega)) (Nat.le_of_ble_eq_true rfl) dX7_tell_54 (hs_kp1 (fun H locs hW hL => ?_))
  refine lv_if_eq (tgt := 64) hx hb dX7_tell_57 (by decide) (fun c57 => ?_) (fun c57 => ?_)
  · refine lv_iconst (v := 0) hx hb dX7_tell_64 (by decide) ?_
    refine hs_callS hC hs_Tok hW hL (ct_X7_checkArgument E hST G _) cw_X7_checkArgument lk_X7_52 st_X7_checkArgument hl.1 (by first | decide | (refine ⟨by decide, by decide, ?_, ?_⟩ <;> dsimp only <;> omega)) (Nat.le_of_ble_eq_true rfl) dX7_tell_65 (hs_kck hnoh hlocks (by decide) (by decide) (fun hno => Or.inr ⟨_, Or.inl rfl, rfl, rfl, rfl, rfl⟩) (fun hok65 H locs hW hL => ?_))
    exact absurd rfl hok65
  refine lv_iconst (v := 1) hx hb dX7_tell_60 (by decide) ?_
  refine lv_goto (tgt := 65) hx hb dX7_tell_61 (by decide) ?_
  refine hs_callS hC hs_Tok hW hL (ct_X7_checkArgument E hST G _) cw_X7_checkArgument lk_X7_52 st_X7_checkArgument hl.1 (by first | decide | (refine ⟨by decide, by decide, ?_, ?_⟩ <;> dsimp only <;> omega)) (Nat.le_of_ble_eq_true rfl) dX7_tell_65 (hs_kck hnoh hlocks (by decide) (by decide) (fun hno => Or.inr ⟨_, Or.inl rfl, rfl, rfl, rfl, rfl⟩) (fun hok65 H locs hW hL => ?_))
  refine lv_iload hx hb dX7_tell_68 (lv_at hl 5 rfl) ?_
  refine lv_if_gt (tgt := 78) hx hb dX7_tell_70 (by decide) (fun c70 => ?_) (fun c70 => ?_)
  · refine lv_iconst (v := 1) hx hb dX7_tell_78 (by decide) ?_
    refine lv_goto (tgt := 83) hx hb dX7_tell_79 (by decide) ?_
    refine hs_callS hC hs_Tok hW hL (ct_X7_checkArgument E hST G _) cw_X7_checkArgument lk_X7_52 st_X7_checkArgument hl.1 (by first | decide | (refine ⟨by decide, by decide, ?_, ?_⟩ <;> dsimp only <;> omega)) (Nat.le_of_ble_eq_true rfl) dX7_tell_83 (hs_kck hnoh hlocks (by decide) (by decide) (fun hno => Or.inr ⟨_, Or.inl rfl, rfl, rfl, rfl, rfl⟩) (fun hok83 H locs hW hL => ?_))
    refine lv_iload hx hb dX7_tell_86 (lv_at hl 7 rfl) ?_
    refine lv_iconst (v := 0) hx hb dX7_tell_88 (by decide) ?_
    refine lv_aload_n hx hb dX7_tell_89 rfl (lv_at hl 0 rfl) ?_
    refine hs_get hC hW hi_X7 rfl 0 (by decide) lk_X7_12 rfl hT.house rfl dX7_tell_90 ?_
    refine hs_getN hC hW hi_X0 rfl 1 (by decide) lk_X7_69 rfl hT.days rfl dX7_tell_93 ?_
    refine hs_callS hC hs_Tok hW hL (ct_X7_isWithin E _ _ _ _) cw_X7_isWithin lk_X7_48 st_X7_isWithin hl.1 (by first | decide | (refine ⟨by decide, by decide, ?_, ?_⟩ <;> dsimp only <;> omega)) (Nat.le_of_ble_eq_true rfl) dX7_tell_96 (hs_kp1 (fun H locs hW hL => ?_))
    refine lv_if_eq (tgt := 117) hx hb dX7_tell_99 (by decide) (fun c99 => ?_) (fun c99 => ?_)
    · refine lv_iconst (v := 0) hx hb dX7_tell_117 (by decide) ?_
      refine hs_callS hC hs_Tok hW hL (ct_X7_checkArgument E hST G _) cw_X7_checkArgument lk_X7_52 st_X7_checkArgument hl.1 (by first | decide | (refine ⟨by decide, by decide, ?_, ?_⟩ <;> dsimp only <;> omega)) (Nat.le_of_ble_eq_true rfl) dX7_tell_118 (hs_kck hnoh hlocks (by decide) (by decide) (fun hno => Or.inr ⟨_, Or.inl rfl, rfl, rfl, rfl, rfl⟩) (fun hok118 H locs hW hL => ?_))
      exact absurd rfl hok118
    refine lv_iload hx hb dX7_tell_102 (lv_at hl 8 rfl) ?_
    refine lv_iconst (v := 0) hx hb dX7_tell_104 (by decide) ?_
    refine lv_bipush (v := 10) hx hb dX7_tell_105 (by decide) ?_
    refine hs_callS hC hs_Tok hW hL (ct_X7_isWithin E _ _ _ _) cw_X7_isWithin lk_X7_48 st_X7_isWithin hl.1 (by first | decide | (refine ⟨by decide, by decide, ?_, ?_⟩ <;> dsimp only <;> omega)) (Nat.le_of_ble_eq_true rfl) dX7_tell_107 (hs_kp1 (fun H locs hW hL => ?_))
    refine lv_if_eq (tgt := 117) hx hb dX7_tell_110 (by decide) (fun c110 => ?_) (fun c110 => ?_)
    · refine lv_iconst (v := 0) hx hb dX7_tell_117 (by decide) ?_
      refine hs_callS hC hs_Tok hW hL (ct_X7_checkArgument E hST G _) cw_X7_checkArgument lk_X7_52 st_X7_checkArgument hl.1 (by first | decide | (refine ⟨by decide, by decide, ?_, ?_⟩ <;> dsimp only <;> omega)) (Nat.le_of_ble_eq_true rfl) dX7_tell_118 (hs_kck hnoh hlocks (by decide) (by decide) (fun hno => Or.inr ⟨_, Or.inl rfl, rfl, rfl, rfl, rfl⟩) (fun hok118 H locs hW hL => ?_))
      exact absurd rfl hok118
    refine lv_iconst (v := 1) hx hb dX7_tell_113 (by decide) ?_
    refine lv_goto (tgt := 118) hx hb dX7_tell_114 (by decide) ?_
    refine hs_callS hC hs_Tok hW hL (ct_X7_checkArgument E hST G _) cw_X7_checkArgument lk_X7_52 st_X7_checkArgument hl.1 (by first | decide | (refine ⟨by decide, by decide, ?_, ?_⟩ <;> dsimp only <;> omega)) (Nat.le_of_ble_eq_true rfl) dX7_tell_118 (hs_kck hnoh hlocks (by decide) (by decide) (fun hno => Or.inr ⟨_, Or.inl rfl, rfl, rfl, rfl, rfl⟩) (fun hok118 H locs hW hL => ?_))
    refine lv_aload_n hx hb dX7_tell_121 rfl (lv_at hl 0 rfl) ?_
    refine hs_get hC hW hi_X7 rfl 3 (by decide) lk_X7_33 rfl hT.house rfl dX7_tell_122 ?_
    refine hs_callV hC hs_Tok hW hL (ct_size E G (X 8) A9 sz9 mc9 hLo) cw_Jx4a65c_size_8abf5 lk_X7_81 im_Jx4a65c_size_8abf5 se_Jx4a65c_size_8abf5 (hs_recv hC hW hLo rfl) hl.1 (by first | decide | (refine ⟨by decide, by decide, ?_, ?_⟩ <;> dsimp only <;> omega)) (Nat.le_of_ble_eq_true rfl) dX7_tell_125 (hs_kp1 (fun H locs hW hL => ?_))
    refine lv_sipush (v := 150) hx hb dX7_tell_128 (by decide) ?_
    refine lv_icmp_ge (tgt := 138) hx hb dX7_tell_131 (by decide) (fun c131 => ?_) (fun c131 => ?_)
    · refine lv_iconst (v := 0) hx hb dX7_tell_138 (by decide) ?_
      refine hs_callS hC hs_Tok hW hL (ct_X7_checkState E hST G _) cw_X7_checkState lk_X7_62 st_X7_checkState hl.1 (by first | decide | (refine ⟨by decide, by decide, ?_, ?_⟩ <;> dsimp only <;> omega)) (Nat.le_of_ble_eq_true rfl) dX7_tell_139 (hs_kck hnoh hlocks (by decide) (by decide) (fun hno => Or.inr ⟨_, Or.inr rfl, rfl, rfl, rfl, rfl⟩) (fun hok139 H locs hW hL => ?_))
      exact absurd rfl hok139
    refine lv_iconst (v := 1) hx hb dX7_tell_134 (by decide) ?_
    refine lv_goto (tgt := 139) hx hb dX7_tell_135 (by decide) ?_
    refine hs_callS hC hs_Tok hW hL (ct_X7_checkState E hST G _) cw_X7_checkState lk_X7_62 st_X7_checkState hl.1 (by first | decide | (refine ⟨by decide, by decide, ?_, ?_⟩ <;> dsimp only <;> omega)) (Nat.le_of_ble_eq_true rfl) dX7_tell_139 (hs_kck hnoh hlocks (by decide) (by decide) (fun hno => Or.inr ⟨_, Or.inr rfl, rfl, rfl, rfl, rfl⟩) (fun hok139 H locs hW hL => ?_))
    obtain ⟨p9, hp9, rfl⟩ := cl_party c4
    obtain ⟨o9, ho9, rfl⟩ := cl_party c11
    have hpo : p9 ≠ o9 := fun z => c16 (congrArg nI z)
    have hq6 := hs_b_ne c46
    have hq7 := hs_b_ne c57
    rw [Int32.le_iff_toInt_le, Int32.le_iff_toInt_le, Int32.toInt_zero] at hq6 hq7
    have hb6 : 0 ≤ qu.toInt ∧ qu.toInt ≤ 1000000 ∧ 0 ≤ am.toInt ∧ am.toInt ≤ 1000000000 := ⟨hq6.1, hq6.2, hq7.1, hq7.2⟩
    obtain ⟨s9, hs9, rfl⟩ := cl_nat (n := 7) (by decide +kernel) (by decide) c27
    obtain ⟨dy9, hdy9, rfl⟩ := cl_nat (n := d) rfl (by have := hT.2.2.2.2.1; omega) c99
    obtain ⟨lg9, hlg9, rfl⟩ := cl_nat (n := 10) (by decide +kernel) (by decide) c110
    have hN9 : sz9 < 150 := Nat.not_le.mp fun z => c131 (by rw [show (150 : Int32) = nI 150 by decide +kernel]; exact (nI_leI (by decide) (by omega)).mpr z)
    refine lv_iload_n hx hb dX7_tell_142 rfl (lv_at hl 3 rfl) ?_
    refine lv_if_eq (tgt := 150) hx hb dX7_tell_143 (by decide) (fun c143 => ?_) (fun c143 => ?_)
    · refine lv_iload_n hx hb dX7_tell_150 rfl (lv_at hl 2 rfl) ?_
      refine lv_istore (lv' := [(9, .int _), (0, .ref _), (1, .int _), (2, .int _), (3, .int _), (4, .int _), (5, .int _), (6, .int _), (7, .int _), (8, .int _)]) hx hb dX7_tell_151 hl (by decide) rfl (fun ls hl => ?_)
      refine lv_iload_n hx hb dX7_tell_153 rfl (lv_at hl 4 rfl) ?_
      refine lv_if_eq (tgt := 161) hx hb dX7_tell_154 (by decide) (fun c154 => ?_) (fun c154 => ?_)
      · refine lv_iload_n hx hb dX7_tell_161 rfl (lv_at hl 2 rfl) ?_
        refine lv_istore (lv' := [(10, .int _), (9, .int _), (0, .ref _), (1, .int _), (2, .int _), (3, .int _), (4, .int _), (5, .int _), (6, .int _), (7, .int _), (8, .int _)]) hx hb dX7_tell_162 hl (by decide) rfl (fun ls hl => ?_)
        refine hs_new (ci := 5) hC hW hi_X4 tyX4 tyX4_ok lk_X7_85 ib_X4 ii_X4 rfl (fs := [.int 0, .int 0, .int 0, .int 0, .int 0, .int 0, .int 0]) (by decide) (by decide) (by decide) dX7_tell_164 (fun q H hqs hfq hW => ?_)
        refine lv_dup hx hb dX7_tell_167 rfl ?_
        refine lv_iload hx hb dX7_tell_168 (lv_at hl 1 rfl) ?_
        refine lv_iload hx hb dX7_tell_170 (lv_at hl 0 rfl) ?_
        refine lv_iload hx hb dX7_tell_172 (lv_at hl 6 rfl) ?_
        refine lv_iload hx hb dX7_tell_174 (lv_at hl 7 rfl) ?_
        refine lv_iload hx hb dX7_tell_176 (lv_at hl 8 rfl) ?_
        refine lv_iload hx hb dX7_tell_178 (lv_at hl 9 rfl) ?_
        refine lv_iload hx hb dX7_tell_180 (lv_at hl 10 rfl) ?_
        refine hs_callIN hC hs_Tok hW hL (ct_X4_init E _ q 0 0 0 0 0 0 0 _ _ _ _ _ _ _ (hs_up_eq _ _ _) hqs) cw_X4_init lk_X7_87 im_X4_init rfl hl.1 (by first | decide | (refine ⟨by decide, by decide, ?_, ?_⟩ <;> dsimp only <;> omega)) (Nat.le_of_ble_eq_true rfl) dX7_tell_182 (hs_kV (fun G1 k n H locs hI hk hn hW hL => ?_))
        obtain ⟨rfl, rfl, rfl⟩ := hI
        rw [hs_up_up] at hW
        have hT1 := hT.nE (q := q) (de := o9) (re := p9) (se := s9) (qu := qu) (am := am) (dy := dy9) (lg := lg9) hfq hqs ho9 hp9 (by omega) (by have := hT.2.2.2.2.1; omega) hlg9 ⟨hpo.symm, hb6⟩
        have h9q : X 9 ≠ q := fun z => by have h1 := hT.tag 9 (by decide); rw [z, hT.fresh hfq] at h1; cases h1
        have h8q : X 8 ≠ q := fun z => by have h1 := hT.tag 8 (by decide); rw [z, hT.fresh hfq] at h1; cases h1
        have e9 : (va_up cap q 0) (X 9) = cap (X 9) := va_up_ne _ _ h9q
        have hLo1 := (hs_up_ne G (cl_te o9 p9 s9 qu am dy9 lg9) h8q).trans hLo
        refine lv_astore (lv' := [(11, .ref _), (10, .int _), (9, .int _), (0, .ref _), (1, .int _), (2, .int _), (3, .int _), (4, .int _), (5, .int _), (6, .int _), (7, .int _), (8, .int _)]) hx hb dX7_tell_185 hl (by decide) rfl (fun ls hl => ?_)
        refine lv_aload_n hx hb dX7_tell_187 rfl (lv_at hl 3 rfl) ?_
        refine lv_aload hx hb dX7_tell_188 (lv_at hl 0 rfl) ?_
        refine lv_iload_n hx hb dX7_tell_190 rfl (lv_at hl 5 rfl) ?_
        refine hs_callV hC hs_Tok hW hL (ct_X7_firstUnmatched E (va_up t q (some (51, 0))) (va_up cap q 0) X d _ hT1.1 q (va_up_self _ _ _) _) cw_X7_firstUnmatched lk_X7_90 im_X7_firstUnmatched se_X7_firstUnmatched (hs_recv hC hW hT1.1.house rfl) hl.1 (by decide) (Nat.le_of_ble_eq_true rfl) dX7_tell_191 (hs_kN ?_ ?_)
        · intro H locs hW hL
          refine lv_astoreN (lv' := [(12, .null), (11, .ref _), (10, .int _), (9, .int _), (0, .ref _), (1, .int _), (2, .int _), (3, .int _), (4, .int _), (5, .int _), (6, .int _), (7, .int _), (8, .int _)]) hx hb dX7_tell_194 hl (by decide) rfl (fun ls hl => ?_)
          refine lv_aloadN hx hb dX7_tell_196 (lv_at hl 0 rfl) ?_
          refine lv_ifnullN (tgt := 213) hx hb dX7_tell_198 (by decide) ?_
          refine lv_aload_n hx hb dX7_tell_213 rfl (lv_at hl 4 rfl) ?_
          refine hs_get hC hW hi_X7 rfl 3 (by decide) lk_X7_33 rfl hT1.1.house rfl dX7_tell_214 ?_
          refine hs_new (ci := 6) hC hW hi_X5 tyX5 tyX5_ok lk_X7_99 ib_X5 ii_X5 rfl (fs := [.int 0, .int 0, .null, .null, .null, .int 0, .int 0, .int 0, .int 0, .int 0, .int 0, .int 0, .null]) (by decide) (by decide) (by decide) dX7_tell_217 (fun q2 H hq2s hfq2 hW => ?_)
          have hqq2 : q ≠ q2 := fun z => by rw [← z, hs_up_eq] at hfq2; cases hfq2
          have h0q2 : X 0 ≠ q2 := fun z => by rw [← z, hT1.1.house] at hfq2; cases hfq2
          have h8q2 : X 8 ≠ q2 := fun z => by have h1 := hT1.1.tag 8 (by decide); rw [z, hT1.1.fresh hfq2] at h1; cases h1
          have h9q2 : X 9 ≠ q2 := fun z => by have h1 := hT1.1.tag 9 (by decide); rw [z, hT1.1.fresh hfq2] at h1; cases h1
          refine lv_dup hx hb dX7_tell_220 rfl ?_
          refine lv_aload_n hx hb dX7_tell_221 rfl (lv_at hl 4 rfl) ?_
          refine hs_get hC hW hi_X7 rfl 3 (by decide) lk_X7_33 rfl ((hs_up_ne _ _ h0q2).trans hT1.1.house) rfl dX7_tell_222 ?_
          refine hs_callV hC hs_Tok hW hL (ct_size E _ (X 8) A9 sz9 mc9 ((hs_up_ne _ _ h8q2).trans hLo1)) cw_Jx4a65c_size_8abf5 lk_X7_81 im_Jx4a65c_size_8abf5 se_Jx4a65c_size_8abf5 (hs_recv hC hW ((hs_up_ne _ _ h8q2).trans hLo1) rfl) hl.1 (by first | decide | (refine ⟨by decide, by decide, ?_, ?_⟩ <;> dsimp only <;> omega)) (Nat.le_of_ble_eq_true rfl) dX7_tell_225 (hs_kp1 (fun H locs hW hL => ?_))
          refine lv_iload_n hx hb dX7_tell_228 rfl (lv_at hl 5 rfl) ?_
          refine lv_aload hx hb dX7_tell_229 (lv_at hl 1 rfl) ?_
          refine hs_callIN hC hs_Tok hW hL (ct_X5_init E _ q2 q _ _ o9 p9 s9 qu am dy9 lg9 (hs_up_eq _ _ _) hq2s ((hs_up_ne _ _ hqq2).trans (hs_up_eq _ _ _))) cw_X5_init lk_X7_103 im_X5_init rfl hl.1 (by first | decide | (refine ⟨by decide, by decide, ?_, ?_⟩ <;> dsimp only <;> omega)) (Nat.le_of_ble_eq_true rfl) dX7_tell_231 (hs_kV (fun G2 k n H locs hI hk hn hW hL => ?_))
          obtain ⟨rfl, rfl, r1, r2, e1, e2, e3, e4, e5, e6, e7, rfl⟩ := hI
          rw [al_S3 e6 e7] at hW
          rw [hs_up_ne _ _ e6] at e1
          rw [hs_up_ne _ _ e7] at e3
          have hTa := hT1.1.nS (q := r1) e1 e2 0 0
          have e3b := (hs_up_ne _ (.inr (4, [.int 0, .int 0])) e5.symm).trans e3
          have hTb := hTa.1.nS (q := r2) e3b e4 0 0
          have hfq3 := (hs_up_ne _ (.inr (4, [.int 0, .int 0])) e7.symm).trans ((hs_up_ne _ (.inr (4, [.int 0, .int 0])) e6.symm).trans hfq2)
          have hTc := hTb.1.nT (q := q2) (nu := nI sz9) (te := nI p9) (st := 0) (du := -1) (ql := qu) (am := am) (fa := 0) (pr := 1) (ip := 0) hfq3 hq2s (hTb.2.1 _ _ (hTa.2.1 _ _ (va_up_self _ _ _))) (hTb.2.1 _ _ (va_up_self _ _ _)) (va_up_self _ _ _) hb6
          have h8r1 : X 8 ≠ r1 := fun z => by have h1 := hT1.1.tag 8 (by decide); rw [z, hT1.1.fresh e1] at h1; cases h1
          have h8r2 : X 8 ≠ r2 := fun z => by have h1 := hTa.1.tag 8 (by decide); rw [z, hTa.1.fresh e3b] at h1; cases h1
          have h9r1 : X 9 ≠ r1 := fun z => by have h1 := hT1.1.tag 9 (by decide); rw [z, hT1.1.fresh e1] at h1; cases h1
          have h9r2 : X 9 ≠ r2 := fun z => by have h1 := hTa.1.tag 9 (by decide); rw [z, hTa.1.fresh e3b] at h1; cases h1
          have hLo3 := (hs_up_ne _ (cl_tr (nI sz9) (nI p9) q r1 r2 0 (-1) qu am 0 1 0 .null) h8q2).trans ((hs_up_ne _ (.inr (4, [.int 0, .int 0])) h8r2).trans ((hs_up_ne _ (.inr (4, [.int 0, .int 0])) h8r1).trans hLo1))
          obtain ⟨f5, hLa5, hsc5, hmx5, hcp5, hel5, hAA5⟩ := hTc.1.l8.at hLo3 (by omega)
          have e93 : (va_up (va_up (va_up (va_up cap q 0) r1 0) r2 0) q2 0) (X 9) = cap (X 9) := (va_up_ne _ _ h9q2).trans ((va_up_ne _ _ h9r2).trans ((va_up_ne _ _ h9r1).trans e9))
          refine hs_callV hC hs_Tok hW hL (ct_add E _ (X 8) A9 sz9 mc9 hLo3 _ f5 hLa5 hsc5 (by omega) (by omega) (fun z => hAA5.elim (fun w => w.1) (fun w => absurd z (by omega))) (fun z => hTc.1.sz (hAA5.resolve_left (fun w => by omega)).1) (hT.szX 8 (by decide)) 6 cl_el6 (cl_elT hTc.1 hel5) q2 _ (hs_up_eq _ _ _)) cw_Jx4a65c_add_9ea2d lk_X7_106 im_Jx4a65c_add_9ea2d se_Jx4a65c_add_9ea2d (hs_recv hC hW hLo3 rfl) hl.1 (by first | decide | (refine ⟨by decide, by decide, ?_, ?_⟩ <;> dsimp only <;> omega)) (Nat.le_of_ble_eq_true rfl) dX7_tell_234 (hs_kI (fun z G4 k n H locs hI hk hn hW hL => ?_))
          replace hk : k ≤ 1 := hk
          replace hn : n ≤ 230 := hn
          obtain ⟨A1, c1, hTd, hFd, hL1, hc1, hk1, hn1, hk2, hn2, -⟩ := hTc.1.add (hTc.1.tag 8 (by decide)) (Or.inl ⟨rfl, rfl, rfl⟩) hLa5 hLo3 hAA5 hcp5 hN9 (Nat.le_refl _) hel5 (va_up_self _ _ _) (fun z => absurd z (by decide)) hI
          have e94 : (va_up (va_up (va_up (va_up (va_up cap q 0) r1 0) r2 0) q2 0) (X 8) c1) (X 9) = cap (X 9) := (va_up_ne _ _ (hT.ne (by decide) (by decide) (by decide))).trans e93
          refine lv_pop hx hb dX7_tell_237 rfl ?_
          refine lv_aload_n hx hb dX7_tell_238 rfl (lv_at hl 4 rfl) ?_
          refine hs_get hC hW hi_X7 rfl 3 (by decide) lk_X7_33 rfl hTd.house rfl dX7_tell_239 ?_
          refine hs_callV hC hs_Tok hW hL (ct_size E _ (X 8) A1 (sz9 + 1) _ hL1) cw_Jx4a65c_size_8abf5 lk_X7_81 im_Jx4a65c_size_8abf5 se_Jx4a65c_size_8abf5 (hs_recv hC hW hL1 rfl) hl.1 (by first | decide | (refine ⟨by decide, by decide, ?_, ?_⟩ <;> dsimp only <;> omega)) (Nat.le_of_ble_eq_true rfl) dX7_tell_242 (hs_kp1 (fun H locs hW hL => ?_))
          refine lv_iconst (v := 1) hx hb dX7_tell_245 (by decide) ?_
          refine lv_isub hx hb dX7_tell_246 ?_
          exact hs_iret hC hW hL hr hlocks (by show _ ≤ 5; omega) (by show _ ≤ 260; omega) dX7_tell_247 (Or.inl ⟨_, rfl, _, _, hTd, (((hT1.2.tr hTa.2).tr hTb.2).tr hTc.2).tr hFd, by omega, by omega, by omega⟩)
        · intro a9 hta9 H locs hW hL
          obtain ⟨hta, hno⟩ := hta9
          refine lv_astore (lv' := [(12, .ref _), (11, .ref _), (10, .int _), (9, .int _), (0, .ref _), (1, .int _), (2, .int _), (3, .int _), (4, .int _), (5, .int _), (6, .int _), (7, .int _), (8, .int _)]) hx hb dX7_tell_194 hl (by decide) rfl (fun ls hl => ?_)
          refine lv_aload hx hb dX7_tell_196 (lv_at hl 0 rfl) ?_
          refine lv_ifnull hx hb dX7_tell_198 ?_
          refine lv_aload_n hx hb dX7_tell_201 rfl (lv_at hl 4 rfl) ?_
          refine lv_aload hx hb dX7_tell_202 (lv_at hl 0 rfl) ?_
          refine hs_callV hC hs_Tok hW hL (ct_X7_match E (va_up t q (some (51, 0))) (va_up cap q 0) X d _ hT1.1 a9 hta hno h99) cw_X7_match lk_X7_94 im_X7_match se_X7_match (hs_recv hC hW hT1.1.house rfl) hl.1 (by first | decide | (refine ⟨by decide, by decide, ?_, ?_⟩ <;> dsimp only <;> omega)) (Nat.le_of_ble_eq_true rfl) dX7_tell_204 (hs_kV (fun G2 k n H locs hI hk hn hW hL => ?_))
          obtain ⟨t2, cap2, hT2, hF2, hc2, hk2, hn2⟩ := hI
          replace hk : k ≤ 3 := hk
          replace hn : n ≤ 234 := hn
          rw [e9] at hc2 hk2 hn2
          obtain ⟨nu5, te5, t5, w6, w7, st5, du5, ql5, am5, fa5, pr5, ip5, g5, hX2, -⟩ := hT2.tr (hF2.1 _ _ hta)
          refine lv_aload hx hb dX7_tell_207 (lv_at hl 0 rfl) ?_
          refine hs_getN hC hW hi_X5 rfl 0 (by decide) lk_X7_98 rfl hX2 rfl dX7_tell_209 ?_
          exact hs_iret hC hW hL hr hlocks (by show _ ≤ 5; omega) (by show _ ≤ 260; omega) dX7_tell_212 (Or.inl ⟨_, rfl, t2, cap2, hT2, hT1.2.tr hF2, by omega, by omega, by omega⟩)
      refine lv_iload_n hx hb dX7_tell_157 rfl (lv_at hl 3 rfl) ?_
      refine lv_goto (tgt := 162) hx hb dX7_tell_158 (by decide) ?_
      refine lv_istore (lv' := [(10, .int _), (9, .int _), (0, .ref _), (1, .int _), (2, .int _), (3, .int _), (4, .int _), (5, .int _), (6, .int _), (7, .int _), (8, .int _)]) hx hb dX7_tell_162 hl (by decide) rfl (fun ls hl => ?_)
      refine hs_new (ci := 5) hC hW hi_X4 tyX4 tyX4_ok lk_X7_85 ib_X4 ii_X4 rfl (fs := [.int 0, .int 0, .int 0, .int 0, .int 0, .int 0, .int 0]) (by decide) (by decide) (by decide) dX7_tell_164 (fun q H hqs hfq hW => ?_)
      refine lv_dup hx hb dX7_tell_167 rfl ?_
      refine lv_iload hx hb dX7_tell_168 (lv_at hl 1 rfl) ?_
      refine lv_iload hx hb dX7_tell_170 (lv_at hl 0 rfl) ?_
      refine lv_iload hx hb dX7_tell_172 (lv_at hl 6 rfl) ?_
      refine lv_iload hx hb dX7_tell_174 (lv_at hl 7 rfl) ?_
      refine lv_iload hx hb dX7_tell_176 (lv_at hl 8 rfl) ?_
      refine lv_iload hx hb dX7_tell_178 (lv_at hl 9 rfl) ?_
      refine lv_iload hx hb dX7_tell_180 (lv_at hl 10 rfl) ?_
      refine hs_callIN hC hs_Tok hW hL (ct_X4_init E _ q 0 0 0 0 0 0 0 _ _ _ _ _ _ _ (hs_up_eq _ _ _) hqs) cw_X4_init lk_X7_87 im_X4_init rfl hl.1 (by first | decide | (refine ⟨by decide, by decide, ?_, ?_⟩ <;> dsimp only <;> omega)) (Nat.le_of_ble_eq_true rfl) dX7_tell_182 (hs_kV (fun G1 k n H locs hI hk hn hW hL => ?_))
      obtain ⟨rfl, rfl, rfl⟩ := hI
      rw [hs_up_up] at hW
      first | exact absurd c154 c143 | exact absurd c143 c154
    refine lv_iload_n hx hb dX7_tell_146 rfl (lv_at hl 1 rfl) ?_
    refine lv_goto (tgt := 151) hx hb dX7_tell_147 (by decide) ?_
    refine lv_istore (lv' := [(9, .int _), (0, .ref _), (1, .int _), (2, .int _), (3, .int _), (4, .int _), (5, .int _), (6, .int _), (7, .int _), (8, .int _)]) hx hb dX7_tell_151 hl (by decide) rfl (fun ls hl => ?_)
    refine lv_iload_n hx hb dX7_tell_153 rfl (lv_at hl 4 rfl) ?_
    refine lv_if_eq (tgt := 161) hx hb dX7_tell_154 (by decide) (fun c154 => ?_) (fun c154 => ?_)
    · refine lv_iload_n hx hb dX7_tell_161 rfl (lv_at hl 2 rfl) ?_
      refine lv_istore (lv' := [(10, .int _), (9, .int _), (0, .ref _), (1, .int _), (2, .int _), (3, .int _), (4, .int _), (5, .int _), (6, .int _), (7, .int _), (8, .int _)]) hx hb dX7_tell_162 hl (by decide) rfl (fun ls hl => ?_)
      refine hs_new (ci := 5) hC hW hi_X4 tyX4 tyX4_ok lk_X7_85 ib_X4 ii_X4 rfl (fs := [.int 0, .int 0, .int 0, .int 0, .int 0, .int 0, .int 0]) (by decide) (by decide) (by decide) dX7_tell_164 (fun q H hqs hfq hW => ?_)
      refine lv_dup hx hb dX7_tell_167 rfl ?_
      refine lv_iload hx hb dX7_tell_168 (lv_at hl 1 rfl) ?_
      refine lv_iload hx hb dX7_tell_170 (lv_at hl 0 rfl) ?_
      refine lv_iload hx hb dX7_tell_172 (lv_at hl 6 rfl) ?_
      refine lv_iload hx hb dX7_tell_174 (lv_at hl 7 rfl) ?_
      refine lv_iload hx hb dX7_tell_176 (lv_at hl 8 rfl) ?_
      refine lv_iload hx hb dX7_tell_178 (lv_at hl 9 rfl) ?_
      refine lv_iload hx hb dX7_tell_180 (lv_at hl 10 rfl) ?_
      refine hs_callIN hC hs_Tok hW hL (ct_X4_init E _ q 0 0 0 0 0 0 0 _ _ _ _ _ _ _ (hs_up_eq _ _ _) hqs) cw_X4_init lk_X7_87 im_X4_init rfl hl.1 (by first | decide | (refine ⟨by decide, by decide, ?_, ?_⟩ <;> dsimp only <;> omega)) (Nat.le_of_ble_eq_true rfl) dX7_tell_182 (hs_kV (fun G1 k n H locs hI hk hn hW hL => ?_))
      obtain ⟨rfl, rfl, rfl⟩ := hI
      rw [hs_up_up] at hW
      first | exact absurd c154 c143 | exact absurd c143 c154
    refine lv_iload_n hx hb dX7_tell_157 rfl (lv_at hl 3 rfl) ?_
    refine lv_goto (tgt := 162) hx hb dX7_tell_158 (by decide) ?_
    refine lv_istore (lv' := [(10, .int _), (9, .int _), (0, .ref _), (1, .int _), (2, .int _), (3, .int _), (4, .int _), (5, .int _), (6, .int _), (7, .int _), (8, .int _)]) hx hb dX7_tell_162 hl (by decide) rfl (fun ls hl => ?_)
    refine hs_new (ci := 5) hC hW hi_X4 tyX4 tyX4_ok lk_X7_85 ib_X4 ii_X4 rfl (fs := [.int 0, .int 0, .int 0, .int 0, .int 0, .int 0, .int 0]) (by decide) (by decide) (by decide) dX7_tell_164 (fun q H hqs hfq hW => ?_)
    refine lv_dup hx hb dX7_tell_167 rfl ?_
    refine lv_iload hx hb dX7_tell_168 (lv_at hl 1 rfl) ?_
    refine lv_iload hx hb dX7_tell_170 (lv_at hl 0 rfl) ?_
    refine lv_iload hx hb dX7_tell_172 (lv_at hl 6 rfl) ?_
    refine lv_iload hx hb dX7_tell_174 (lv_at hl 7 rfl) ?_
    refine lv_iload hx hb dX7_tell_176 (lv_at hl 8 rfl) ?_
    refine lv_iload hx hb dX7_tell_178 (lv_at hl 9 rfl) ?_
    refine lv_iload hx hb dX7_tell_180 (lv_at hl 10 rfl) ?_
    refine hs_callIN hC hs_Tok hW hL (ct_X4_init E _ q 0 0 0 0 0 0 0 _ _ _ _ _ _ _ (hs_up_eq _ _ _) hqs) cw_X4_init lk_X7_87 im_X4_init rfl hl.1 (by first | decide | (refine ⟨by decide, by decide, ?_, ?_⟩ <;> dsimp only <;> omega)) (Nat.le_of_ble_eq_true rfl) dX7_tell_182 (hs_kV (fun G1 k n H locs hI hk hn hW hL => ?_))
    obtain ⟨rfl, rfl, rfl⟩ := hI
    rw [hs_up_up] at hW
    have hT1 := hT.nE (q := q) (de := p9) (re := o9) (se := s9) (qu := qu) (am := am) (dy := dy9) (lg := lg9) hfq hqs hp9 ho9 (by omega) (by have := hT.2.2.2.2.1; omega) hlg9 ⟨hpo, hb6⟩
    have h9q : X 9 ≠ q := fun z => by have h1 := hT.tag 9 (by decide); rw [z, hT.fresh hfq] at h1; cases h1
    have h8q : X 8 ≠ q := fun z => by have h1 := hT.tag 8 (by decide); rw [z, hT.fresh hfq] at h1; cases h1
    have e9 : (va_up cap q 0) (X 9) = cap (X 9) := va_up_ne _ _ h9q
    have hLo1 := (hs_up_ne G (cl_te p9 o9 s9 qu am dy9 lg9) h8q).trans hLo
    refine lv_astore (lv' := [(11, .ref _), (10, .int _), (9, .int _), (0, .ref _), (1, .int _), (2, .int _), (3, .int _), (4, .int _), (5, .int _), (6, .int _), (7, .int _), (8, .int _)]) hx hb dX7_tell_185 hl (by decide) rfl (fun ls hl => ?_)
    refine lv_aload_n hx hb dX7_tell_187 rfl (lv_at hl 3 rfl) ?_
    refine lv_aload hx hb dX7_tell_188 (lv_at hl 0 rfl) ?_
    refine lv_iload_n hx hb dX7_tell_190 rfl (lv_at hl 5 rfl) ?_
    refine hs_callV hC hs_Tok hW hL (ct_X7_firstUnmatched E (va_up t q (some (51, 0))) (va_up cap q 0) X d _ hT1.1 q (va_up_self _ _ _) _) cw_X7_firstUnmatched lk_X7_90 im_X7_firstUnmatched se_X7_firstUnmatched (hs_recv hC hW hT1.1.house rfl) hl.1 (by decide) (Nat.le_of_ble_eq_true rfl) dX7_tell_191 (hs_kN ?_ ?_)
    · intro H locs hW hL
      refine lv_astoreN (lv' := [(12, .null), (11, .ref _), (10, .int _), (9, .int _), (0, .ref _), (1, .int _), (2, .int _), (3, .int _), (4, .int _), (5, .int _), (6, .int _), (7, .int _), (8, .int _)]) hx hb dX7_tell_194 hl (by decide) rfl (fun ls hl => ?_)
      refine lv_aloadN hx hb dX7_tell_196 (lv_at hl 0 rfl) ?_
      refine lv_ifnullN (tgt := 213) hx hb dX7_tell_198 (by decide) ?_
      refine lv_aload_n hx hb dX7_tell_213 rfl (lv_at hl 4 rfl) ?_
      refine hs_get hC hW hi_X7 rfl 3 (by decide) lk_X7_33 rfl hT1.1.house rfl dX7_tell_214 ?_
      refine hs_new (ci := 6) hC hW hi_X5 tyX5 tyX5_ok lk_X7_99 ib_X5 ii_X5 rfl (fs := [.int 0, .int 0, .null, .null, .null, .int 0, .int 0, .int 0, .int 0, .int 0, .int 0, .int 0, .null]) (by decide) (by decide) (by decide) dX7_tell_217 (fun q2 H hq2s hfq2 hW => ?_)
      have hqq2 : q ≠ q2 := fun z => by rw [← z, hs_up_eq] at hfq2; cases hfq2
      have h0q2 : X 0 ≠ q2 := fun z => by rw [← z, hT1.1.house] at hfq2; cases hfq2
      have h8q2 : X 8 ≠ q2 := fun z => by have h1 := hT1.1.tag 8 (by decide); rw [z, hT1.1.fresh hfq2] at h1; cases h1
      have h9q2 : X 9 ≠ q2 := fun z => by have h1 := hT1.1.tag 9 (by decide); rw [z, hT1.1.fresh hfq2] at h1; cases h1
      refine lv_dup hx hb dX7_tell_220 rfl ?_
      refine lv_aload_n hx hb dX7_tell_221 rfl (lv_at hl 4 rfl) ?_
      refine hs_get hC hW hi_X7 rfl 3 (by decide) lk_X7_33 rfl ((hs_up_ne _ _ h0q2).trans hT1.1.house) rfl dX7_tell_222 ?_
      refine hs_callV hC hs_Tok hW hL (ct_size E _ (X 8) A9 sz9 mc9 ((hs_up_ne _ _ h8q2).trans hLo1)) cw_Jx4a65c_size_8abf5 lk_X7_81 im_Jx4a65c_size_8abf5 se_Jx4a65c_size_8abf5 (hs_recv hC hW ((hs_up_ne _ _ h8q2).trans hLo1) rfl) hl.1 (by first | decide | (refine ⟨by decide, by decide, ?_, ?_⟩ <;> dsimp only <;> omega)) (Nat.le_of_ble_eq_true rfl) dX7_tell_225 (hs_kp1 (fun H locs hW hL => ?_))
      refine lv_iload_n hx hb dX7_tell_228 rfl (lv_at hl 5 rfl) ?_
      refine lv_aload hx hb dX7_tell_229 (lv_at hl 1 rfl) ?_
      refine hs_callIN hC hs_Tok hW hL (ct_X5_init E _ q2 q _ _ p9 o9 s9 qu am dy9 lg9 (hs_up_eq _ _ _) hq2s ((hs_up_ne _ _ hqq2).trans (hs_up_eq _ _ _))) cw_X5_init lk_X7_103 im_X5_init rfl hl.1 (by first | decide | (refine ⟨by decide, by decide, ?_, ?_⟩ <;> dsimp only <;> omega)) (Nat.le_of_ble_eq_true rfl) dX7_tell_231 (hs_kV (fun G2 k n H locs hI hk hn hW hL => ?_))
      obtain ⟨rfl, rfl, r1, r2, e1, e2, e3, e4, e5, e6, e7, rfl⟩ := hI
      rw [al_S3 e6 e7] at hW
      rw [hs_up_ne _ _ e6] at e1
      rw [hs_up_ne _ _ e7] at e3
      have hTa := hT1.1.nS (q := r1) e1 e2 0 0
      have e3b := (hs_up_ne _ (.inr (4, [.int 0, .int 0])) e5.symm).trans e3
      have hTb := hTa.1.nS (q := r2) e3b e4 0 0
      have hfq3 := (hs_up_ne _ (.inr (4, [.int 0, .int 0])) e7.symm).trans ((hs_up_ne _ (.inr (4, [.int 0, .int 0])) e6.symm).trans hfq2)
      have hTc := hTb.1.nT (q := q2) (nu := nI sz9) (te := nI p9) (st := 0) (du := -1) (ql := qu) (am := am) (fa := 0) (pr := 1) (ip := 0) hfq3 hq2s (hTb.2.1 _ _ (hTa.2.1 _ _ (va_up_self _ _ _))) (hTb.2.1 _ _ (va_up_self _ _ _)) (va_up_self _ _ _) hb6
      have h8r1 : X 8 ≠ r1 := fun z => by have h1 := hT1.1.tag 8 (by decide); rw [z, hT1.1.fresh e1] at h1; cases h1
      have h8r2 : X 8 ≠ r2 := fun z => by have h1 := hTa.1.tag 8 (by decide); rw [z, hTa.1.fresh e3b] at h1; cases h1
      have h9r1 : X 9 ≠ r1 := fun z => by have h1 := hT1.1.tag 9 (by decide); rw [z, hT1.1.fresh e1] at h1; cases h1
      have h9r2 : X 9 ≠ r2 := fun z => by have h1 := hTa.1.tag 9 (by decide); rw [z, hTa.1.fresh e3b] at h1; cases h1
      have hLo3 := (hs_up_ne _ (cl_tr (nI sz9) (nI p9) q r1 r2 0 (-1) qu am 0 1 0 .null) h8q2).trans ((hs_up_ne _ (.inr (4, [.int 0, .int 0])) h8r2).trans ((hs_up_ne _ (.inr (4, [.int 0, .int 0])) h8r1).trans hLo1))
      obtain ⟨f5, hLa5, hsc5, hmx5, hcp5, hel5, hAA5⟩ := hTc.1.l8.at hLo3 (by omega)
      have e93 : (va_up (va_up (va_up (va_up cap q 0) r1 0) r2 0) q2 0) (X 9) = cap (X 9) := (va_up_ne _ _ h9q2).trans ((va_up_ne _ _ h9r2).trans ((va_up_ne _ _ h9r1).trans e9))
      refine hs_callV hC hs_Tok hW hL (ct_add E _ (X 8) A9 sz9 mc9 hLo3 _ f5 hLa5 hsc5 (by omega) (by omega) (fun z => hAA5.elim (fun w => w.1) (fun w => absurd z (by omega))) (fun z => hTc.1.sz (hAA5.resolve_left (fun w => by omega)).1) (hT.szX 8 (by decide)) 6 cl_el6 (cl_elT hTc.1 hel5) q2 _ (hs_up_eq _ _ _)) cw_Jx4a65c_add_9ea2d lk_X7_106 im_Jx4a65c_add_9ea2d se_Jx4a65c_add_9ea2d (hs_recv hC hW hLo3 rfl) hl.1 (by first | decide | (refine ⟨by decide, by decide, ?_, ?_⟩ <;> dsimp only <;> omega)) (Nat.le_of_ble_eq_true rfl) dX7_tell_234 (hs_kI (fun z G4 k n H locs hI hk hn hW hL => ?_))
      replace hk : k ≤ 1 := hk
      replace hn : n ≤ 230 := hn
      obtain ⟨A1, c1, hTd, hFd, hL1, hc1, hk1, hn1, hk2, hn2, -⟩ := hTc.1.add (hTc.1.tag 8 (by decide)) (Or.inl ⟨rfl, rfl, rfl⟩) hLa5 hLo3 hAA5 hcp5 hN9 (Nat.le_refl _) hel5 (va_up_self _ _ _) (fun z => absurd z (by decide)) hI
      have e94 : (va_up (va_up (va_up (va_up (va_up cap q 0) r1 0) r2 0) q2 0) (X 8) c1) (X 9) = cap (X 9) := (va_up_ne _ _ (hT.ne (by decide) (by decide) (by decide))).trans e93
      refine lv_pop hx hb dX7_tell_237 rfl ?_
      refine lv_aload_n hx hb dX7_tell_238 rfl (lv_at hl 4 rfl) ?_
      refine hs_get hC hW hi_X7 rfl 3 (by decide) lk_X7_33 rfl hTd.house rfl dX7_tell_239 ?_
      refine hs_callV hC hs_Tok hW hL (ct_size E _ (X 8) A1 (sz9 + 1) _ hL1) cw_Jx4a65c_size_8abf5 lk_X7_81 im_Jx4a65c_size_8abf5 se_Jx4a65c_size_8abf5 (hs_recv hC hW hL1 rfl) hl.1 (by first | decide | (refine ⟨by decide, by decide, ?_, ?_⟩ <;> dsimp only <;> omega)) (Nat.le_of_ble_eq_true rfl) dX7_tell_242 (hs_kp1 (fun H locs hW hL => ?_))
      refine lv_iconst (v := 1) hx hb dX7_tell_245 (by decide) ?_
      refine lv_isub hx hb dX7_tell_246 ?_
      exact hs_iret hC hW hL hr hlocks (by show _ ≤ 5; omega) (by show _ ≤ 260; omega) dX7_tell_247 (Or.inl ⟨_, rfl, _, _, hTd, (((hT1.2.tr hTa.2).tr hTb.2).tr hTc.2).tr hFd, by omega, by omega, by omega⟩)
    · intro a9 hta9 H locs hW hL
      obtain ⟨hta, hno⟩ := hta9
      refine lv_astore (lv' := [(12, .ref _), (11, .ref _), (10, .int _), (9, .int _), (0, .ref _), (1, .int _), (2, .int _), (3, .int _), (4, .int _), (5, .int _), (6, .int _), (7, .int _), (8, .int _)]) hx hb dX7_tell_194 hl (by decide) rfl (fun ls hl => ?_)
      refine lv_aload hx hb dX7_tell_196 (lv_at hl 0 rfl) ?_
      refine lv_ifnull hx hb dX7_tell_198 ?_
      refine lv_aload_n hx hb dX7_tell_201 rfl (lv_at hl 4 rfl) ?_
      refine lv_aload hx hb dX7_tell_202 (lv_at hl 0 rfl) ?_
      refine hs_callV hC hs_Tok hW hL (ct_X7_match E (va_up t q (some (51, 0))) (va_up cap q 0) X d _ hT1.1 a9 hta hno h99) cw_X7_match lk_X7_94 im_X7_match se_X7_match (hs_recv hC hW hT1.1.house rfl) hl.1 (by first | decide | (refine ⟨by decide, by decide, ?_, ?_⟩ <;> dsimp only <;> omega)) (Nat.le_of_ble_eq_true rfl) dX7_tell_204 (hs_kV (fun G2 k n H locs hI hk hn hW hL => ?_))
      obtain ⟨t2, cap2, hT2, hF2, hc2, hk2, hn2⟩ := hI
      replace hk : k ≤ 3 := hk
      replace hn : n ≤ 234 := hn
      rw [e9] at hc2 hk2 hn2
      obtain ⟨nu5, te5, t5, w6, w7, st5, du5, ql5, am5, fa5, pr5, ip5, g5, hX2, -⟩ := hT2.tr (hF2.1 _ _ hta)
      refine lv_aload hx hb dX7_tell_207 (lv_at hl 0 rfl) ?_
      refine hs_getN hC hW hi_X5 rfl 0 (by decide) lk_X7_98 rfl hX2 rfl dX7_tell_209 ?_
      exact hs_iret hC hW hL hr hlocks (by show _ ≤ 5; omega) (by show _ ≤ 260; omega) dX7_tell_212 (Or.inl ⟨_, rfl, t2, cap2, hT2, hT1.2.tr hF2, by omega, by omega, by omega⟩)
  refine lv_iload hx hb dX7_tell_73 (lv_at hl 6 rfl) ?_
  refine lv_if_le (tgt := 82) hx hb dX7_tell_75 (by decide) (fun c75 => ?_) (fun c75 => ?_)
  · refine lv_iconst (v := 0) hx hb dX7_tell_82 (by decide) ?_
    refine hs_callS hC hs_Tok hW hL (ct_X7_checkArgument E hST G _) cw_X7_checkArgument lk_X7_52 st_X7_checkArgument hl.1 (by first | decide | (refine ⟨by decide, by decide, ?_, ?_⟩ <;> dsimp only <;> omega)) (Nat.le_of_ble_eq_true rfl) dX7_tell_83 (hs_kck hnoh hlocks (by decide) (by decide) (fun hno => Or.inr ⟨_, Or.inl rfl, rfl, rfl, rfl, rfl⟩) (fun hok83 H locs hW hL => ?_))
    exact absurd rfl hok83
  refine lv_iconst (v := 1) hx hb dX7_tell_78 (by decide) ?_
  refine lv_goto (tgt := 83) hx hb dX7_tell_79 (by decide) ?_
  refine hs_callS hC hs_Tok hW hL (ct_X7_checkArgument E hST G _) cw_X7_checkArgument lk_X7_52 st_X7_checkArgument hl.1 (by first | decide | (refine ⟨by decide, by decide, ?_, ?_⟩ <;> dsimp only <;> omega)) (Nat.le_of_ble_eq_true rfl) dX7_tell_83 (hs_kck hnoh hlocks (by decide) (by decide) (fun hno => Or.inr ⟨_, Or.inl rfl, rfl, rfl, rfl, rfl⟩) (fun hok83 H locs hW hL => ?_))
  refine lv_iload hx hb dX7_tell_86 (lv_at hl 7 rfl) ?_
  refine lv_iconst (v := 0) hx hb dX7_tell_88 (by decide) ?_
  refine lv_aload_n hx hb dX7_tell_89 rfl (lv_at hl 0 rfl) ?_
  refine hs_get hC hW hi_X7 rfl 0 (by decide) lk_X7_12 rfl hT.house rfl dX7_tell_90 ?_
  refine hs_getN hC hW hi_X0 rfl 1 (by decide) lk_X7_69 rfl hT.days rfl dX7_tell_93 ?_
  refine hs_callS hC hs_Tok hW hL (ct_X7_isWithin E _ _ _ _) cw_X7_isWithin lk_X7_48 st_X7_isWithin hl.1 (by first | decide | (refine ⟨by decide, by decide, ?_, ?_⟩ <;> dsimp only <;> omega)) (Nat.le_of_ble_eq_true rfl) dX7_tell_96 (hs_kp1 (fun H locs hW hL => ?_))
  refine lv_if_eq (tgt := 117) hx hb dX7_tell_99 (by decide) (fun c99 => ?_) (fun c99 => ?_)
  · refine lv_iconst (v := 0) hx hb dX7_tell_117 (by decide) ?_
    refine hs_callS hC hs_Tok hW hL (ct_X7_checkArgument E hST G _) cw_X7_checkArgument lk_X7_52 st_X7_checkArgument hl.1 (by first | decide | (refine ⟨by decide, by decide, ?_, ?_⟩ <;> dsimp only <;> omega)) (Nat.le_of_ble_eq_true rfl) dX7_tell_118 (hs_kck hnoh hlocks (by decide) (by decide) (fun hno => Or.inr ⟨_, Or.inl rfl, rfl, rfl, rfl, rfl⟩) (fun hok118 H locs hW hL => ?_))
    exact absurd rfl hok118
  refine lv_iload hx hb dX7_tell_102 (lv_at hl 8 rfl) ?_
  refine lv_iconst (v := 0) hx hb dX7_tell_104 (by decide) ?_
  refine lv_bipush (v := 10) hx hb dX7_tell_105 (by decide) ?_
  refine hs_callS hC hs_Tok hW hL (ct_X7_isWithin E _ _ _ _) cw_X7_isWithin lk_X7_48 st_X7_isWithin hl.1 (by first | decide | (refine ⟨by decide, by decide, ?_, ?_⟩ <;> dsimp only <;> omega)) (Nat.le_of_ble_eq_true rfl) dX7_tell_107 (hs_kp1 (fun H locs hW hL => ?_))
  refine lv_if_eq (tgt := 117) hx hb dX7_tell_110 (by decide) (fun c110 => ?_) (fun c110 => ?_)
  · refine lv_iconst (v := 0) hx hb dX7_tell_117 (by decide) ?_
    refine hs_callS hC hs_Tok hW hL (ct_X7_checkArgument E hST G _) cw_X7_checkArgument lk_X7_52 st_X7_checkArgument hl.1 (by first | decide | (refine ⟨by decide, by decide, ?_, ?_⟩ <;> dsimp only <;> omega)) (Nat.le_of_ble_eq_true rfl) dX7_tell_118 (hs_kck hnoh hlocks (by decide) (by decide) (fun hno => Or.inr ⟨_, Or.inl rfl, rfl, rfl, rfl, rfl⟩) (fun hok118 H locs hW hL => ?_))
    exact absurd rfl hok118
  refine lv_iconst (v := 1) hx hb dX7_tell_113 (by decide) ?_
  refine lv_goto (tgt := 118) hx hb dX7_tell_114 (by decide) ?_
  refine hs_callS hC hs_Tok hW hL (ct_X7_checkArgument E hST G _) cw_X7_checkArgument lk_X7_52 st_X7_checkArgument hl.1 (by first | decide | (refine ⟨by decide, by decide, ?_, ?_⟩ <;> dsimp only <;> omega)) (Nat.le_of_ble_eq_true rfl) dX7_tell_118 (hs_kck hnoh hlocks (by decide) (by decide) (fun hno => Or.inr ⟨_, Or.inl rfl, rfl, rfl, rfl, rfl⟩) (fun hok118 H locs hW hL => ?_))
  refine lv_aload_n hx hb dX7_tell_121 rfl (lv_at hl 0 rfl) ?_
  refine hs_get hC hW hi_X7 rfl 3 (by decide) lk_X7_33 rfl hT.house rfl dX7_tell_122 ?_
  refine hs_callV hC hs_Tok hW hL (ct_size E G (X 8) A9 sz9 mc9 hLo) cw_Jx4a65c_size_8abf5 lk_X7_81 im_Jx4a65c_size_8abf5 se_Jx4a65c_size_8abf5 (hs_recv hC hW hLo rfl) hl.1 (by first | decide | (refine ⟨by decide, by decide, ?_, ?_⟩ <;> dsimp only <;> omega)) (Nat.le_of_ble_eq_true rfl) dX7_tell_125 (hs_kp1 (fun H locs hW hL => ?_))
  refine lv_sipush (v := 150) hx hb dX7_tell_128 (by decide) ?_
  refine lv_icmp_ge (tgt := 138) hx hb dX7_tell_131 (by decide) (fun c131 => ?_) (fun c131 => ?_)
  · refine lv_iconst (v := 0) hx hb dX7_tell_138 (by decide) ?_
    refine hs_callS hC hs_Tok hW hL (ct_X7_checkState E hST G _) cw_X7_checkState lk_X7_62 st_X7_checkState hl.1 (by first | decide | (refine ⟨by decide, by decide, ?_, ?_⟩ <;> dsimp only <;> omega)) (Nat.le_of_ble_eq_true rfl) dX7_tell_139 (hs_kck hnoh hlocks (by decide) (by decide) (fun hno => Or.inr ⟨_, Or.inr rfl, rfl, rfl, rfl, rfl⟩) (fun hok139 H locs hW hL => ?_))
    exact absurd rfl hok139
  refine lv_iconst (v := 1) hx hb dX7_tell_134 (by decide) ?_
  refine lv_goto (tgt := 139) hx hb dX7_tell_135 (by decide) ?_
  refine hs_callS hC hs_Tok hW hL (ct_X7_checkState E hST G _) cw_X7_checkState lk_X7_62 st_X7_checkState hl.1 (by first | decide | (refine ⟨by decide, by decide, ?_, ?_⟩ <;> dsimp only <;> omega)) (Nat.le_of_ble_eq_true rfl) dX7_tell_139 (hs_kck hnoh hlocks (by decide) (by decide) (fun hno => Or.inr ⟨_, Or.inr rfl, rfl, rfl, rfl, rfl⟩) (fun hok139 H locs hW hL => ?_))
  obtain ⟨p9, hp9, rfl⟩ := cl_party c4
  obtain ⟨o9, ho9, rfl⟩ := cl_party c11
  have hpo : p9 ≠ o9 := fun z => c16 (congrArg nI z)
  have hq6 := hs_b_ne c46
  have hq7 := hs_b_ne c57
  rw [Int32.le_iff_toInt_le, Int32.le_iff_toInt_le, Int32.toInt_zero] at hq6 hq7
  have hb6 : 0 ≤ qu.toInt ∧ qu.toInt ≤ 1000000 ∧ 0 ≤ am.toInt ∧ am.toInt ≤ 1000000000 := ⟨hq6.1, hq6.2, hq7.1, hq7.2⟩
  obtain ⟨s9, hs9, rfl⟩ := cl_nat (n := 7) (by decide +kernel) (by decide) c27
  obtain ⟨dy9, hdy9, rfl⟩ := cl_nat (n := d) rfl (by have := hT.2.2.2.2.1; omega) c99
  obtain ⟨lg9, hlg9, rfl⟩ := cl_nat (n := 10) (by decide +kernel) (by decide) c110
  have hN9 : sz9 < 150 := Nat.not_le.mp fun z => c131 (by rw [show (150 : Int32) = nI 150 by decide +kernel]; exact (nI_leI (by decide) (by omega)).mpr z)
  refine lv_iload_n hx hb dX7_tell_142 rfl (lv_at hl 3 rfl) ?_
  refine lv_if_eq (tgt := 150) hx hb dX7_tell_143 (by decide) (fun c143 => ?_) (fun c143 => ?_)
  · refine lv_iload_n hx hb dX7_tell_150 rfl (lv_at hl 2 rfl) ?_
    refine lv_istore (lv' := [(9, .int _), (0, .ref _), (1, .int _), (2, .int _), (3, .int _), (4, .int _), (5, .int _), (6, .int _), (7, .int _), (8, .int _)]) hx hb dX7_tell_151 hl (by decide) rfl (fun ls hl => ?_)
    refine lv_iload_n hx hb dX7_tell_153 rfl (lv_at hl 4 rfl) ?_
    refine lv_if_eq (tgt := 161) hx hb dX7_tell_154 (by decide) (fun c154 => ?_) (fun c154 => ?_)
    · refine lv_iload_n hx hb dX7_tell_161 rfl (lv_at hl 2 rfl) ?_
      refine lv_istore (lv' := [(10, .int _), (9, .int _), (0, .ref _), (1, .int _), (2, .int _), (3, .int _), (4, .int _), (5, .int _), (6, .int _), (7, .int _), (8, .int _)]) hx hb dX7_tell_162 hl (by decide) rfl (fun ls hl => ?_)
      refine hs_new (ci := 5) hC hW hi_X4 tyX4 tyX4_ok lk_X7_85 ib_X4 ii_X4 rfl (fs := [.int 0, .int 0, .int 0, .int 0, .int 0, .int 0, .int 0]) (by decide) (by decide) (by decide) dX7_tell_164 (fun q H hqs hfq hW => ?_)
      refine lv_dup hx hb dX7_tell_167 rfl ?_
      refine lv_iload hx hb dX7_tell_168 (lv_at hl 1 rfl) ?_
      refine lv_iload hx hb dX7_tell_170 (lv_at hl 0 rfl) ?_
      refine lv_iload hx hb dX7_tell_172 (lv_at hl 6 rfl) ?_
      refine lv_iload hx hb dX7_tell_174 (lv_at hl 7 rfl) ?_
      refine lv_iload hx hb dX7_tell_176 (lv_at hl 8 rfl) ?_
      refine lv_iload hx hb dX7_tell_178 (lv_at hl 9 rfl) ?_
      refine lv_iload hx hb dX7_tell_180 (lv_at hl 10 rfl) ?_
      refine hs_callIN hC hs_Tok hW hL (ct_X4_init E _ q 0 0 0 0 0 0 0 _ _ _ _ _ _ _ (hs_up_eq _ _ _) hqs) cw_X4_init lk_X7_87 im_X4_init rfl hl.1 (by first | decide | (refine ⟨by decide, by decide, ?_, ?_⟩ <;> dsimp only <;> omega)) (Nat.le_of_ble_eq_true rfl) dX7_tell_182 (hs_kV (fun G1 k n H locs hI hk hn hW hL => ?_))
      obtain ⟨rfl, rfl, rfl⟩ := hI
      rw [hs_up_up] at hW
      have hT1 := hT.nE (q := q) (de := o9) (re := p9) (se := s9) (qu := qu) (am := am) (dy := dy9) (lg := lg9) hfq hqs ho9 hp9 (by omega) (by have := hT.2.2.2.2.1; omega) hlg9 ⟨hpo.symm, hb6⟩
      have h9q : X 9 ≠ q := fun z => by have h1 := hT.tag 9 (by decide); rw [z, hT.fresh hfq] at h1; cases h1
      have h8q : X 8 ≠ q := fun z => by have h1 := hT.tag 8 (by decide); rw [z, hT.fresh hfq] at h1; cases h1
      have e9 : (va_up cap q 0) (X 9) = cap (X 9) := va_up_ne _ _ h9q
      have hLo1 := (hs_up_ne G (cl_te o9 p9 s9 qu am dy9 lg9) h8q).trans hLo
      refine lv_astore (lv' := [(11, .ref _), (10, .int _), (9, .int _), (0, .ref _), (1, .int _), (2, .int _), (3, .int _), (4, .int _), (5, .int _), (6, .int _), (7, .int _), (8, .int _)]) hx hb dX7_tell_185 hl (by decide) rfl (fun ls hl => ?_)
      refine lv_aload_n hx hb dX7_tell_187 rfl (lv_at hl 3 rfl) ?_
      refine lv_aload hx hb dX7_tell_188 (lv_at hl 0 rfl) ?_
      refine lv_iload_n hx hb dX7_tell_190 rfl (lv_at hl 5 rfl) ?_
      refine hs_callV hC hs_Tok hW hL (ct_X7_firstUnmatched E (va_up t q (some (51, 0))) (va_up cap q 0) X d _ hT1.1 q (va_up_self _ _ _) _) cw_X7_firstUnmatched lk_X7_90 im_X7_firstUnmatched se_X7_firstUnmatched (hs_recv hC hW hT1.1.house rfl) hl.1 (by decide) (Nat.le_of_ble_eq_true rfl) dX7_tell_191 (hs_kN ?_ ?_)
      · intro H locs hW hL
        refine lv_astoreN (lv' := [(12, .null), (11, .ref _), (10, .int _), (9, .int _), (0, .ref _), (1, .int _), (2, .int _), (3, .int _), (4, .int _), (5, .int _), (6, .int _), (7, .int _), (8, .int _)]) hx hb dX7_tell_194 hl (by decide) rfl (fun ls hl => ?_)
        refine lv_aloadN hx hb dX7_tell_196 (lv_at hl 0 rfl) ?_
        refine lv_ifnullN (tgt := 213) hx hb dX7_tell_198 (by decide) ?_
        refine lv_aload_n hx hb dX7_tell_213 rfl (lv_at hl 4 rfl) ?_
        refine hs_get hC hW hi_X7 rfl 3 (by decide) lk_X7_33 rfl hT1.1.house rfl dX7_tell_214 ?_
        refine hs_new (ci := 6) hC hW hi_X5 tyX5 tyX5_ok lk_X7_99 ib_X5 ii_X5 rfl (fs := [.int 0, .int 0, .null, .null, .null, .int 0, .int 0, .int 0, .int 0, .int 0, .int 0, .int 0, .null]) (by decide) (by decide) (by decide) dX7_tell_217 (fun q2 H hq2s hfq2 hW => ?_)
        have hqq2 : q ≠ q2 := fun z => by rw [← z, hs_up_eq] at hfq2; cases hfq2
        have h0q2 : X 0 ≠ q2 := fun z => by rw [← z, hT1.1.house] at hfq2; cases hfq2
        have h8q2 : X 8 ≠ q2 := fun z => by have h1 := hT1.1.tag 8 (by decide); rw [z, hT1.1.fresh hfq2] at h1; cases h1
        have h9q2 : X 9 ≠ q2 := fun z => by have h1 := hT1.1.tag 9 (by decide); rw [z, hT1.1.fresh hfq2] at h1; cases h1
        refine lv_dup hx hb dX7_tell_220 rfl ?_
        refine lv_aload_n hx hb dX7_tell_221 rfl (lv_at hl 4 rfl) ?_
        refine hs_get hC hW hi_X7 rfl 3 (by decide) lk_X7_33 rfl ((hs_up_ne _ _ h0q2).trans hT1.1.house) rfl dX7_tell_222 ?_
        refine hs_callV hC hs_Tok hW hL (ct_size E _ (X 8) A9 sz9 mc9 ((hs_up_ne _ _ h8q2).trans hLo1)) cw_Jx4a65c_size_8abf5 lk_X7_81 im_Jx4a65c_size_8abf5 se_Jx4a65c_size_8abf5 (hs_recv hC hW ((hs_up_ne _ _ h8q2).trans hLo1) rfl) hl.1 (by first | decide | (refine ⟨by decide, by decide, ?_, ?_⟩ <;> dsimp only <;> omega)) (Nat.le_of_ble_eq_true rfl) dX7_tell_225 (hs_kp1 (fun H locs hW hL => ?_))
        refine lv_iload_n hx hb dX7_tell_228 rfl (lv_at hl 5 rfl) ?_
        refine lv_aload hx hb dX7_tell_229 (lv_at hl 1 rfl) ?_
        refine hs_callIN hC hs_Tok hW hL (ct_X5_init E _ q2 q _ _ o9 p9 s9 qu am dy9 lg9 (hs_up_eq _ _ _) hq2s ((hs_up_ne _ _ hqq2).trans (hs_up_eq _ _ _))) cw_X5_init lk_X7_103 im_X5_init rfl hl.1 (by first | decide | (refine ⟨by decide, by decide, ?_, ?_⟩ <;> dsimp only <;> omega)) (Nat.le_of_ble_eq_true rfl) dX7_tell_231 (hs_kV (fun G2 k n H locs hI hk hn hW hL => ?_))
        obtain ⟨rfl, rfl, r1, r2, e1, e2, e3, e4, e5, e6, e7, rfl⟩ := hI
        rw [al_S3 e6 e7] at hW
        rw [hs_up_ne _ _ e6] at e1
        rw [hs_up_ne _ _ e7] at e3
        have hTa := hT1.1.nS (q := r1) e1 e2 0 0
        have e3b := (hs_up_ne _ (.inr (4, [.int 0, .int 0])) e5.symm).trans e3
        have hTb := hTa.1.nS (q := r2) e3b e4 0 0
        have hfq3 := (hs_up_ne _ (.inr (4, [.int 0, .int 0])) e7.symm).trans ((hs_up_ne _ (.inr (4, [.int 0, .int 0])) e6.symm).trans hfq2)
        have hTc := hTb.1.nT (q := q2) (nu := nI sz9) (te := nI p9) (st := 0) (du := -1) (ql := qu) (am := am) (fa := 0) (pr := 1) (ip := 0) hfq3 hq2s (hTb.2.1 _ _ (hTa.2.1 _ _ (va_up_self _ _ _))) (hTb.2.1 _ _ (va_up_self _ _ _)) (va_up_self _ _ _) hb6
        have h8r1 : X 8 ≠ r1 := fun z => by have h1 := hT1.1.tag 8 (by decide); rw [z, hT1.1.fresh e1] at h1; cases h1
        have h8r2 : X 8 ≠ r2 := fun z => by have h1 := hTa.1.tag 8 (by decide); rw [z, hTa.1.fresh e3b] at h1; cases h1
        have h9r1 : X 9 ≠ r1 := fun z => by have h1 := hT1.1.tag 9 (by decide); rw [z, hT1.1.fresh e1] at h1; cases h1
        have h9r2 : X 9 ≠ r2 := fun z => by have h1 := hTa.1.tag 9 (by decide); rw [z, hTa.1.fresh e3b] at h1; cases h1
        have hLo3 := (hs_up_ne _ (cl_tr (nI sz9) (nI p9) q r1 r2 0 (-1) qu am 0 1 0 .null) h8q2).trans ((hs_up_ne _ (.inr (4, [.int 0, .int 0])) h8r2).trans ((hs_up_ne _ (.inr (4, [.int 0, .int 0])) h8r1).trans hLo1))
        obtain ⟨f5, hLa5, hsc5, hmx5, hcp5, hel5, hAA5⟩ := hTc.1.l8.at hLo3 (by omega)
        have e93 : (va_up (va_up (va_up (va_up cap q 0) r1 0) r2 0) q2 0) (X 9) = cap (X 9) := (va_up_ne _ _ h9q2).trans ((va_up_ne _ _ h9r2).trans ((va_up_ne _ _ h9r1).trans e9))
        refine hs_callV hC hs_Tok hW hL (ct_add E _ (X 8) A9 sz9 mc9 hLo3 _ f5 hLa5 hsc5 (by omega) (by omega) (fun z => hAA5.elim (fun w => w.1) (fun w => absurd z (by omega))) (fun z => hTc.1.sz (hAA5.resolve_left (fun w => by omega)).1) (hT.szX 8 (by decide)) 6 cl_el6 (cl_elT hTc.1 hel5) q2 _ (hs_up_eq _ _ _)) cw_Jx4a65c_add_9ea2d lk_X7_106 im_Jx4a65c_add_9ea2d se_Jx4a65c_add_9ea2d (hs_recv hC hW hLo3 rfl) hl.1 (by first | decide | (refine ⟨by decide, by decide, ?_, ?_⟩ <;> dsimp only <;> omega)) (Nat.le_of_ble_eq_true rfl) dX7_tell_234 (hs_kI (fun z G4 k n H locs hI hk hn hW hL => ?_))
        replace hk : k ≤ 1 := hk
        replace hn : n ≤ 230 := hn
        obtain ⟨A1, c1, hTd, hFd, hL1, hc1, hk1, hn1, hk2, hn2, -⟩ := hTc.1.add (hTc.1.tag 8 (by decide)) (Or.inl ⟨rfl, rfl, rfl⟩) hLa5 hLo3 hAA5 hcp5 hN9 (Nat.le_refl _) hel5 (va_up_self _ _ _) (fun z => absurd z (by decide)) hI
        have e94 : (va_up (va_up (va_up (va_up (va_up cap q 0) r1 0) r2 0) q2 0) (X 8) c1) (X 9) = cap (X 9) := (va_up_ne _ _ (hT.ne (by decide) (by decide) (by decide))).trans e93
        refine lv_pop hx hb dX7_tell_237 rfl ?_
        refine lv_aload_n hx hb dX7_tell_238 rfl (lv_at hl 4 rfl) ?_
        refine hs_get hC hW hi_X7 rfl 3 (by decide) lk_X7_33 rfl hTd.house rfl dX7_tell_239 ?_
        refine hs_callV hC hs_Tok hW hL (ct_size E _ (X 8) A1 (sz9 + 1) _ hL1) cw_Jx4a65c_size_8abf5 lk_X7_81 im_Jx4a65c_size_8abf5 se_Jx4a65c_size_8abf5 (hs_recv hC hW hL1 rfl) hl.1 (by first | decide | (refine ⟨by decide, by decide, ?_, ?_⟩ <;> dsimp only <;> omega)) (Nat.le_of_ble_eq_true rfl) dX7_tell_242 (hs_kp1 (fun H locs hW hL => ?_))
        refine lv_iconst (v := 1) hx hb dX7_tell_245 (by decide) ?_
        refine lv_isub hx hb dX7_tell_246 ?_
        exact hs_iret hC hW hL hr hlocks (by show _ ≤ 5; omega) (by show _ ≤ 260; omega) dX7_tell_247 (Or.inl ⟨_, rfl, _, _, hTd, (((hT1.2.tr hTa.2).tr hTb.2).tr hTc.2).tr hFd, by omega, by omega, by omega⟩)
      · intro a9 hta9 H locs hW hL
        obtain ⟨hta, hno⟩ := hta9
        refine lv_astore (lv' := [(12, .ref _), (11, .ref _), (10, .int _), (9, .int _), (0, .ref _), (1, .int _), (2, .int _), (3, .int _), (4, .int _), (5, .int _), (6, .int _), (7, .int _), (8, .int _)]) hx hb dX7_tell_194 hl (by decide) rfl (fun ls hl => ?_)
        refine lv_aload hx hb dX7_tell_196 (lv_at hl 0 rfl) ?_
        refine lv_ifnull hx hb dX7_tell_198 ?_
        refine lv_aload_n hx hb dX7_tell_201 rfl (lv_at hl 4 rfl) ?_
        refine lv_aload hx hb dX7_tell_202 (lv_at hl 0 rfl) ?_
        refine hs_callV hC hs_Tok hW hL (ct_X7_match E (va_up t q (some (51, 0))) (va_up cap q 0) X d _ hT1.1 a9 hta hno h99) cw_X7_match lk_X7_94 im_X7_match se_X7_match (hs_recv hC hW hT1.1.house rfl) hl.1 (by first | decide | (refine ⟨by decide, by decide, ?_, ?_⟩ <;> dsimp only <;> omega)) (Nat.le_of_ble_eq_true rfl) dX7_tell_204 (hs_kV (fun G2 k n H locs hI hk hn hW hL => ?_))
        obtain ⟨t2, cap2, hT2, hF2, hc2, hk2, hn2⟩ := hI
        replace hk : k ≤ 3 := hk
        replace hn : n ≤ 234 := hn
        rw [e9] at hc2 hk2 hn2
        obtain ⟨nu5, te5, t5, w6, w7, st5, du5, ql5, am5, fa5, pr5, ip5, g5, hX2, -⟩ := hT2.tr (hF2.1 _ _ hta)
        refine lv_aload hx hb dX7_tell_207 (lv_at hl 0 rfl) ?_
        refine hs_getN hC hW hi_X5 rfl 0 (by decide) lk_X7_98 rfl hX2 rfl dX7_tell_209 ?_
        exact hs_iret hC hW hL hr hlocks (by show _ ≤ 5; omega) (by show _ ≤ 260; omega) dX7_tell_212 (Or.inl ⟨_, rfl, t2, cap2, hT2, hT1.2.tr hF2, by omega, by omega, by omega⟩)
    refine lv_iload_n hx hb dX7_tell_157 rfl (lv_at hl 3 rfl) ?_
    refine lv_goto (tgt := 162) hx hb dX7_tell_158 (by decide) ?_
    refine lv_istore (lv' := [(10, .int _), (9, .int _), (0, .ref _), (1, .int _), (2, .int _), (3, .int _), (4, .int _), (5, .int _), (6, .int _), (7, .int _), (8, .int _)]) hx hb dX7_tell_162 hl (by decide) rfl (fun ls hl => ?_)
    refine hs_new (ci := 5) hC hW hi_X4 tyX4 tyX4_ok lk_X7_85 ib_X4 ii_X4 rfl (fs := [.int 0, .int 0, .int 0, .int 0, .int 0, .int 0, .int 0]) (by decide) (by decide) (by decide) dX7_tell_164 (fun q H hqs hfq hW => ?_)
    refine lv_dup hx hb dX7_tell_167 rfl ?_
    refine lv_iload hx hb dX7_tell_168 (lv_at hl 1 rfl) ?_
    refine lv_iload hx hb dX7_tell_170 (lv_at hl 0 rfl) ?_
    refine lv_iload hx hb dX7_tell_172 (lv_at hl 6 rfl) ?_
    refine lv_iload hx hb dX7_tell_174 (lv_at hl 7 rfl) ?_
    refine lv_iload hx hb dX7_tell_176 (lv_at hl 8 rfl) ?_
    refine lv_iload hx hb dX7_tell_178 (lv_at hl 9 rfl) ?_
    refine lv_iload hx hb dX7_tell_180 (lv_at hl 10 rfl) ?_
    refine hs_callIN hC hs_Tok hW hL (ct_X4_init E _ q 0 0 0 0 0 0 0 _ _ _ _ _ _ _ (hs_up_eq _ _ _) hqs) cw_X4_init lk_X7_87 im_X4_init rfl hl.1 (by first | decide | (refine ⟨by decide, by decide, ?_, ?_⟩ <;> dsimp only <;> omega)) (Nat.le_of_ble_eq_true rfl) dX7_tell_182 (hs_kV (fun G1 k n H locs hI hk hn hW hL => ?_))
    obtain ⟨rfl, rfl, rfl⟩ := hI
    rw [hs_up_up] at hW
    first | exact absurd c154 c143 | exact absurd c143 c154
  refine lv_iload_n hx hb dX7_tell_146 rfl (lv_at hl 1 rfl) ?_
  refine lv_goto (tgt := 151) hx hb dX7_tell_147 (by decide) ?_
  refine lv_istore (lv' := [(9, .int _), (0, .ref _), (1, .int _), (2, .int _), (3, .int _), (4, .int _), (5, .int _), (6, .int _), (7, .int _), (8, .int _)]) hx hb dX7_tell_151 hl (by decide) rfl (fun ls hl => ?_)
  refine lv_iload_n hx hb dX7_tell_153 rfl (lv_at hl 4 rfl) ?_
  refine lv_if_eq (tgt := 161) hx hb dX7_tell_154 (by decide) (fun c154 => ?_) (fun c154 => ?_)
  · refine lv_iload_n hx hb dX7_tell_161 rfl (lv_at hl 2 rfl) ?_
    refine lv_istore (lv' := [(10, .int _), (9, .int _), (0, .ref _), (1, .int _), (2, .int _), (3, .int _), (4, .int _), (5, .int _), (6, .int _), (7, .int _), (8, .int _)]) hx hb dX7_tell_162 hl (by decide) rfl (fun ls hl => ?_)
    refine hs_new (ci := 5) hC hW hi_X4 tyX4 tyX4_ok lk_X7_85 ib_X4 ii_X4 rfl (fs := [.int 0, .int 0, .int 0, .int 0, .int 0, .int 0, .int 0]) (by decide) (by decide) (by decide) dX7_tell_164 (fun q H hqs hfq hW => ?_)
    refine lv_dup hx hb dX7_tell_167 rfl ?_
    refine lv_iload hx hb dX7_tell_168 (lv_at hl 1 rfl) ?_
    refine lv_iload hx hb dX7_tell_170 (lv_at hl 0 rfl) ?_
    refine lv_iload hx hb dX7_tell_172 (lv_at hl 6 rfl) ?_
    refine lv_iload hx hb dX7_tell_174 (lv_at hl 7 rfl) ?_
    refine lv_iload hx hb dX7_tell_176 (lv_at hl 8 rfl) ?_
    refine lv_iload hx hb dX7_tell_178 (lv_at hl 9 rfl) ?_
    refine lv_iload hx hb dX7_tell_180 (lv_at hl 10 rfl) ?_
    refine hs_callIN hC hs_Tok hW hL (ct_X4_init E _ q 0 0 0 0 0 0 0 _ _ _ _ _ _ _ (hs_up_eq _ _ _) hqs) cw_X4_init lk_X7_87 im_X4_init rfl hl.1 (by first | decide | (refine ⟨by decide, by decide, ?_, ?_⟩ <;> dsimp only <;> omega)) (Nat.le_of_ble_eq_true rfl) dX7_tell_182 (hs_kV (fun G1 k n H locs hI hk hn hW hL => ?_))
    obtain ⟨rfl, rfl, rfl⟩ := hI
    rw [hs_up_up] at hW
    first | exact absurd c154 c143 | exact absurd c143 c154
  refine lv_iload_n hx hb dX7_tell_157 rfl (lv_at hl 3 rfl) ?_
  refine lv_goto (tgt := 162) hx hb dX7_tell_158 (by decide) ?_
  refine lv_istore (lv' := [(10, .int _), (9, .int _), (0, .ref _), (1, .int _), (2, .int _), (3, .int _), (4, .int _), (5, .int _), (6, .int _), (7, .int _), (8, .int _)]) hx hb dX7_tell_162 hl (by decide) rfl (fun ls hl => ?_)
  refine hs_new (ci := 5) hC hW hi_X4 tyX4 tyX4_ok lk_X7_85 ib_X4 ii_X4 rfl (fs := [.int 0, .int 0, .int 0, .int 0, .int 0, .int 0, .int 0]) (by decide) (by decide) (by decide) dX7_tell_164 (fun q H hqs hfq hW => ?_)
  refine lv_dup hx hb dX7_tell_167 rfl ?_
  refine lv_iload hx hb dX7_tell_168 (lv_at hl 1 rfl) ?_
  refine lv_iload hx hb dX7_tell_170 (lv_at hl 0 rfl) ?_
  refine lv_iload hx hb dX7_tell_172 (lv_at hl 6 rfl) ?_
  refine lv_iload hx hb dX7_tell_174 (lv_at hl 7 rfl) ?_
  refine lv_iload hx hb dX7_tell_176 (lv_at hl 8 rfl) ?_
  refine lv_iload hx hb dX7_tell_178 (lv_at hl 9 rfl) ?_
  refine lv_iload hx hb dX7_tell_180 (lv_at hl 10 rfl) ?_
  refine hs_callIN hC hs_Tok hW hL (ct_X4_init E _ q 0 0 0 0 0 0 0 _ _ _ _ _ _ _ (hs_up_eq _ _ _) hqs) cw_X4_init lk_X7_87 im_X4_init rfl hl.1 (by first | decide | (refine ⟨by decide, by decide, ?_, ?_⟩ <;> dsimp only <;> omega)) (Nat.le_of_ble_eq_true rfl) dX7_tell_182 (hs_kV (fun G1 k n H locs hI hk hn hW hL => ?_))
  obtain ⟨rfl, rfl, rfl⟩ := hI
  rw [hs_up_up] at hW
  have hT1 := hT.nE (q := q) (de := p9) (re := o9) (se := s9) (qu := qu) (am := am) (dy := dy9) (lg := lg9) hfq hqs hp9 ho9 (by omega) (by have := hT.2.2.2.2.1; omega) hlg9 ⟨hpo, hb6⟩
  have h9q : X 9 ≠ q := fun z => by have h1 := hT.tag 9 (by decide); rw [z, hT.fresh hfq] at h1; cases h1
  have h8q : X 8 ≠ q := fun z => by have h1 := hT.tag 8 (by decide); rw [z, hT.fresh hfq] at h1; cases h1
  have e9 : (va_up cap q 0) (X 9) = cap (X 9) := va_up_ne _ _ h9q
  have hLo1 := (hs_up_ne G (cl_te p9 o9 s9 qu am dy9 lg9) h8q).trans hLo
  refine lv_astore (lv' := [(11, .ref _), (10, .int _), (9, .int _), (0, .ref _), (1, .int _), (2, .int _), (3, .int _), (4, .int _), (5, .int _), (6, .int _), (7, .int _), (8, .int _)]) hx hb dX7_tell_185 hl (by decide) rfl (fun ls hl => ?_)
  refine lv_aload_n hx hb dX7_tell_187 rfl (lv_at hl 3 rfl) ?_
  refine lv_aload hx hb dX7_tell_188 (lv_at hl 0 rfl) ?_
  refine lv_iload_n hx hb dX7_tell_190 rfl (lv_at hl 5 rfl) ?_
  refine hs_callV hC hs_Tok hW hL (ct_X7_firstUnmatched E (va_up t q (some (51, 0))) (va_up cap q 0) X d _ hT1.1 q (va_up_self _ _ _) _) cw_X7_firstUnmatched lk_X7_90 im_X7_firstUnmatched se_X7_firstUnmatched (hs_recv hC hW hT1.1.house rfl) hl.1 (by decide) (Nat.le_of_ble_eq_true rfl) dX7_tell_191 (hs_kN ?_ ?_)
  · intro H locs hW hL
    refine lv_astoreN (lv' := [(12, .null), (11, .ref _), (10, .int _), (9, .int _), (0, .ref _), (1, .int _), (2, .int _), (3, .int _), (4, .int _), (5, .int _), (6, .int _), (7, .int _), (8, .int _)]) hx hb dX7_tell_194 hl (by decide) rfl (fun ls hl => ?_)
    refine lv_aloadN hx hb dX7_tell_196 (lv_at hl 0 rfl) ?_
    refine lv_ifnullN (tgt := 213) hx hb dX7_tell_198 (by decide) ?_
    refine lv_aload_n hx hb dX7_tell_213 rfl (lv_at hl 4 rfl) ?_
    refine hs_get hC hW hi_X7 rfl 3 (by decide) lk_X7_33 rfl hT1.1.house rfl dX7_tell_214 ?_
    refine hs_new (ci := 6) hC hW hi_X5 tyX5 tyX5_ok lk_X7_99 ib_X5 ii_X5 rfl (fs := [.int 0, .int 0, .null, .null, .null, .int 0, .int 0, .int 0, .int 0, .int 0, .int 0, .int 0, .null]) (by decide) (by decide) (by decide) dX7_tell_217 (fun q2 H hq2s hfq2 hW => ?_)
    have hqq2 : q ≠ q2 := fun z => by rw [← z, hs_up_eq] at hfq2; cases hfq2
    have h0q2 : X 0 ≠ q2 := fun z => by rw [← z, hT1.1.house] at hfq2; cases hfq2
    have h8q2 : X 8 ≠ q2 := fun z => by have h1 := hT1.1.tag 8 (by decide); rw [z, hT1.1.fresh hfq2] at h1; cases h1
    have h9q2 : X 9 ≠ q2 := fun z => by have h1 := hT1.1.tag 9 (by decide); rw [z, hT1.1.fresh hfq2] at h1; cases h1
    refine lv_dup hx hb dX7_tell_220 rfl ?_
    refine lv_aload_n hx hb dX7_tell_221 rfl (lv_at hl 4 rfl) ?_
    refine hs_get hC hW hi_X7 rfl 3 (by decide) lk_X7_33 rfl ((hs_up_ne _ _ h0q2).trans hT1.1.house) rfl dX7_tell_222 ?_
    refine hs_callV hC hs_Tok hW hL (ct_size E _ (X 8) A9 sz9 mc9 ((hs_up_ne _ _ h8q2).trans hLo1)) cw_Jx4a65c_size_8abf5 lk_X7_81 im_Jx4a65c_size_8abf5 se_Jx4a65c_size_8abf5 (hs_recv hC hW ((hs_up_ne _ _ h8q2).trans hLo1) rfl) hl.1 (by first | decide | (refine ⟨by decide, by decide, ?_, ?_⟩ <;> dsimp only <;> omega)) (Nat.le_of_ble_eq_true rfl) dX7_tell_225 (hs_kp1 (fun H locs hW hL => ?_))
    refine lv_iload_n hx hb dX7_tell_228 rfl (lv_at hl 5 rfl) ?_
    refine lv_aload hx hb dX7_tell_229 (lv_at hl 1 rfl) ?_
    refine hs_callIN hC hs_Tok hW hL (ct_X5_init E _ q2 q _ _ p9 o9 s9 qu am dy9 lg9 (hs_up_eq _ _ _) hq2s ((hs_up_ne _ _ hqq2).trans (hs_up_eq _ _ _))) cw_X5_init lk_X7_103 im_X5_init rfl hl.1 (by first | decide | (refine ⟨by decide, by decide, ?_, ?_⟩ <;> dsimp only <;> omega)) (Nat.le_of_ble_eq_true rfl) dX7_tell_231 (hs_kV (fun G2 k n H locs hI hk hn hW hL => ?_))
    obtain ⟨rfl, rfl, r1, r2, e1, e2, e3, e4, e5, e6, e7, rfl⟩ := hI
    rw [al_S3 e6 e7] at hW
    rw [hs_up_ne _ _ e6] at e1
    rw [hs_up_ne _ _ e7] at e3
    have hTa := hT1.1.nS (q := r1) e1 e2 0 0
    have e3b := (hs_up_ne _ (.inr (4, [.int 0, .int 0])) e5.symm).trans e3
    have hTb := hTa.1.nS (q := r2) e3b e4 0 0
    have hfq3 := (hs_up_ne _ (.inr (4, [.int 0, .int 0])) e7.symm).trans ((hs_up_ne _ (.inr (4, [.int 0, .int 0])) e6.symm).trans hfq2)
    have hTc := hTb.1.nT (q := q2) (nu := nI sz9) (te := nI p9) (st := 0) (du := -1) (ql := qu) (am := am) (fa := 0) (pr := 1) (ip := 0) hfq3 hq2s (hTb.2.1 _ _ (hTa.2.1 _ _ (va_up_self _ _ _))) (hTb.2.1 _ _ (va_up_self _ _ _)) (va_up_self _ _ _) hb6
    have h8r1 : X 8 ≠ r1 := fun z => by have h1 := hT1.1.tag 8 (by decide); rw [z, hT1.1.fresh e1] at h1; cases h1
    have h8r2 : X 8 ≠ r2 := fun z => by have h1 := hTa.1.tag 8 (by decide); rw [z, hTa.1.fresh e3b] at h1; cases h1
    have h9r1 : X 9 ≠ r1 := fun z => by have h1 := hT1.1.tag 9 (by decide); rw [z, hT1.1.fresh e1] at h1; cases h1
    have h9r2 : X 9 ≠ r2 := fun z => by have h1 := hTa.1.tag 9 (by decide); rw [z, hTa.1.fresh e3b] at h1; cases h1
    have hLo3 := (hs_up_ne _ (cl_tr (nI sz9) (nI p9) q r1 r2 0 (-1) qu am 0 1 0 .null) h8q2).trans ((hs_up_ne _ (.inr (4, [.int 0, .int 0])) h8r2).trans ((hs_up_ne _ (.inr (4, [.int 0, .int 0])) h8r1).trans hLo1))
    obtain ⟨f5, hLa5, hsc5, hmx5, hcp5, hel5, hAA5⟩ := hTc.1.l8.at hLo3 (by omega)
    have e93 : (va_up (va_up (va_up (va_up cap q 0) r1 0) r2 0) q2 0) (X 9) = cap (X 9) := (va_up_ne _ _ h9q2).trans ((va_up_ne _ _ h9r2).trans ((va_up_ne _ _ h9r1).trans e9))
    refine hs_callV hC hs_Tok hW hL (ct_add E _ (X 8) A9 sz9 mc9 hLo3 _ f5 hLa5 hsc5 (by omega) (by omega) (fun z => hAA5.elim (fun w => w.1) (fun w => absurd z (by omega))) (fun z => hTc.1.sz (hAA5.resolve_left (fun w => by omega)).1) (hT.szX 8 (by decide)) 6 cl_el6 (cl_elT hTc.1 hel5) q2 _ (hs_up_eq _ _ _)) cw_Jx4a65c_add_9ea2d lk_X7_106 im_Jx4a65c_add_9ea2d se_Jx4a65c_add_9ea2d (hs_recv hC hW hLo3 rfl) hl.1 (by first | decide | (refine ⟨by decide, by decide, ?_, ?_⟩ <;> dsimp only <;> omega)) (Nat.le_of_ble_eq_true rfl) dX7_tell_234 (hs_kI (fun z G4 k n H locs hI hk hn hW hL => ?_))
    replace hk : k ≤ 1 := hk
    replace hn : n ≤ 230 := hn
    obtain ⟨A1, c1, hTd, hFd, hL1, hc1, hk1, hn1, hk2, hn2, -⟩ := hTc.1.add (hTc.1.tag 8 (by decide)) (Or.inl ⟨rfl, rfl, rfl⟩) hLa5 hLo3 hAA5 hcp5 hN9 (Nat.le_refl _) hel5 (va_up_self _ _ _) (fun z => absurd z (by decide)) hI
    have e94 : (va_up (va_up (va_up (va_up (va_up cap q 0) r1 0) r2 0) q2 0) (X 8) c1) (X 9) = cap (X 9) := (va_up_ne _ _ (hT.ne (by decide) (by decide) (by decide))).trans e93
    refine lv_pop hx hb dX7_tell_237 rfl ?_
    refine lv_aload_n hx hb dX7_tell_238 rfl (lv_at hl 4 rfl) ?_
    refine hs_get hC hW hi_X7 rfl 3 (by decide) lk_X7_33 rfl hTd.house rfl dX7_tell_239 ?_
    refine hs_callV hC hs_Tok hW hL (ct_size E _ (X 8) A1 (sz9 + 1) _ hL1) cw_Jx4a65c_size_8abf5 lk_X7_81 im_Jx4a65c_size_8abf5 se_Jx4a65c_size_8abf5 (hs_recv hC hW hL1 rfl) hl.1 (by first | decide | (refine ⟨by decide, by decide, ?_, ?_⟩ <;> dsimp only <;> omega)) (Nat.le_of_ble_eq_true rfl) dX7_tell_242 (hs_kp1 (fun H locs hW hL => ?_))
    refine lv_iconst (v := 1) hx hb dX7_tell_245 (by decide) ?_
    refine lv_isub hx hb dX7_tell_246 ?_
    exact hs_iret hC hW hL hr hlocks (by show _ ≤ 5; omega) (by show _ ≤ 260; omega) dX7_tell_247 (Or.inl ⟨_, rfl, _, _, hTd, (((hT1.2.tr hTa.2).tr hTb.2).tr hTc.2).tr hFd, by omega, by omega, by omega⟩)
  · intro a9 hta9 H locs hW hL
    obtain ⟨hta, hno⟩ := hta9
    refine lv_astore (lv' := [(12, .ref _), (11, .ref _), (10, .int _), (9, .int _), (0, .ref _), (1, .int _), (2, .int _), (3, .int _), (4, .int _), (5, .int _), (6, .int _), (7, .int _), (8, .int _)]) hx hb dX7_tell_194 hl (by decide) rfl (fun ls hl => ?_)
    refine lv_aload hx hb dX7_tell_196 (lv_at hl 0 rfl) ?_
    refine lv_ifnull hx hb dX7_tell_198 ?_
    refine lv_aload_n hx hb dX7_tell_201 rfl (lv_at hl 4 rfl) ?_
    refine lv_aload hx hb dX7_tell_202 (lv_at hl 0 rfl) ?_
    refine hs_callV hC hs_Tok hW hL (ct_X7_match E (va_up t q (some (51, 0))) (va_up cap q 0) X d _ hT1.1 a9 hta hno h99) cw_X7_match lk_X7_94 im_X7_match se_X7_match (hs_recv hC hW hT1.1.house rfl) hl.1 (by first | decide | (refine ⟨by decide, by decide, ?_, ?_⟩ <;> dsimp only <;> omega)) (Nat.le_of_ble_eq_true rfl) dX7_tell_204 (hs_kV (fun G2 k n H locs hI hk hn hW hL => ?_))
    obtain ⟨t2, cap2, hT2, hF2, hc2, hk2, hn2⟩ := hI
    replace hk : k ≤ 3 := hk
    replace hn : n ≤ 234 := hn
    rw [e9] at hc2 hk2 hn2
    obtain ⟨nu5, te5, t5, w6, w7, st5, du5, ql5, am5, fa5, pr5, ip5, g5, hX2, -⟩ := hT2.tr (hF2.1 _ _ hta)
    refine lv_aload hx hb dX7_tell_207 (lv_at hl 0 rfl) ?_
    refine hs_getN hC hW hi_X5 rfl 0 (by decide) lk_X7_98 rfl hX2 rfl dX7_tell_209 ?_
    exact hs_iret hC hW hL hr hlocks (by show _ ≤ 5; omega) (by show _ ≤ 260; omega) dX7_tell_212 (Or.inl ⟨_, rfl, t2, cap2, hT2, hT1.2.tr hF2, by omega, by omega, by omega⟩)
