/-! the law's start: the tables, the store -/
set_option maxHeartbeats 4000000 in
set_option maxRecDepth 100000 in
theorem lw_env (l : Launch) {s : State} {b : Nat} (hts : ∀ w ∈ lw_tbl, w.before #[Value.ref b] s = true) (hgv : (Jvm.Cond.and given_1 narrow_1).before #[Value.ref b] s = true) : ∃ E : hs_E, E.1 = l ∧ eH E = s.heap ∧ hs_K (eD E) vwCl (eT E) (eZ E) (eH E) s ∧ ∃ G0 : hs_G, hs_W (eD E) vwCl (eH E) G0 s.heap ∧ cl_S E G0 := by
  have ht : ∀ w ∈ hs_Ts, w.before #[Value.ref b] s = true := fun w h => hts w (List.mem_filter.mp h).1
  have hw : ∀ (i : Nat) (w : Cond), tables_1[i]? = some w → w.before #[Value.ref b] s = true := fun i w h => hts w (List.mem_append_right _ (List.mem_of_getElem? h))
  have hf := flat_of_before _ hgv
  obtain ⟨c0, i0, k0⟩ := u_known ht hi_Jx4a65c (ht _ ib_Jx4a65c)
  obtain ⟨c1, i1, k1⟩ := u_known ht hi_X0 (ht _ ib_X0)
  obtain ⟨c2, i2, k2⟩ := u_known ht hi_X1 (ht _ ib_X1)
  obtain ⟨c3, i3, k3⟩ := u_known ht hi_X2 (ht _ ib_X2)
  obtain ⟨c4, i4, k4⟩ := u_known ht hi_X3 (ht _ ib_X3)
  obtain ⟨c5, i5, k5⟩ := u_known ht hi_X4 (ht _ ib_X4)
  obtain ⟨c6, i6, k6⟩ := u_known ht hi_X5 (ht _ ib_X5)
  obtain ⟨c7, i7, k7⟩ := u_known ht hi_X6 (ht _ ib_X6)
  obtain ⟨c8, i8, k8⟩ := u_known ht hi_X7 (ht _ ib_X7)
  obtain ⟨c9, i9, k9⟩ := u_known ht hi_X8 (ht _ ib_X8)
  obtain ⟨aI, aI1, aI2⟩ := lw_arr (ht _ ac_int)
  obtain ⟨aJ, aJ1, aJ2⟩ := lw_arr (ht _ ac_long)
  obtain ⟨aB, aB1, aB2⟩ := lw_arr (ht _ ac_boolean)
  have hAL : hs_AL s := hw 54 (Cond.arrayOver (.array .long)) (by decide +kernel)
  obtain ⟨pL, aL, kL, l1, l2, l3, l4, l5⟩ := hAL.spec
  have hAO : (Cond.arrayOver (.object "java/lang/Object")).before #[Value.ref b] s = true := hw 420 _ (by decide +kernel)
  obtain ⟨pO, aO, kO, o1, o2, o3, o4, o5⟩ := Cond.arrayOver_spec hAO
  obtain ⟨mi, hMi⟩ := va_Mi.of (hf (Cond.isRef (.mirror "[Ljava/lang/Object;")) (by decide +kernel))
  have hNc := va_Nc.of (hf (Cond.not (.castable "java/lang/IllegalStateException" "java/lang/IllegalArgumentException")) (by decide +kernel))
  obtain ⟨aM, cM, q1, q2, q3⟩ := lw_len (N := 12) (hf (Cond.eq (.length (.static "SettleHouse" "MONTH_LENGTHS" "[I")) (.int 12)) (by decide +kernel)) rfl
  obtain ⟨q4, q5, q6, -⟩ := State.arrayAt?_spec q2
  have q7 := (Cond.arrayOf_spec (hf (Cond.arrayOf (.static "SettleHouse" "MONTH_LENGTHS" "[I") .int) (by decide +kernel)) q1 q4).1
  obtain ⟨aE, cE, z1, z2, z3⟩ := lw_len (N := 0) (hf (Cond.eq (.length (.static "java/util/ArrayList" "DEFAULTCAPACITY_EMPTY_ELEMENTDATA" "[Ljava/lang/Object;")) (.int 0)) (by decide +kernel)) rfl
  obtain ⟨z4, z5, z6, -⟩ := State.arrayAt?_spec z2
  have zc : cE.cls = aO := by
    obtain ⟨a9, c9, x9, kk9, y1, y2, y3, y4, y5, y6, -⟩ := Cond.exactly_spec (hf (Cond.exactly (.static "java/util/ArrayList" "DEFAULTCAPACITY_EMPTY_ELEMENTDATA" "[Ljava/lang/Object;") "[Ljava/lang/Object;") (by decide +kernel))
    cases Option.some.inj (y1.symm.trans z1)
    cases Option.some.inj (y3.symm.trans z4)
    rw [y6]
    exact Option.some.inj (y2.symm.trans o5)
  have m0 : cM.slots[0]? = some (.int 31) := lw_el (hf (Cond.eq (.elem (.static "SettleHouse" "MONTH_LENGTHS" "[I") (.int 0)) (.int 31)) (by decide +kernel)) q1 q2
  have m1 : cM.slots[1]? = some (.int 28) := lw_el (hf (Cond.eq (.elem (.static "SettleHouse" "MONTH_LENGTHS" "[I") (.int 1)) (.int 28)) (by decide +kernel)) q1 q2
  have m2 : cM.slots[2]? = some (.int 31) := lw_el (hf (Cond.eq (.elem (.static "SettleHouse" "MONTH_LENGTHS" "[I") (.int 2)) (.int 31)) (by decide +kernel)) q1 q2
  have m3 : cM.slots[3]? = some (.int 30) := lw_el (hf (Cond.eq (.elem (.static "SettleHouse" "MONTH_LENGTHS" "[I") (.int 3)) (.int 30)) (by decide +kernel)) q1 q2
  have m4 : cM.slots[4]? = some (.int 31) := lw_el (hf (Cond.eq (.elem (.static "SettleHouse" "MONTH_LENGTHS" "[I") (.int 4)) (.int 31)) (by decide +kernel)) q1 q2
  have m5 : cM.slots[5]? = some (.int 30) := lw_el (hf (Cond.eq (.elem (.static "SettleHouse" "MONTH_LENGTHS" "[I") (.int 5)) (.int 30)) (by decide +kernel)) q1 q2
  have m6 : cM.slots[6]? = some (.int 31) := lw_el (hf (Cond.eq (.elem (.static "SettleHouse" "MONTH_LENGTHS" "[I") (.int 6)) (.int 31)) (by decide +kernel)) q1 q2
  have m7 : cM.slots[7]? = some (.int 31) := lw_el (hf (Cond.eq (.elem (.static "SettleHouse" "MONTH_LENGTHS" "[I") (.int 7)) (.int 31)) (by decide +kernel)) q1 q2
  have m8 : cM.slots[8]? = some (.int 30) := lw_el (hf (Cond.eq (.elem (.static "SettleHouse" "MONTH_LENGTHS" "[I") (.int 8)) (.int 30)) (by decide +kernel)) q1 q2
  have m9 : cM.slots[9]? = some (.int 31) := lw_el (hf (Cond.eq (.elem (.static "SettleHouse" "MONTH_LENGTHS" "[I") (.int 9)) (.int 31)) (by decide +kernel)) q1 q2
  have m10 : cM.slots[10]? = some (.int 30) := lw_el (hf (Cond.eq (.elem (.static "SettleHouse" "MONTH_LENGTHS" "[I") (.int 10)) (.int 30)) (by decide +kernel)) q1 q2
  have m11 : cM.slots[11]? = some (.int 31) := lw_el (hf (Cond.eq (.elem (.static "SettleHouse" "MONTH_LENGTHS" "[I") (.int 11)) (.int 31)) (by decide +kernel)) q1 q2
  have hne : aM ≠ aE := fun z => by
    rw [z] at q2
    cases Option.some.inj (q2.symm.trans z2)
    omega
  have hM12 : cM.slots = (vp_cell cM.cls (12, .inl (fun k => nI (cl_ml k)))).slots := by
    apply Array.ext_getElem?
    intro j
    rw [vp_cell_i]
    by_cases hj : j < 12
    · rw [arrV_read _ _ hj]
      rcases (show j = 0 ∨ j = 1 ∨ j = 2 ∨ j = 3 ∨ j = 4 ∨ j = 5 ∨ j = 6 ∨ j = 7 ∨ j = 8 ∨ j = 9 ∨ j = 10 ∨ j = 11 by omega) with rfl | rfl | rfl | rfl | rfl | rfl | rfl | rfl | rfl | rfl | rfl | rfl
      · exact m0
      · exact m1
      · exact m2
      · exact m3
      · exact m4
      · exact m5
      · exact m6
      · exact m7
      · exact m8
      · exact m9
      · exact m10
      · exact m11
    · rw [Array.getElem?_eq_none (by omega), Array.getElem?_eq_none (by rw [arrV_size]; omega)]
  have hE0 : cE.slots = (vp_cell aO (0, .inr (.inr (.inr (.inr (fun _ => none)))))).slots := by
    apply Array.ext_getElem?
    intro j
    rw [vp_cell_q, Array.getElem?_eq_none (by omega), Array.getElem?_eq_none (by rw [arrV_size]; omega)]
  have hbig : ∀ a : Nat, a < s.heap.size → ¬ s.heap.size ≤ a := fun a h z => absurd h (Nat.not_lt.mpr z)
  refine ⟨(l, (fun k => match k with | 0 => c0 | 1 => c1 | 2 => c2 | 3 => c3 | 4 => c4 | 5 => c5 | 6 => c6 | 7 => c7 | 8 => c8 | 9 => c9 | 77 => mi | 78 => cM.cls | _ => 0), (fun k => match k with | 0 => i0 | 1 => i1 | 2 => i2 | 3 => i3 | 4 => i4 | 5 => i5 | 6 => i6 | 7 => i7 | 8 => i8 | 9 => i9 | _ => fun _ => 0), (fun k => match k with | 0 => aI | 1 => aJ | 2 => aB | 3 => aL | 4 => aO | _ => 0), s.heap, aM, aE), rfl, rfl, ⟨⟨?_, ?_⟩, ⟨?_, ?_⟩, ?_, ?_⟩, ?_⟩
  · intro k q hq
    match k, hq with
    | 0, hq => cases hq; exact k0
    | 1, hq => cases hq; exact k1
    | 2, hq => cases hq; exact k2
    | 3, hq => cases hq; exact k3
    | 4, hq => cases hq; exact k4
    | 5, hq => cases hq; exact k5
    | 6, hq => cases hq; exact k6
    | 7, hq => cases hq; exact k7
    | 8, hq => cases hq; exact k8
    | 9, hq => cases hq; exact k9
    | k + 10, hq => cases hq
  · intro k q hq
    match k, hq with
    | 0, hq => cases hq; exact ⟨aI1, aI2⟩
    | 1, hq => cases hq; exact ⟨aJ1, aJ2⟩
    | 2, hq => cases hq; exact ⟨aB1, aB2⟩
    | 3, hq => cases hq; exact ⟨fun n z => ⟨(fun q hq => by cases hq), kL, l3, pL, l4⟩, l5⟩
    | 4, hq => cases hq; exact ⟨fun n z => ⟨(fun q hq => by cases hq), kO, o3, pO, o4⟩, kO, pO, o3, o4, o1, o5⟩
    | k + 5, hq => cases hq
  · intro z hz
    rcases List.mem_cons.mp hz with rfl | hz
    · exact va_Zref (hw 740 (Cond.laysStatic RX7 "MONTH_LENGTHS" "[I") (by decide +kernel)) (hw 1 (Cond.initialized RX7) (by decide +kernel)) q1 hbig
    · rw [List.mem_singleton] at hz
      subst hz
      exact va_Zref (hw 89 (Cond.laysStatic RJx4a65c "DEFAULTCAPACITY_EMPTY_ELEMENTDATA" "[Ljava/lang/Object;") (by decide +kernel)) (hw 7 (Cond.initialized RJx4a65c) (by decide +kernel)) z1 hbig
  · exact ⟨hMi, va_AO.of hAO, hAL, hNc, fun n z => ⟨(fun q hq => by cases hq), q7.2⟩⟩
  · exact vx_Zqof (hw 187 _ (by decide +kernel)) (hw 9 _ (by decide +kernel)) (hf (Cond.isRef (.static "java/lang/Throwable" "UNASSIGNED_STACK" "[Ljava/lang/StackTraceElement;")) (by decide +kernel)) hbig
  · exact vx_Zqof (hw 189 _ (by decide +kernel)) (hw 9 _ (by decide +kernel)) (hf (Cond.isRef (.static "java/lang/Throwable" "SUPPRESSED_SENTINEL" "Ljava/util/List;")) (by decide +kernel)) hbig
  · have sE : aE < s.heap.size := (Array.getElem?_eq_some_iff.mp z4).1
    have sM : aM < s.heap.size := (Array.getElem?_eq_some_iff.mp q4).1
    refine ⟨fun q => if q = aE then some (.inl (aO, 0, .inr (.inr (.inr (.inr (fun _ => none)))))) else if q = aM then some (.inl (cM.cls, 12, .inl (fun k => nI (cl_ml k)))) else none, ⟨fun q x hq => ?_, Nat.le_refl _, fun q _ => rfl⟩, sE, sM, ⟨fun _ => none, if_pos rfl⟩, fun k => nI (cl_ml k), ?_, fun m _ => rfl⟩
    · dsimp only at hq
      by_cases y1 : q = aE
      · rw [if_pos y1] at hq
        cases hq
        subst y1
        exact Or.inr ⟨sE, cE, z4, zc, hE0, z5, lw_ns z6⟩
      · rw [if_neg y1] at hq
        by_cases y2 : q = aM
        · rw [if_pos y2] at hq
          cases hq
          subst y2
          exact Or.inr ⟨sM, cM, q4, rfl, hM12, q5, lw_ns q6⟩
        · rw [if_neg y2] at hq
          cases hq
    · show (if aM = aE then _ else if aM = aM then _ else _) = _
      rw [if_neg hne, if_pos rfl]
      rfl
theorem lw_I0 : mo_I (fun _ => 0) (fun _ _ => 0) 0 0 0 := ⟨rfl, by decide, rfl, by decide, rfl, fun t h => absurd h (Nat.not_lt_zero _), fun t h => absurd h (Nat.not_lt_zero _), fun _ => 0, ⟨fun t h => absurd h (Nat.not_lt_zero _), fun t _ _ => rfl⟩, Nat.zero_le _⟩
theorem lw_init {E : hs_E} {X : Nat → Nat} {x o mo : Nat} {ar : Nat → Nat} {ix : Nat → Option Nat} {t : cl_t} {cap : Nat → Nat} {G : hs_G} (hX0 : X 0 = x) (hX1 : ∀ i, X (90 + i) = 0) (hT : cl_T E t cap X 0 G) (hok : mo_ok E mo ar ix) (hmo : G mo = none) (har : ∀ k, mo_arr k = true → G (ar k) = none) (hos : (eH E).size ≤ o) (ho : mo_W E mo ar ix (fun _ => 0) (fun _ _ => 0) (fun _ _ => 0) G o = none) : lw_B E x o mo ar ix 0 (hs_up (mo_W E mo ar ix (fun _ => 0) (fun _ _ => 0) (fun _ _ => 0) G) o (lw_o E (fun _ => 0))) := by
  have h1 : o ≠ mo := fun z => by rw [z, mo_obj] at ho; cases ho
  have h2 : ix o = none := by
    cases hq : ix o with
    | none => rfl
    | some k =>
      obtain ⟨e1, e2⟩ := hok.1.2.2 o k hq
      rw [e1, mo_row hok.1 e2] at ho
      cases ho
  have hold : ∀ a, a ≠ mo → ix a = none → mo_W E mo ar ix (fun _ => 0) (fun _ _ => 0) (fun _ _ => 0) G a = G a := fun a z1 z2 => by
    unfold mo_W
    rw [if_neg z1, z2]
  have h3 : G o = none := by rw [← hold o h1 h2]; exact ho
  have hix : ∀ a, (∀ k, mo_arr k = true → a ≠ ar k) → ix a = none := fun a ha => by
    cases hq : ix a with
    | none => rfl
    | some k => exact absurd (hok.1.2.2 a k hq).1 (ha k (hok.1.2.2 a k hq).2)
  have hs := hT.2.2.2.1
  have hnn := hT.2.2.2.2.2
  refine ⟨X, t, cap, 0, fun _ => 0, fun _ _ => 0, fun _ _ => 0, fun _ => 0, hX0, ⟨hT.ag (fun a k hk => ?_) ?_ ?_, hs_up_eq _ _ _, hT.fresh h3, hos, hok, hT.fresh hmo, fun k hk => hT.fresh (har k hk), h1, h2, ?_, 0, 0, lw_I0⟩, hX1 9, vJ_0 hX1, by rw [show X 97 = 0 from hX1 7]; omega⟩
  · rw [hs_up_ne _ _ (fun z => hnn a k hk (by rw [z]; exact h3))]
    exact hold a (fun z => hnn a k hk (by rw [z]; exact hmo)) (hix a fun j hj z => hnn a k hk (by rw [z]; exact har j hj))
  · rw [hs_up_ne _ _ (by have := hs.1; omega)]
    exact hold _ (by have := hok.2.1; have := hs.1; omega) (hix _ fun j hj z => by have := hok.2.2 j hj; have := hs.1; omega)
  · rw [hs_up_ne _ _ (by have := hs.2.1; omega)]
    exact hold _ (by have := hok.2.1; have := hs.2.1; omega) (hix _ fun j hj z => by have := hok.2.2 j hj; have := hs.2.1; omega)
  · funext a
    by_cases e : a = mo
    · rw [e, hs_up_ne _ _ (Ne.symm h1), mo_obj, mo_obj]
    · cases hq : ix a with
      | none =>
        show _ = mo_W _ _ _ _ _ _ _ _ a
        unfold mo_W
        rw [if_neg e, hq]
      | some k =>
        obtain ⟨e1, e2⟩ := hok.1.2.2 a k hq
        have e3 : a ≠ o := fun z => by rw [z, h2] at hq; cases hq
        rw [hs_up_ne _ _ e3, e1, mo_row hok.1 e2, mo_row hok.1 e2]
def R_law : String := "SettleHouseLaw"
def lw_P (b : Addr) (xs : List Int32) (args : Array Value) (s : State) : Prop := args = #[.ref b] ∧ s.IntsAt b xs ∧ xs.length ≤ 4608 ∧ (Jvm.Cond.and given_1 narrow_1).before args s = true
def lw_Q (_ : Array Value) (s : State) (o : Outcome) (t : State) : Prop := o = .returned (some (.int 1)) ∧ Framed s o t [] 601024 7293034
def lw_Z (below : List Frame) (a : Array Value) (s : State) : State → Prop := fun t => ∃ o, t.status = .running ∧ Ended t below o ∧ lw_Q a s o t
/-- the law's own end, with 1 on the stack, nothing written that was there before, its room as the claim has it -/
theorem lw_ret {p : Program} {l : Launch} {e : Env} {s : State} {m : MethodId} {below : List Frame} {meth : Method} {c : Code} {b : Nat} (hx : p.tables.exec = Jvm.exec) (hb : c.code = code) (hr : meth.sig.returnType = ret) (hlocks : meth.locks = false) {pc : Nat} {H : Heap} {ls : Array Slot} (hdg : decode code pc = .ok (.ireturn, 1)) : W p l e room_1 s m #[Value.ref b] below meth c H [] 601024 7293034 (lw_Z below #[Value.ref b] s) (F0 m pc ls [.int 1]) := by
  intro T hT X
  obtain ⟨fs, hret, hrun, hended, hW, hframe⟩ := X.leave (v := some (.int 1)) (hlocks := hlocks) (fun h => by rw [hr] at h; cases h)
  have hmeth' : T.vm.method? m = some meth := X.method'
  refine ⟨T.setFrames fs, ?_, .returned (some (.int 1)), hrun, hended, rfl, ⟨_, rfl⟩, hW, hframe⟩
  jvm_step X.here [X.here.top, hx, hb, hdg, hmeth', hr, ret, narrow_b1]
  (try refine ⟨rfl, ?_⟩); (try refine ⟨rfl, ?_⟩)
  first | (intro acts; rw [hret _ acts rfl rfl rfl]) | rw [hret _ _ rfl rfl rfl]
  exact Steps.refl _
/-- what holds at the law's entry: the machine, the code, the tables' words (any of lw_tbl by 'hts w (by decide +kernel)'), the script of L ints xs at the cell b, what the Statement gives of the start (any of its parts by flat_of_before) -/
def lw_At (p : Program) (s : State) (m : MethodId) (meth : Method) (c : Code) (b L : Nat) (xs : Nat → Int32) : Prop :=
  p.tables.exec = Jvm.exec ∧ c.code = code ∧ meth.sig.returnType = ret ∧ c.maxLocals = 8 ∧ s.vm.findClass R_law = some m.cls ∧ (∀ w ∈ lw_tbl, w.before #[Value.ref b] s = true) ∧ va_X b L xs s s.heap ∧ b < s.heap.size ∧ meth.locks = false ∧ (Jvm.Cond.and given_1 narrow_1).before #[Value.ref b] s = true
set_option maxHeartbeats 4000000 in
set_option maxRecDepth 100000 in
theorem whole_start {p : Program} {e : Env} {s : State} {m : MethodId} {below : List Frame} {meth : Method} {c : Code} (l : Launch) (hST : l.stackTraces = false) {b L : Nat} {xs : Nat → Int32} (hL9 : L ≤ 4608) (C0 : lw_At p s m meth c b L xs) : W p l e room_1 s m #[Value.ref b] below meth c s.heap [] 0 0 (lw_Z below #[Value.ref b] s) (entryFrame m ([Value.ref b] : List Value).toArray 8) := by
  obtain ⟨hx, hb, hr, hml, hown, hts0, hX, hbl, hlocks, hgv⟩ := C0
  obtain ⟨E, hE1, hE2, hK, G0, hW, hS0⟩ := lw_env l hts0 hgv
  subst hE1
  rw [← hE2] at hX hbl
  have hts : ∀ w ∈ hs_Ts, w.before #[Value.ref b] s = true := fun w h => hts0 w (List.mem_filter.mp h).1
  have hC : hs_C (eD E) vwCl (eT E) (eZ E) (eH E) hs_Ts p s m #[Value.ref b] c cL_law 8 RL := ⟨hx, hb, hml, hown, hts, hK⟩
  have hL : ∀ q ∈ ([] : List Loc), (eH E).size ≤ q.base := fun q hq => nomatch hq
  have hl := lv_entry ([.ref b] : List Value) (n := 8) (Nat.le_of_ble_eq_true rfl)
  rw [lg_entry_eq]
  generalize (lg_sl [.ref b] ++ List.replicate (8 - (lg_sl [.ref b]).length) Slot.unset).toArray = ls at hl ⊢
  have hl : lv_has ls 8 [(0, .ref b)] := hl
  refine hs_new (ci := 8) hC hW hi_X7 tyX7 tyX7_ok lk_L_8 ib_X7 ii_X7 rfl (fs := [.null, .null, .null, .null, .null]) (by decide) (by decide) (by decide) dL_law_0 (fun x H hxs hfx hW => ?_)
  refine lv_dup hx hb dL_law_3 rfl ?_
  refine hs_callI hC hs_Tok hW hL (ct_X7_init E _ x (hs_up_eq _ _ _) hxs (hS0.up hxs)) cw_X7_init lk_L_64 im_X7_init rfl hl.1 (by decide) (Nat.le_of_ble_eq_true rfl) dL_law_4 (hs_kV (fun G1 k n H locs hI hk hn hW hL => ?_))
  obtain ⟨hk1, hn1, t, cap, X, hX0, hT, hF1, hF2, hX1⟩ := hI
  refine lv_astore_n (lv' := [(1, .ref _), (0, .ref _)]) hx hb dL_law_7 rfl hl (by decide) rfl (fun ls hl => ?_)
  refine hs_new (ci := 9) hC hW hi_X8 tyX8 tyX8_ok lk_L_65 ib_X8 ii_X8 rfl (fs := [.int 0, .int 0, .null, .null, .int 0, .null, .null, .null, .null, .null, .null, .null, .null, .null, .null, .null, .null, .null, .null, .null, .null, .null, .null, .int 0, .null, .null, .null, .null, .int 0, .null, .null, .null]) (by decide) (by show 0 + 1 + k + 1 ≤ 601024; omega) (by show 0 + 5 + n + 32 ≤ 7293034; omega) dL_law_8 (fun mo H hmos hfmo hW => ?_)
  rw [mi_0 (E := E)] at hW
  refine lv_dup hx hb dL_law_11 rfl ?_
  refine hs_callI hC hs_Tok hW hL (ct_X8_init E mo G1 hmos) cw_X8_init lk_L_67 im_X8_init rfl hl.1 ⟨by decide, by decide, (by show 0 + 1 + k + 1 + 27 ≤ 601024; omega), (by show 0 + 5 + n + 32 + 31146 ≤ 7293034; omega)⟩ (Nat.le_of_ble_eq_true rfl) dL_law_12 (hs_kV (fun G2 k2 n2 H locs hI hk2 hn2 hW hL => ?_))
  obtain ⟨rfl, rfl, ar, ix, hok, hnone, rfl⟩ := hI
  refine lv_astore_n (lv' := [(2, .ref _), (1, .ref _), (0, .ref _)]) hx hb dL_law_15 rfl hl (by decide) rfl (fun ls hl => ?_)
  refine lv_iconst (v := 1) hx hb dL_law_16 (by decide) ?_
  refine hs_newa (atype := .long) (ty := .long) hC hW ac_long rfl 1 rfl (fun _ h => h) (N' := 1) (a0 := (1, .inr (.inl (fun _ => 0)))) (fun cA => by rw [vp_cell_l]; rfl) (by decide) (by decide) (by decide) (by show 0 + 1 + k + 1 + 27 + 1 ≤ 601024; omega) (by show 0 + 5 + n + 32 + 31146 + 1 ≤ 7293034; omega) dL_law_17 (fun o H hos hfo hW => ?_)
  refine lv_astore_n (lv' := [(3, .ref _), (2, .ref _), (1, .ref _), (0, .ref _)]) hx hb dL_law_19 rfl hl (by decide) rfl (fun ls hl => ?_)
  refine lv_iconst (v := 0) hx hb dL_law_20 (by decide) ?_
  refine lv_istore (lv' := [(4, .int _), (3, .ref _), (2, .ref _), (1, .ref _), (0, .ref _)]) hx hb dL_law_21 hl (by decide) rfl (fun ls hl => ?_)
  have hB := lw_init hX0 hX1 hT hok hfmo hnone hos hfo
  refine lw_loop E hST hC hX hbl hL9 (fun H locs ls cells slots hL hc hn => ?_) 512 0 (by omega) (by omega) _ _ _ _ _ _ hB hW hL ((show lv_has ls 8 [(0, .ref b), (1, .ref x), (2, .ref mo), (3, .ref o), (4, .int (nI (9 * 0)))] from (lv_sub hl [4, 3, 2, 1, 0] rfl))) (by show 0 + 1 + k + 1 + 27 + 1 ≤ 100 + 460 * 0; omega) (by show 0 + 5 + n + 32 + 31146 + 1 ≤ 60000 + 2030 * 0; omega)
  refine va_forget (by rw [← hE2]; exact hL) ?_
  refine W.widen hc hn ?_
  refine lv_iconst (v := 1) hx hb dL_law_826 (by decide) ?_
  exact lw_ret hx hb hr hlocks dL_law_827
