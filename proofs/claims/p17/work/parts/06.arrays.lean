section HS2
variable {p : Program} {l : Launch} {e : Env} {R : Room} {s : State} {m : MethodId} {args : Array Value} {below : List Frame} {meth : Method} {c : Code} {H : Heap} {locs : List Loc} {cells slots : Nat} {Q : State → Prop}
variable {cc : ByteArray} {pc nL : Nat} {ls : Array Slot} {rest : List Value} {D : va_G} {cl : List vw_C} {a : Nat} {tys : List (ClassId × FieldType)} {Zs : List (String × String × String × Value)} {Ts : List Cond} {own : String} {H0 : Heap} {G : hs_G}
theorem hs_iald (hC : hs_C D cl tys Zs H0 Ts p s m args c cc nL own) (hW : hs_W D cl H0 G H) (t0 : Nat) {cA : ClassId} {n : Nat} {f : Nat → Int32} (ha : G a = some (.inl (cA, n, .inl f))) (ht : tys[t0]? = some (cA, .int)) {i : Int32} (hin : vp_in i n) (hdg : decode cc pc = .ok (.iaload, 1))
    (kk : W p l e R s m args below meth c H locs cells slots Q (F0 m (pc + 1) ls (.int (f i.toNatClampNeg) :: rest))) : W p l e R s m args below meth c H locs cells slots Q (F0 m pc ls (.int i :: .ref a :: rest)) := by
  have hlt : i.toNatClampNeg < n := Nat.not_le.mp fun q => hin (Or.inr q)
  obtain ⟨cell, w1, w2, w3, w4, w5⟩ := (hW.1 a _ ha).wk
  exact W.iald (v := .int (f i.toNatClampNeg)) hC.1 hC.2.1 w1 (hs_isA (hC.2.2.2.2.2.1.2 t0 _ ht).1 w2 w5) w4 (by rw [w3]; show ¬ (i < 0 ∨ (arrV _ _ _).slots.size ≤ _); rw [arrV_size]; exact hin) (by rw [w3]; show (arrV _ _ _).slots[_]? = _; rw [arrV_read _ _ hlt]) rfl rfl hdg kk
theorem hs_zald (hC : hs_C D cl tys Zs H0 Ts p s m args c cc nL own) (hW : hs_W D cl H0 G H) (t0 : Nat) {cA : ClassId} {n : Nat} {f : Nat → Int32} (ha : G a = some (.inl (cA, n, .inl f))) (ht : tys[t0]? = some (cA, .boolean)) {i : Int32} (hin : vp_in i n) (hdg : decode cc pc = .ok (.baload, 1))
    (kk : W p l e R s m args below meth c H locs cells slots Q (F0 m (pc + 1) ls (.int (f i.toNatClampNeg) :: rest))) : W p l e R s m args below meth c H locs cells slots Q (F0 m pc ls (.int i :: .ref a :: rest)) := by
  have hlt : i.toNatClampNeg < n := Nat.not_le.mp fun q => hin (Or.inr q)
  obtain ⟨cell, w1, w2, w3, w4, w5⟩ := (hW.1 a _ ha).wk
  exact W.zald (v := .int (f i.toNatClampNeg)) hC.1 hC.2.1 w1 (hs_isA (hC.2.2.2.2.2.1.2 t0 _ ht).1 w2 w5) w4 (by rw [w3]; show ¬ (i < 0 ∨ (arrV _ _ _).slots.size ≤ _); rw [arrV_size]; exact hin) (by rw [w3]; show (arrV _ _ _).slots[_]? = _; rw [arrV_read _ _ hlt]) rfl rfl hdg kk
theorem hs_lald (hC : hs_C D cl tys Zs H0 Ts p s m args c cc nL own) (hW : hs_W D cl H0 G H) (t0 : Nat) {cA : ClassId} {n : Nat} {f : Nat → Int64} (ha : G a = some (.inl (cA, n, .inr (.inl f)))) (ht : tys[t0]? = some (cA, .long)) {i : Int32} (hin : vp_in i n) (hdg : decode cc pc = .ok (.laload, 1))
    (kk : W p l e R s m args below meth c H locs cells slots Q (F0 m (pc + 1) ls (.long (f i.toNatClampNeg) :: rest))) : W p l e R s m args below meth c H locs cells slots Q (F0 m pc ls (.int i :: .ref a :: rest)) := by
  have hlt : i.toNatClampNeg < n := Nat.not_le.mp fun q => hin (Or.inr q)
  obtain ⟨cell, w1, w2, w3, w4, w5⟩ := (hW.1 a _ ha).wk
  exact W.lald (v := .long (f i.toNatClampNeg)) hC.1 hC.2.1 w1 (hs_isA (hC.2.2.2.2.2.1.2 t0 _ ht).1 w2 w5) w4 (by rw [w3]; show ¬ (i < 0 ∨ (arrV _ _ _).slots.size ≤ _); rw [arrV_size]; exact hin) (by rw [w3]; show (arrV _ _ _).slots[_]? = _; rw [arrV_read _ _ hlt]) rfl rfl hdg kk
/-- out of an array of references, of any component type -/
theorem hs_aald (hC : hs_C D cl tys Zs H0 Ts p s m args c cc nL own) (hW : hs_W D cl H0 G H) (t0 : Nat) {cA : ClassId} {ty : FieldType} (hty : ty.isReference = true) {n : Nat} {f : Nat → Option Nat} (ha : G a = some (.inl (cA, n, .inr (.inr (.inr (.inr f)))))) (ht : tys[t0]? = some (cA, ty)) {i : Int32} (hin : vp_in i n) (hdg : decode cc pc = .ok (.aaload, 1))
    (kk : W p l e R s m args below meth c H locs cells slots Q (F0 m (pc + 1) ls (va_rf (f i.toNatClampNeg) :: rest))) : W p l e R s m args below meth c H locs cells slots Q (F0 m pc ls (.int i :: .ref a :: rest)) := by
  have hlt : i.toNatClampNeg < n := Nat.not_le.mp fun q => hin (Or.inr q)
  obtain ⟨cell, w1, w2, w3, w4, w5⟩ := (hW.1 a _ ha).wk
  exact W.aald (v := va_rf (f i.toNatClampNeg)) (ty := ty) hC.1 hC.2.1 w1 (hs_isA (hC.2.2.2.2.2.1.2 t0 _ ht).1 w2 w5) hty w4 (by rw [w3]; show ¬ (i < 0 ∨ (arrV _ _ _).slots.size ≤ _); rw [arrV_size]; exact hin) (by rw [w3]; show (arrV _ _ _).slots[_]? = _; rw [arrV_read _ _ hlt]) rfl rfl hdg kk
theorem hs_alen (hC : hs_C D cl tys Zs H0 Ts p s m args c cc nL own) (hW : hs_W D cl H0 G H) (t0 : Nat) {cA : ClassId} {x : vp_A} (ha : G a = some (.inl (cA, x))) {ty : FieldType} (ht : tys[t0]? = some (cA, ty)) {v : Int32} (hv : Int32.ofNat x.1 = v) (hdg : decode cc pc = .ok (.arraylength, 1))
    (kk : W p l e R s m args below meth c H locs cells slots Q (F0 m (pc + 1) ls (.int v :: rest))) : W p l e R s m args below meth c H locs cells slots Q (F0 m pc ls (.ref a :: rest)) := by
  subst hv
  obtain ⟨cell, w1, w2, w3, w4, w5⟩ := (hW.1 a _ ha).wk
  have hz : cell.slots.size = x.1 := by
    rw [w3]
    obtain ⟨n, f | f | f | f | f⟩ := x <;> (show (arrV _ _ _).slots.size = _; rw [arrV_size])
  exact W.alen (n := Int32.ofNat x.1) hC.1 hC.2.1 w1 (hs_isA (hC.2.2.2.2.2.1.2 t0 _ ht).1 w2 w5) (by rw [hz] <;> rfl) rfl rfl hdg kk
/-- out of MONTH_LENGTHS, whose class is D.1 78 -/
theorem hs_ialdM (hC : hs_C D cl tys Zs H0 Ts p s m args c cc nL own) (hW : hs_W D cl H0 G H) {n : Nat} {f : Nat → Int32} (ha : G a = some (.inl (D.1 78, n, .inl f))) {i : Int32} (hin : vp_in i n) (hdg : decode cc pc = .ok (.iaload, 1))
    (kk : W p l e R s m args below meth c H locs cells slots Q (F0 m (pc + 1) ls (.int (f i.toNatClampNeg) :: rest))) : W p l e R s m args below meth c H locs cells slots Q (F0 m pc ls (.int i :: .ref a :: rest)) := by
  have hlt : i.toNatClampNeg < n := Nat.not_le.mp fun q => hin (Or.inr q)
  obtain ⟨cell, w1, w2, w3, w4, w5⟩ := (hW.1 a _ ha).wk
  exact W.iald (v := .int (f i.toNatClampNeg)) hC.1 hC.2.1 w1 (hs_isA hC.2.2.2.2.2.2.1.2.2.2.2.2 w2 w5) w4 (by rw [w3]; show ¬ (i < 0 ∨ (arrV _ _ _).slots.size ≤ _); rw [arrV_size]; exact hin) (by rw [w3]; show (arrV _ _ _).slots[_]? = _; rw [arrV_read _ _ hlt]) rfl rfl hdg kk
theorem hs_locs {H0 : Heap} {locs : List Loc} (hL : ∀ q ∈ locs, H0.size ≤ q.base) {x : Loc} (hA : H0.size ≤ x.base) : ∀ q ∈ locs ++ [x], H0.size ≤ q.base := by
  intro q hq
  rcases List.mem_append.mp hq with h | h
  · exact hL q h
  · rw [List.mem_singleton.mp h]; exact hA
theorem hs_iast (hC : hs_C D cl tys Zs H0 Ts p s m args c cc nL own) (hW : hs_W D cl H0 G H) (hL : ∀ q ∈ locs, H0.size ≤ q.base) (t0 : Nat) {cA : ClassId} {n : Nat} {f : Nat → Int32} (ha : G a = some (.inl (cA, n, .inl f))) (hA : H0.size ≤ a) (ht : tys[t0]? = some (cA, .int)) {i x : Int32} (hin : vp_in i n) (hdg : decode cc pc = .ok (.iastore, 1))
    (kk : ∀ (H1 : Heap) (locs1 : List Loc), hs_W D cl H0 (hs_up G a (.inl (cA, n, .inl (upd f i.toNatClampNeg x)))) H1 → (∀ q ∈ locs1, H0.size ≤ q.base) → W p l e R s m args below meth c H1 locs1 cells slots Q (F0 m (pc + 1) ls rest)) : W p l e R s m args below meth c H locs cells slots Q (F0 m pc ls (.int x :: .int i :: .ref a :: rest)) := by
  refine W.iast hC.1 hC.2.1 ((hW.1 a _ ha).st hA) ((hC.2.2.2.2.2.1.2 t0 _ ht).1 n (fun j => .int (f j))) (fun q => by cases q) (by show ¬ (i < 0 ∨ (arrV _ _ _).slots.size ≤ _); rw [arrV_size]; exact hin) rfl rfl hdg fun H1 e z oq => ?_
  refine kk H1 _ (hW.put hA ?_ z oq) (hs_locs hL hA)
  show H1[a]? = some (vp_cell _ _)
  rw [e, vp_cell_i, vp_cell_i, arrV_store]
  congr 2
  funext q
  by_cases hq : q = i.toNatClampNeg
  · subst hq
    simp [updV, upd]
  · simp [updV, upd, hq]
theorem hs_zast (hC : hs_C D cl tys Zs H0 Ts p s m args c cc nL own) (hW : hs_W D cl H0 G H) (hL : ∀ q ∈ locs, H0.size ≤ q.base) (t0 : Nat) {cA : ClassId} {n : Nat} {f : Nat → Int32} (ha : G a = some (.inl (cA, n, .inl f))) (hA : H0.size ≤ a) (ht : tys[t0]? = some (cA, .boolean)) {i x : Int32} (hin : vp_in i n) (hdg : decode cc pc = .ok (.bastore, 1))
    (kk : ∀ (H1 : Heap) (locs1 : List Loc), hs_W D cl H0 (hs_up G a (.inl (cA, n, .inl (upd f i.toNatClampNeg (vp_nar .boolean x))))) H1 → (∀ q ∈ locs1, H0.size ≤ q.base) → W p l e R s m args below meth c H1 locs1 cells slots Q (F0 m (pc + 1) ls rest)) : W p l e R s m args below meth c H locs cells slots Q (F0 m pc ls (.int x :: .int i :: .ref a :: rest)) := by
  refine W.zast hC.1 hC.2.1 ((hW.1 a _ ha).st hA) ((hC.2.2.2.2.2.1.2 t0 _ ht).1 n (fun j => .int (f j))) (fun q => by cases q) (by show ¬ (i < 0 ∨ (arrV _ _ _).slots.size ≤ _); rw [arrV_size]; exact hin) rfl rfl hdg fun H1 e z oq => ?_
  refine kk H1 _ (hW.put hA ?_ z oq) (hs_locs hL hA)
  show H1[a]? = some (vp_cell _ _)
  rw [e, vp_cell_i, vp_cell_i, arrV_store]
  congr 2
  funext q
  by_cases hq : q = i.toNatClampNeg
  · subst hq
    simp [updV, upd, vp_nar, narrow]
  · simp [updV, upd, hq]
theorem hs_last (hC : hs_C D cl tys Zs H0 Ts p s m args c cc nL own) (hW : hs_W D cl H0 G H) (hL : ∀ q ∈ locs, H0.size ≤ q.base) (t0 : Nat) {cA : ClassId} {n : Nat} {f : Nat → Int64} (ha : G a = some (.inl (cA, n, .inr (.inl f)))) (hA : H0.size ≤ a) (ht : tys[t0]? = some (cA, .long)) {i : Int32} {x : Int64} (hin : vp_in i n) (hdg : decode cc pc = .ok (.lastore, 1))
    (kk : ∀ (H1 : Heap) (locs1 : List Loc), hs_W D cl H0 (hs_up G a (.inl (cA, n, .inr (.inl (vp_updL f i.toNatClampNeg x))))) H1 → (∀ q ∈ locs1, H0.size ≤ q.base) → W p l e R s m args below meth c H1 locs1 cells slots Q (F0 m (pc + 1) ls rest)) : W p l e R s m args below meth c H locs cells slots Q (F0 m pc ls (.long x :: .int i :: .ref a :: rest)) := by
  refine W.last hC.1 hC.2.1 ((hW.1 a _ ha).st hA) ((hC.2.2.2.2.2.1.2 t0 _ ht).1 n (fun j => .long (f j))) (fun q => by cases q) (by show ¬ (i < 0 ∨ (arrV _ _ _).slots.size ≤ _); rw [arrV_size]; exact hin) rfl rfl hdg fun H1 e z oq => ?_
  refine kk H1 _ (hW.put hA ?_ z oq) (hs_locs hL hA)
  show H1[a]? = some (vp_cell _ _)
  rw [e, vp_cell_l, vp_cell_l, arrV_store]
  congr 2
  funext q
  by_cases hq : q = i.toNatClampNeg
  · subst hq
    simp [updV, vp_updL]
  · simp [updV, vp_updL, hq]
/-- a new object: its address is nobody's, and not old -/
theorem hs_new (hC : hs_C D cl tys Zs H0 Ts p s m args c cc nL own) (hW : hs_W D cl H0 G H) {C : String} {T : u_T} {N ci index : Nat} (hin : ∀ w ∈ u_ws C T N, w ∈ Ts) (ty : Nat → FieldType) (hty : ∀ k, k < N → parseFieldDescriptor (T k).2.2.1 = some (ty k)) (hcl : Cond.classLink own index C ∈ Ts) (hinst : Cond.instantiable C N ∈ Ts) (hini : Cond.initialized C ∈ Ts) (hc : cl[ci]? = some (C, T, N)) {fs : List Value} (hfs : ∀ j, j < N → defaultValue (ty j) = vp_V fs j) (hcells : cells + 1 ≤ R.cells) (hslots : slots + N ≤ R.slots) (hdg : decode cc pc = .ok (.new index, 3))
    (kk : ∀ (q : Nat) (H1 : Heap), H0.size ≤ q → G q = none → hs_W D cl H0 (hs_up G q (.inr (ci, fs))) H1 → W p l e R s m args below meth c H1 locs (cells + 1) (slots + N) Q (F0 m (pc + 3) ls (.ref q :: rest))) : W p l e R s m args below meth c H locs cells slots Q (F0 m pc ls rest) := by
  obtain ⟨hx, hb, -, hown, hts, hK, -⟩ := hC
  have hKn := hK.1 ci _ hc
  refine W.newcK hx hb hown (hts _ hcl) (hts _ hinst) (hts _ hini) rfl hdg hcells hslots hKn.2.1 rfl fun H1 kC hkC e1 z1 o1 => ?_
  exact kk H.size H1 hW.2.1 hW.fresh (hW.push ⟨_, hc, (u_born ty hts hin hKn hkC e1 hty).to hfs⟩ z1 o1)
/-- a new array of ints, longs, booleans -/
theorem hs_newa (hC : hs_C D cl tys Zs H0 Ts p s m args c cc nL own) (hW : hs_W D cl H0 G H) {atype : ArrayType} (harr : Cond.arrayClass (newarray.typeOf atype) ∈ Ts) {ty : FieldType} (hty : newarray.typeOf atype = ty) (t0 : Nat) {cA : ClassId} (ht : tys[t0]? = some (cA, ty)) (hRA : ∀ (U : State), va_RA U cA ty → U.vm.findClass ("[" ++ ty.toString) = some cA)
    {n : Int32} {N' : Nat} {a0 : vp_A} (ha : ∀ cA : ClassId, vp_cell cA a0 = arrV cA N' (fun _ => defaultValue ty)) (hn : ¬ n < 0) (hN : n.toNatClampNeg = N') (hbytes : N' * componentBytes ty ≤ 536870912) (hcells : cells + 1 ≤ R.cells) (hslots : slots + N' ≤ R.slots) (hdg : decode cc pc = .ok (.newarray atype, 2))
    (kk : ∀ (q : Nat) (H1 : Heap), H0.size ≤ q → G q = none → hs_W D cl H0 (hs_up G q (.inl (cA, a0))) H1 → W p l e R s m args below meth c H1 locs (cells + 1) (slots + N') Q (F0 m (pc + 2) ls (.ref q :: rest))) : W p l e R s m args below meth c H locs cells slots Q (F0 m pc ls (.int n :: rest)) := by
  obtain ⟨hx, hb, -, hown, hts, hK, -⟩ := hC
  subst hty
  refine va_newaK hx hb (hts _ harr) rfl hdg rfl hn hN hbytes hcells hslots rfl fun H1 cA' e1 z1 o1 hAr hNm => ?_
  have hcA : cA' = cA := Option.some.inj (hNm.symm.trans (hRA s (hK.2 t0 _ ht).2))
  subst hcA
  refine kk H.size H1 hW.2.1 hW.fresh (hW.push ?_ z1 o1)
  show H1[H.size]? = some (vp_cell _ _)
  rw [ha]
  exact e1
end HS2
