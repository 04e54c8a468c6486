/-! THE STORE: what lies at which address; the heap stays behind it. A cell below H0's size is old and never written. -/
abbrev hs_G : Type := Nat → Option va_E
def hs_up (G : hs_G) (a : Nat) (x : va_E) : hs_G := fun q => if q = a then some x else G q
theorem hs_up_eq (G : hs_G) (a : Nat) (x : va_E) : hs_up G a x a = some x := by simp [hs_up]
theorem hs_up_ne (G : hs_G) {a b : Nat} (x : va_E) (h : b ≠ a) : hs_up G a x b = G b := by simp [hs_up, h]
/-- an old array, as far as it is known: its class and what it holds -/
def hs_wk (q : Nat) (x : va_E) (H : Heap) : Prop := match x with
  | .inl a => ∃ cell : Cell, H[q]? = some cell ∧ cell.cls = a.1 ∧ cell.slots = (vp_cell a.1 a.2).slots ∧ cell.vm ≠ .unknown ∧ ∀ k, cell.vm ≠ .statics k
  | .inr _ => False
theorem hs_wk_of {q : Nat} {c : ClassId} {z : vp_A} {H : Heap} (h : H[q]? = some (vp_cell c z)) : hs_wk q (.inl (c, z)) H := by
  obtain ⟨n, f | f | f | f | f⟩ := z <;> exact ⟨_, h, rfl, rfl, (fun q => by cases q), (fun k q => by cases q)⟩
/-- what lies at an address: a cell as the store says, or an old array of which as much is known -/
def hs_A (D : va_G) (cl : List vw_C) (H0 : Heap) (q : Nat) (x : va_E) (H : Heap) : Prop := va_at D cl (q, x) H ∨ (q < H0.size ∧ hs_wk q x H)
theorem hs_A.kept {D : va_G} {cl : List vw_C} {H0 H H1 : Heap} {q : Nat} {x : va_E} (h : hs_A D cl H0 q x H) (hq : H1[q]? = H[q]?) : hs_A D cl H0 q x H1 := by
  rcases h with h | ⟨h0, h⟩
  · exact Or.inl (h.kept hq)
  · refine Or.inr ⟨h0, ?_⟩
    cases x with
    | inl a =>
      obtain ⟨cell, h1, h2⟩ := h
      exact ⟨cell, hq.trans h1, h2⟩
    | inr o => exact h.elim
theorem hs_A.lt {D : va_G} {cl : List vw_C} {H0 H : Heap} {q : Nat} {x : va_E} (h : hs_A D cl H0 q x H) : q < H.size := by
  rcases h with h | ⟨-, h⟩
  · exact h.lt
  · cases x with
    | inl a =>
      obtain ⟨cell, h1, -⟩ := h
      exact (Array.getElem?_eq_some_iff.mp h1).1
    | inr o => exact h.elim
theorem hs_A.st {D : va_G} {cl : List vw_C} {H0 H : Heap} {q : Nat} {x : va_E} (h : hs_A D cl H0 q x H) (hq : H0.size ≤ q) : va_at D cl (q, x) H := h.elim id fun z => absurd z.1 (Nat.not_lt.mpr hq)
theorem hs_A.ob {D : va_G} {cl : List vw_C} {H0 H : Heap} {q : Nat} {o : Nat × List Value} (h : hs_A D cl H0 q (.inr o) H) : va_at D cl (q, .inr o) H := h.elim id fun z => z.2.elim
theorem hs_A.wk {D : va_G} {cl : List vw_C} {H0 H : Heap} {q : Nat} {c : ClassId} {z : vp_A} (h : hs_A D cl H0 q (.inl (c, z)) H) : ∃ cell : Cell, H[q]? = some cell ∧ cell.cls = c ∧ cell.slots = (vp_cell c z).slots ∧ cell.vm ≠ .unknown ∧ ∀ k, cell.vm ≠ .statics k := h.elim (fun z => hs_wk_of z) fun z => z.2
theorem hs_isA {s : State} {cell : Cell} {cA : ClassId} {ty : FieldType} (h : ArrOfT s cA ty) (hc : cell.cls = cA) (hv : ∀ k, cell.vm ≠ .statics k) : s.isArrayOf cell ty := ⟨hv, by rw [hc]; exact (h 0 (fun _ => .null)).2⟩
def hs_W (D : va_G) (cl : List vw_C) (H0 : Heap) (G : hs_G) (H : Heap) : Prop :=
  (∀ (q : Nat) (x : va_E), G q = some x → hs_A D cl H0 q x H) ∧ H0.size ≤ H.size ∧ ∀ q : Nat, q < H0.size → H[q]? = H0[q]?
theorem hs_W.put {D : va_G} {cl : List vw_C} {H0 : Heap} {G : hs_G} {H H1 : Heap} (hW : hs_W D cl H0 G H) {a : Nat} {x : va_E} (ha : H0.size ≤ a) (hx : va_at D cl (a, x) H1) (hz : H1.size = H.size) (oq : ∀ q : Nat, q ≠ a → H1[q]? = H[q]?) : hs_W D cl H0 (hs_up G a x) H1 := by
  obtain ⟨h1, h2, h3⟩ := hW
  refine ⟨fun q y hq => ?_, by omega, fun q hq => ?_⟩
  · by_cases e : q = a
    · subst e
      rw [hs_up_eq] at hq
      cases hq
      exact Or.inl hx
    · rw [hs_up_ne _ _ e] at hq
      exact (h1 q y hq).kept (oq q e)
  · rw [oq q (by omega)]; exact h3 q hq
theorem hs_W.push {D : va_G} {cl : List vw_C} {H0 : Heap} {G : hs_G} {H H1 : Heap} (hW : hs_W D cl H0 G H) {x : va_E} (hx : va_at D cl (H.size, x) H1) (hz : H1.size = H.size + 1) (oq : ∀ q : Nat, q < H.size → H1[q]? = H[q]?) : hs_W D cl H0 (hs_up G H.size x) H1 := by
  obtain ⟨h1, h2, h3⟩ := hW
  refine ⟨fun q y hq => ?_, by omega, fun q hq => ?_⟩
  · by_cases e : q = H.size
    · subst e
      rw [hs_up_eq] at hq
      cases hq
      exact Or.inl hx
    · rw [hs_up_ne _ _ e] at hq
      have hl := (h1 q y hq).lt
      exact (h1 q y hq).kept (oq q hl)
  · rw [oq q (by omega)]; exact h3 q hq
theorem hs_W.fresh {D : va_G} {cl : List vw_C} {H0 : Heap} {G : hs_G} {H : Heap} (hW : hs_W D cl H0 G H) : G H.size = none := by
  cases h : G H.size with
  | none => rfl
  | some x => exact absurd (hW.1 _ x h).lt (Nat.lt_irrefl _)
/-- cells that nobody names may come -/
theorem hs_W.grow {D : va_G} {cl : List vw_C} {H0 : Heap} {G : hs_G} {H H1 : Heap} (hW : hs_W D cl H0 G H) (hz : H.size ≤ H1.size) (oq : ∀ q : Nat, q < H.size → H1[q]? = H[q]?) : hs_W D cl H0 G H1 := by
  obtain ⟨h1, h2, h3⟩ := hW
  exact ⟨fun q y hq => (h1 q y hq).kept (oq q (h1 q y hq).lt), by omega, fun q hq => by rw [oq q (by omega)]; exact h3 q hq⟩
/-- a store that names less -/
theorem hs_W.less {D : va_G} {cl : List vw_C} {H0 : Heap} {G G' : hs_G} {H : Heap} (hW : hs_W D cl H0 G H) (h : ∀ (q : Nat) (x : va_E), G' q = some x → G q = some x) : hs_W D cl H0 G' H := ⟨fun q x hq => hW.1 q x (h q x hq), hW.2⟩
theorem hs_one {D : va_G} {cl : List vw_C} {H0 : Heap} {G : hs_G} {H : Heap} (hW : hs_W D cl H0 G H) {a : Nat} {x : Nat × List Value} (ha : G a = some (.inr x)) : va_P D cl [(a, .inr x)] H := by
  intro k q hk
  have hz : k < 1 := (List.getElem?_eq_some_iff.mp hk).1
  rw [show k = 0 by omega] at hk
  cases hk
  exact (hW.1 a _ ha).ob
/-- an array of arrays of longs can be made -/
def hs_AL (U : State) : Prop := (Cond.arrayOver (.array .long)).before #[] U = true
theorem hs_AL.spec {U : State} (h : hs_AL U) : ∃ (comp c : ClassId) (k : Class), U.vm.findClass (FieldType.array .long).toString = some comp ∧ (U.vm.classes.findIdx? fun (x : Class) => match x.kind with | .array component _ => component == comp | _ => false) = some c ∧ U.vm.classes[c]? = some k ∧ k.kind = .array comp (.array .long) ∧ U.vm.findClass ("[" ++ (FieldType.array .long).toString) = some c := by
  unfold hs_AL Cond.before at h
  simp only [Cond.holds, Cond.value, beq_iff_eq] at h
  cases hc : U.vm.findClass (FieldType.array .long).toString with
  | none => simp [hc] at h
  | some comp =>
    simp only [hc, Option.bind_some, Option.bind_eq_some_iff, Option.map_eq_some_iff] at h
    obtain ⟨c, hi, k, hk, hb⟩ := h
    obtain ⟨hlt, hp, -⟩ := Array.findIdx?_eq_some_iff_getElem.mp hi
    have hk2 : U.vm.classes[c] = k := by
      have := hk
      rw [Array.getElem?_eq_getElem hlt] at this
      exact Option.some.inj this
    rw [hk2] at hp
    cases hkd : k.kind with
    | array component ty =>
      rw [hkd] at hp hb
      simp only [Bool.and_eq_true, decide_eq_true_eq, beq_iff_eq] at hp hb
      exact ⟨comp, c, k, rfl, hi, hk, by rw [hkd, hp, hb.1], hb.2⟩
    | _ => rw [hkd] at hp; simp at hp
theorem hs_idx_bare (vm : Vm) (comp : ClassId) : (vm.bare.classes.findIdx? fun (x : Class) => match x.kind with | .array component _ => component == comp | _ => false) = (vm.classes.findIdx? fun (x : Class) => match x.kind with | .array component _ => component == comp | _ => false) := by
  simp only [Vm.bare, Array.findIdx?_map]
  rfl
theorem hs_AL.moved {u U : State} (hvm : u.vm.Alike U.vm) (h : hs_AL u) : hs_AL U := by
  obtain ⟨comp, c, k, h1, h2, h3, h4, h5⟩ := h.spec
  obtain ⟨k', hk', he⟩ := hvm.2.2 _ _ h3
  have hi : (U.vm.classes.findIdx? fun (x : Class) => match x.kind with | .array component _ => component == comp | _ => false) = some c := by
    rw [← hs_idx_bare]
    first | rw [hvm.bare_eq] | rw [← hvm.bare_eq]
    rw [hs_idx_bare]
    exact h2
  have hkind : k'.kind = .array comp (.array .long) := by rw [he]; exact h4
  have f1 : U.vm.findClass (FieldType.array .long).toString = some comp := by rw [hvm.findClass]; exact h1
  have f2 : U.vm.findClass ("[" ++ (FieldType.array .long).toString) = some c := by rw [hvm.findClass]; exact h5
  unfold hs_AL Cond.before Cond.holds
  simp only [Cond.value]
  rw [f1, Option.bind_some]
  refine (congrArg (fun o : Option Nat => (o.bind (fun c => (U.vm.classes[c]?).map fun (k : Class) => match k.kind with | .array _ ty => decide (ty = FieldType.array .long) && decide (U.vm.findClass ("[" ++ (FieldType.array .long).toString) = some c) | _ => false) == some true)) hi).trans ?_
  simp [hk', hkind, f2]
/-- what else is asked of the tables: the class object of Object[], that arrays of objects and of arrays of longs can be made, that an IllegalStateException is no IllegalArgumentException, the class of MONTH_LENGTHS -/
def hs_X (D : va_G) (U : State) : Prop := va_Mi "[Ljava/lang/Object;" (D.1 77) U ∧ va_AO "java/lang/Object" U ∧ hs_AL U ∧ va_Nc "java/lang/IllegalStateException" "java/lang/IllegalArgumentException" U ∧ ArrOfT U (D.1 78) .int
theorem hs_X.moved {D : va_G} {u U : State} (hvm : u.vm.Alike U.vm) (h : hs_X D u) : hs_X D U := ⟨va_Mi.moved hvm h.1, va_AO.moved hvm h.2.1, hs_AL.moved hvm h.2.2.1, va_Nc.moved hvm h.2.2.2.1, arrOfT_moved hvm h.2.2.2.2⟩
/-- the tables: classes, array classes, the static fields that are read, and what a throw asks of Throwable's -/
def hs_K (D : va_G) (cl : List vw_C) (tys : List (ClassId × FieldType)) (Zs : List (String × String × String × Value)) (H0 : Heap) (U : State) : Prop := va_K D cl tys U ∧ ((∀ z ∈ Zs, va_Z z.1 z.2.1 z.2.2.1 z.2.2.2 (fun q : Nat => H0.size ≤ q) U H0) ∧ hs_X D U) ∧ vx_Zq Bundle.tN "UNASSIGNED_STACK" Bundle.steD (fun q : Nat => H0.size ≤ q) U H0 ∧ vx_Zq Bundle.tN "SUPPRESSED_SENTINEL" Bundle.listD (fun q : Nat => H0.size ≤ q) U H0
theorem hs_K.moved {D : va_G} {cl : List vw_C} {tys : List (ClassId × FieldType)} {Zs : List (String × String × String × Value)} {H0 : Heap} {u U : State} (hvm : u.vm.Alike U.vm) (h : hs_K D cl tys Zs H0 u) : hs_K D cl tys Zs H0 U := ⟨va_K.moved hvm h.1, ⟨fun z hz => va_Z.moved hvm (h.2.1.1 z hz), hs_X.moved hvm h.2.1.2⟩, vx_Zq.moved hvm h.2.2.1, vx_Zq.moved hvm h.2.2.2⟩
/-- the frame's context: the machine, the code, the class, the words, the tables -/
def hs_C (D : va_G) (cl : List vw_C) (tys : List (ClassId × FieldType)) (Zs : List (String × String × String × Value)) (H0 : Heap) (Ts : List Cond) (p : Program) (s : State) (m : MethodId) (args : Array Value) (c : Code) (cc : ByteArray) (nL : Nat) (own : String) : Prop :=
  p.tables.exec = Jvm.exec ∧ c.code = cc ∧ c.maxLocals = nL ∧ s.vm.findClass own = some m.cls ∧ (∀ w ∈ Ts, w.before args s = true) ∧ hs_K D cl tys Zs H0 s
section HS1
variable {p : Program} {l : Launch} {e : Env} {R : Room} {s : State} {m : MethodId} {args : Array Value} {below : List Frame} {meth : Method} {c : Code} {H : Heap} {locs : List Loc} {cells slots : Nat} {Q : State → Prop}
variable {cc : ByteArray} {pc nL : Nat} {ls : Array Slot} {rest : List Value} {D : va_G} {cl : List vw_C} {a : Nat} {tys : List (ClassId × FieldType)} {Zs : List (String × String × String × Value)} {Ts : List Cond} {own : String} {H0 : Heap} {G : hs_G}
theorem hs_get (hC : hs_C D cl tys Zs H0 Ts p s m args c cc nL own) (hW : hs_W D cl H0 G H) {ref C : String} {T : u_T} {N ci index : Nat} (hin : ∀ w ∈ u_ws C T N, w ∈ Ts) (hc : cl[ci]? = some (C, T, N)) (k : Nat) (hk : k < N) (hlink : Cond.fieldLink own index ref (T k).2.1 (T k).2.2.1 ∈ Ts) (href : ref = (T k).1) {fs : List Value} (ha : G a = some (.inr (ci, fs))) {v : Value} (hv : fs[k]? = some v) (hdg : decode cc pc = .ok (.getfield index, 3))
    (kk : W p l e R s m args below meth c H locs cells slots Q (F0 m (pc + 3) ls (v :: rest))) : W p l e R s m args below meth c H locs cells slots Q (F0 m pc ls (.ref a :: rest)) :=
  va_get hC.1 hC.2.1 hC.2.2.2.2.1 hin hC.2.2.2.1 hC.2.2.2.2.2.1 (hs_one hW ha) 0 rfl hc k hk (hC.2.2.2.2.1 _ hlink) (fun x hx => by rw [href]; exact hx) hv hdg kk
theorem hs_getN (hC : hs_C D cl tys Zs H0 Ts p s m args c cc nL own) (hW : hs_W D cl H0 G H) {ref C host : String} {T : u_T} {N ci index : Nat} (hin : ∀ w ∈ u_ws C T N, w ∈ Ts) (hc : cl[ci]? = some (C, T, N)) (k : Nat) (hk : k < N) (hlink : Cond.fieldLinkNest own index ref (T k).2.1 (T k).2.2.1 host ∈ Ts) (href : ref = (T k).1) {fs : List Value} (ha : G a = some (.inr (ci, fs))) {v : Value} (hv : fs[k]? = some v) (hdg : decode cc pc = .ok (.getfield index, 3))
    (kk : W p l e R s m args below meth c H locs cells slots Q (F0 m (pc + 3) ls (v :: rest))) : W p l e R s m args below meth c H locs cells slots Q (F0 m pc ls (.ref a :: rest)) :=
  va_getN hC.1 hC.2.1 hC.2.2.2.2.1 hin hC.2.2.2.1 hC.2.2.2.2.2.1 (hs_one hW ha) 0 rfl hc k hk (hC.2.2.2.2.1 _ hlink) (fun x hx => by rw [href]; exact hx) hv hdg kk
theorem hs_put (hC : hs_C D cl tys Zs H0 Ts p s m args c cc nL own) (hW : hs_W D cl H0 G H) (hL : ∀ q ∈ locs, H0.size ≤ q.base) {ref C : String} {T : u_T} {N ci index : Nat} (hin : ∀ w ∈ u_ws C T N, w ∈ Ts) (ty0 : Nat → FieldType) (hty : ∀ k, k < N → parseFieldDescriptor (T k).2.2.1 = some (ty0 k)) (hnm : ∀ a, a < N → ∀ b, b < N → a ≠ b → (T a).2.1 ≠ (T b).2.1) (hc : cl[ci]? = some (C, T, N)) (k : Nat) (hk : k < N) (hlink : Cond.fieldLink own index ref (T k).2.1 (T k).2.2.1 ∈ Ts) (href : ref = (T k).1) (hfin : (T k).2.2.2 = false) {fs : List Value} (ha : G a = some (.inr (ci, fs))) (hA : H0.size ≤ a) {v : Value} (hn : narrow (ty0 k) v = v) (hfit : fits (ty0 k) v = true) (hl : k < fs.length)
    (hdg : decode cc pc = .ok (.putfield index, 3)) (kk : ∀ (H1 : Heap) (locs1 : List Loc), hs_W D cl H0 (hs_up G a (.inr (ci, fs.set k v))) H1 → (∀ q ∈ locs1, H0.size ≤ q.base) → W p l e R s m args below meth c H1 locs1 cells slots Q (F0 m (pc + 3) ls rest)) : W p l e R s m args below meth c H locs cells slots Q (F0 m pc ls (v :: .ref a :: rest)) := by
  obtain ⟨hx, hb, -, hown, hts, hK, -⟩ := hC
  have hap := va_apart (own := own) hts hin ty0 hty hnm hK hc
  obtain ⟨r, h1, cell, q1, q2, q3, q4⟩ := (hW.1 a _ ha).ob
  have hr : r = (C, T, N) := Option.some.inj (h1.symm.trans hc)
  subst hr
  obtain ⟨hS, hfc, kC, hkC, hkind⟩ := hK.1 ci _ hc
  obtain ⟨cf, kf, fi, f, hi, hsl⟩ := hS k hk
  have hlay := hts _ (hin _ (u_in_lay hk))
  unfold u_lay at hlay
  rw [if_neg (by rw [hfin]; decide)] at hlay
  have hst := (u_facts hfc hkC (u_lays hts hin hk) hi).1
  have h6 := u_store hfc hkC hkind hlay hi (hty k hk) hn hfit
  refine W.putK hx hb (f := f) ⟨hown, hts _ hlink, ⟨_, _, _, by rw [href]; exact hi⟩, hst⟩ (by rw [q2]; exact h6) q1 q3 (by rw [hsl]; exact k2_hasslot (q4 k hk)) rfl rfl hdg fun H' e1 e2 e3 => ?_
  rw [hsl] at e1 ⊢
  refine kk H' _ (hW.put hA ⟨_, hc, t_OB.to (V := updV (vp_V fs) k v) ⟨_, e1, q2, q3, t_set q4 hap hk v⟩ (fun j _ => vp_updV_set hl v j)⟩ e2 e3) (fun q hq => ?_)
  rcases List.mem_append.mp hq with h | h
  · exact hL q h
  · rw [List.mem_singleton.mp h]; exact hA
theorem hs_putN (hC : hs_C D cl tys Zs H0 Ts p s m args c cc nL own) (hW : hs_W D cl H0 G H) (hL : ∀ q ∈ locs, H0.size ≤ q.base) {ref C host : String} {T : u_T} {N ci index : Nat} (hin : ∀ w ∈ u_ws C T N, w ∈ Ts) (ty0 : Nat → FieldType) (hty : ∀ k, k < N → parseFieldDescriptor (T k).2.2.1 = some (ty0 k)) (hnm : ∀ a, a < N → ∀ b, b < N → a ≠ b → (T a).2.1 ≠ (T b).2.1) (hc : cl[ci]? = some (C, T, N)) (k : Nat) (hk : k < N) (hlink : Cond.fieldLinkNest own index ref (T k).2.1 (T k).2.2.1 host ∈ Ts) (href : ref = (T k).1) (hfin : (T k).2.2.2 = false) {fs : List Value} (ha : G a = some (.inr (ci, fs))) (hA : H0.size ≤ a) {v : Value} (hn : narrow (ty0 k) v = v) (hfit : fits (ty0 k) v = true) (hl : k < fs.length)
    (hdg : decode cc pc = .ok (.putfield index, 3)) (kk : ∀ (H1 : Heap) (locs1 : List Loc), hs_W D cl H0 (hs_up G a (.inr (ci, fs.set k v))) H1 → (∀ q ∈ locs1, H0.size ≤ q.base) → W p l e R s m args below meth c H1 locs1 cells slots Q (F0 m (pc + 3) ls rest)) : W p l e R s m args below meth c H locs cells slots Q (F0 m pc ls (v :: .ref a :: rest)) := by
  obtain ⟨hx, hb, -, hown, hts, hK, -⟩ := hC
  have hap := va_apart (own := own) hts hin ty0 hty hnm hK hc
  obtain ⟨r, h1, cell, q1, q2, q3, q4⟩ := (hW.1 a _ ha).ob
  have hr : r = (C, T, N) := Option.some.inj (h1.symm.trans hc)
  subst hr
  obtain ⟨hS, hfc, kC, hkC, hkind⟩ := hK.1 ci _ hc
  obtain ⟨cf, kf, fi, f, hi, hsl⟩ := hS k hk
  have hlay := hts _ (hin _ (u_in_lay hk))
  unfold u_lay at hlay
  rw [if_neg (by rw [hfin]; decide)] at hlay
  have hst := (u_facts hfc hkC (u_lays hts hin hk) hi).1
  have h6 := u_store hfc hkC hkind hlay hi (hty k hk) hn hfit
  refine va_WputK hx hb (f := f) hown (hts _ hlink) (by rw [href]; exact hi) hst (by rw [q2]; exact h6) q1 q3 (by rw [hsl]; exact k2_hasslot (q4 k hk)) rfl rfl hdg fun H' e1 e2 e3 => ?_
  rw [hsl] at e1 ⊢
  refine kk H' _ (hW.put hA ⟨_, hc, t_OB.to (V := updV (vp_V fs) k v) ⟨_, e1, q2, q3, t_set q4 hap hk v⟩ (fun j _ => vp_updV_set hl v j)⟩ e2 e3) (fun q hq => ?_)
  rcases List.mem_append.mp hq with h | h
  · exact hL q h
  · rw [List.mem_singleton.mp h]; exact hA
theorem hs_putF (hC : hs_C D cl tys Zs H0 Ts p s m args c cc nL own) (hW : hs_W D cl H0 G H) (hL : ∀ q ∈ locs, H0.size ≤ q.base) {ref C : String} {T : u_T} {N ci index : Nat} (hin : ∀ w ∈ u_ws C T N, w ∈ Ts) (ty0 : Nat → FieldType) (hty : ∀ k, k < N → parseFieldDescriptor (T k).2.2.1 = some (ty0 k)) (hnm : ∀ a, a < N → ∀ b, b < N → a ≠ b → (T a).2.1 ≠ (T b).2.1) (hc : cl[ci]? = some (C, T, N)) (k : Nat) (hk : k < N) (hlink : Cond.fieldLink own index ref (T k).2.1 (T k).2.2.1 ∈ Ts) (href : ref = (T k).1) (hfin : (T k).2.2.2 = true) (hin2 : meth.name = "<init>") (hdecl : (T k).1 = own) {fs : List Value} (ha : G a = some (.inr (ci, fs))) (hA : H0.size ≤ a) {v : Value} (hn : narrow (ty0 k) v = v) (hfit : fits (ty0 k) v = true) (hl : k < fs.length)
    (hdg : decode cc pc = .ok (.putfield index, 3)) (kk : ∀ (H1 : Heap) (locs1 : List Loc), hs_W D cl H0 (hs_up G a (.inr (ci, fs.set k v))) H1 → (∀ q ∈ locs1, H0.size ≤ q.base) → W p l e R s m args below meth c H1 locs1 cells slots Q (F0 m (pc + 3) ls rest)) : W p l e R s m args below meth c H locs cells slots Q (F0 m pc ls (v :: .ref a :: rest)) := by
  obtain ⟨hx, hb, -, hown, hts, hK, -⟩ := hC
  have hap := va_apart (own := own) hts hin ty0 hty hnm hK hc
  obtain ⟨r, h1, cell, q1, q2, q3, q4⟩ := (hW.1 a _ ha).ob
  have hr : r = (C, T, N) := Option.some.inj (h1.symm.trans hc)
  subst hr
  obtain ⟨hS, hfc, kC, hkC, hkind⟩ := hK.1 ci _ hc
  obtain ⟨cf, kf, fi, f, hi, hsl⟩ := hS k hk
  have hlay := hts _ (hin _ (u_in_lay hk))
  unfold u_lay at hlay
  rw [if_pos hfin] at hlay
  have hst := (u_facts hfc hkC (u_lays hts hin hk) hi).1
  have hcf : m.cls = cf := by
    obtain ⟨_, _, c', _, _, _, -, -, hf', -, -, -, hown2, -⟩ := Cond.laysFinal_spec hlay
    have e1 : c' = cf := by have := hi.symm.trans hf'; simp at this; exact this.1.symm
    rw [hdecl] at hown2
    rw [← e1]; exact Option.some.inj (hown.symm.trans hown2)
  have h6 := u_fits hfc hkC hkind (Or.inr hlay) hi (hty k hk) hn hfit
  refine W.putFinK hx hb hown (hts _ hlink) (by rw [href]; exact hi) hst hcf hin2 (by rw [q2]; exact h6) q1 q3 (by rw [hsl]; exact k2_hasslot (q4 k hk)) rfl rfl hdg fun H' e1 e2 e3 => ?_
  rw [hsl] at e1 ⊢
  refine kk H' _ (hW.put hA ⟨_, hc, t_OB.to (V := updV (vp_V fs) k v) ⟨_, e1, q2, q3, t_set q4 hap hk v⟩ (fun j _ => vp_updV_set hl v j)⟩ e2 e3) (fun q hq => ?_)
  rcases List.mem_append.mp hq with h | h
  · exact hL q h
  · rw [List.mem_singleton.mp h]; exact hA
end HS1
