/-! CATCHING in the frame's own table, the catch types resolved or not -/
def hs_FT (e : Env) (s : State) (f : JFrame) (a : Addr) (t : List ExceptionTableEntry) (pc : Nat) (vm' : Vm) : Prop :=
  ∀ (Q : Handler → Pre) (E : CtlPost) (d : Bool) (acts : List Action), wp (findHandler.go f a t) Q E e d acts s ↔ Q (.found pc) d acts (s.setVm vm')
theorem hs_FT_row {e : Env} {s : State} {f : JFrame} {a : Addr} {x : ExceptionTableEntry} {c : ClassId} {cell : Cell} (hx : covers x f.pc = true) (h0 : x.catchType ≠ 0) (hl : s.vm.ClassLinks e.platform f.method.cls x.catchType c) (hcell : s.heap[a]? = some cell) (hobj : ∀ k, cell.vm ≠ .statics k)
    (hk : ∃ k, s.vm.classes[cell.cls]? = some k) (hc : ∃ k, s.vm.classes[c]? = some k) (t : List ExceptionTableEntry) :
    (s.vm.assignable cell.cls c = true → hs_FT e s f a (x :: t) x.handlerPc (s.vm.noted f.method.cls x.catchType (.cls c))) ∧
    (s.vm.assignable cell.cls c = false → ∀ (Q : Handler → Pre) (E : CtlPost) (d : Bool) (acts : List Action), wp (findHandler.go f a (x :: t)) Q E e d acts s ↔ wp (findHandler.go f a t) Q E e d acts (s.setVm (s.vm.noted f.method.cls x.catchType (.cls c)))) := by
  simp only [covers] at hx
  obtain ⟨ha, ht⟩ := (resolveClass_links e.toSetting hl).op (op := VmOp.resolveClass f.method.cls x.catchType) rfl
  have hal : s.vm.Alike (s.vm.noted f.method.cls x.catchType (.cls c)) := (Vm.Alike.refl s.vm).noted _ _ _
  obtain ⟨k1, hk1⟩ := hk
  obtain ⟨k2, hk2⟩ := hc
  obtain ⟨k1', hk1', -⟩ := hal.2.2 _ _ hk1
  obtain ⟨k2', hk2', -⟩ := hal.2.2 _ _ hk2
  refine ⟨fun hfit Q E d acts => ?_, fun hno Q E d acts => ?_⟩
  · have hfit' : (s.vm.noted f.method.cls x.catchType (.cls c)).assignable cell.cls c = true := by rw [hal.assignable]; exact hfit
    simp [findHandler.go, hx, h0, ha, ht, hcell, hobj, hk1', hk2', hfit', VmOp.dirties, VmOp.acts]
  · have hno' : (s.vm.noted f.method.cls x.catchType (.cls c)).assignable cell.cls c = false := by rw [hal.assignable]; exact hno
    simp [findHandler.go, hx, h0, ha, ht, hcell, hobj, hk1', hk2', hno', VmOp.dirties, VmOp.acts]
theorem hs_caught {tb : Tables} {e : Env} {s target : State} {g : JFrame} {c : Code} {below : List Frame} {a : Addr} (h : At s g.method c below) {meth : Method} (hm : s.vm.method? g.method = some meth) (hc : meth.code = some c) {pc : Nat} {vm' : Vm}
    (hf : hs_FT e ((s.setTop g).pushFrame (.throwing a)) g a c.exceptionTable.toList pc vm') (hrest : Steps tb e below ((s.setVm vm').setTop { g with pc := pc, stack := [.ref a] }) target) :
    Steps tb e below ((s.setTop g).pushFrame (.throwing a)) target := by
  have hm' : ((s.setTop g).pushFrame (.throwing a)).vm.method? g.method = some meth := by rw [Stand.throwing_vm]; exact hm
  have key : ∀ (Q : Handler → Pre) (E : CtlPost) (d : Bool) (acts : List Action), wp (findHandler g a) Q E e d acts ((s.setTop g).pushFrame (.throwing a)) ↔ Q (.found pc) d acts (((s.setTop g).pushFrame (.throwing a)).setVm vm') :=
    fun Q E d acts => by rw [W.findHandler_eq hm' hc]; exact hf Q E d acts
  have hstep : ∀ r : List Frame, (stepThrowing e ((s.setTop g).pushFrame (.throwing a)) a (.java g :: r)).1 = (((s.setTop g).pushFrame (.throwing a)).setVm vm').setFrames (.java { g with pc := pc, stack := [.ref a] } :: r) := by
    intro r
    simp only [stepThrowing, searchFrame, vmDo]
    generalize hr : Sem.go _ e false [] ((s.setTop g).pushFrame (.throwing a)) = res
    obtain ⟨as, rfl, -⟩ := Sem.eq_ok_of hr (a := Handler.found pc) (s' := ((s.setTop g).pushFrame (.throwing a)).setVm vm') (acts' := []) (by simp [key _ _ _ _])
    rfl
  obtain ⟨hgo, hw⟩ := h.throwing a
  refine Steps.head hgo hw ?_
  rw [stepThread_throwing (frames_entered h.top _), hstep]
  obtain ⟨g₀, hg⟩ := Option.isSome_iff_exists.mp h.top
  obtain ⟨r, hr⟩ := State.topJava?_eq_some.mp hg
  have hr' : (s.setVm vm').frames = .java g₀ :: r := hr
  rw [State.setTop_of_frames _ hr'] at hrest
  have e1 : ∀ (u : State) (F F2 : List Frame), ((u.setFrames F).setVm vm').setFrames F2 = (u.setVm vm').setFrames F2 := by
    intro u F F2
    have h1 : (u.setFrames F).setVm vm' = (u.setVm vm').setFrames F := rfl
    rw [h1, State.setFrames_setFrames]
  rw [hr, List.tail_cons, State.pushFrame, e1, State.setTop_of_frames _ hr, e1]
  exact hrest
section HS13
variable {p : Program} {l : Launch} {e : Env} {R : Room} {s : State} {m : MethodId} {args : Array Value} {below : List Frame} {meth : Method} {c : Code} {H : Heap} {locs : List Loc} {cells slots : Nat} {Q : State → Prop}
variable {pc : Nat} {ls : Array Slot} {rest : List Value}
/-- what a row of the table names, for an object of the class E -/
theorem hs_links {T : State} {own name E : String} {ct : Nat} {cE cN : ClassId} (hpl : e.platform.magicAccessors = ({} : Platform).magicAccessors) (hown : s.vm.findClass own = some m.cls) (hlink : (Cond.classLink own ct name).before args s = true) (hN : s.vm.findClass name = some cN) (hW : s.WarmedH T.vm) :
    T.vm.ClassLinks e.platform m.cls ct cN ∧ (∃ k, T.vm.classes[cN]? = some k) ∧ s.WarmedH (T.vm.noted m.cls ct (.cls cN)) := by
  obtain ⟨c', hc', hcl⟩ := Cond.classLink_spec hown hlink e.platform hpl
  cases hN.symm.trans hc'
  obtain ⟨dk, _, _, kt, hd, _, _, _, _, hkt, _, hopen⟩ := hcl.here
  obtain ⟨kt', hkt', -⟩ := hW.alike.2.2 _ _ hkt
  exact ⟨hW.classLinks hcl, ⟨kt', hkt'⟩, hW.noted hd hopen (State.rightAt_cls hcl)⟩
/-- caught by the table's first row -/
theorem hs_catch1 {own name E : String} {x : ExceptionTableEntry} {suf : List ExceptionTableEntry} {q : Nat} (hown : s.vm.findClass own = some m.cls) (hsplit : c.exceptionTable.toList = x :: suf) (hx : covers x pc = true) (h0 : x.catchType ≠ 0)
    (hlink : (Cond.classLink own x.catchType name).before args s = true) (hcast : (Cond.castable E name).before args s = true) (hEx : hs_Ex E q s H)
    (kk : W p l e R s m args below meth c H locs cells slots Q (F0 m x.handlerPc ls [.ref q])) : vx_W p l e R s m args below meth c H locs cells slots Q (F0 m pc ls rest) q := by
  intro T hT X
  have hpl : e.platform.magicAccessors = ({} : Platform).magicAccessors := by rw [X.admits.platform]
  obtain ⟨c3, c4, hc3, hc4, hasg⟩ := Cond.castable_spec hcast
  obtain ⟨cell, x1, x2, x3⟩ := hEx
  cases Option.some.inj (hc3.symm.trans x3)
  obtain ⟨k9, h9, -⟩ := Vm.findClass_spec x3
  obtain ⟨k9', h9', -⟩ := X.warmed.alike.2.2 _ _ h9
  obtain ⟨l1, l2, l3⟩ := hs_links (T := T) (E := E) (cE := cell.cls) hpl hown hlink hc4 X.warmed
  have hf := (hs_FT_row (e := e) (s := (T.setTop (F0 m pc ls rest)).pushFrame (.throwing q)) (f := F0 m pc ls rest) (a := q) (x := x) (c := c4) (cell := cell) hx h0 (by rw [Stand.throwing_vm]; exact l1) (by rw [Stand.throwing_heap, hT]; exact x1) (fun k h => by rw [x2] at h; cases h) ⟨k9', by rw [Stand.throwing_vm]; exact h9'⟩ (by rw [Stand.throwing_vm]; exact l2) suf).1 (by rw [Stand.throwing_vm, X.warmed.alike.assignable]; exact hasg)
  rw [Stand.throwing_vm] at hf
  obtain ⟨t, a1, b1⟩ := kk (T.setVm (T.vm.noted m.cls x.catchType (.cls c4))) hT (X.noted l3)
  exact ⟨t, hs_caught (g := F0 m pc ls rest) X.here X.method' X.code (by rw [hsplit]; exact hf) a1, b1⟩
/-- caught by the second row, the first one names another class -/
theorem hs_catch2 {own name nm1 E : String} {y x : ExceptionTableEntry} {suf : List ExceptionTableEntry} {q : Nat} (hown : s.vm.findClass own = some m.cls) (hsplit : c.exceptionTable.toList = y :: x :: suf) (hy : covers y pc = true) (hy0 : y.catchType ≠ 0) (hlink1 : (Cond.classLink own y.catchType nm1).before args s = true) (hno : va_Nc E nm1 s) (hx : covers x pc = true) (h0 : x.catchType ≠ 0)
    (hlink : (Cond.classLink own x.catchType name).before args s = true) (hcast : (Cond.castable E name).before args s = true) (hEx : hs_Ex E q s H)
    (kk : W p l e R s m args below meth c H locs cells slots Q (F0 m x.handlerPc ls [.ref q])) : vx_W p l e R s m args below meth c H locs cells slots Q (F0 m pc ls rest) q := by
  intro T hT X
  have hpl : e.platform.magicAccessors = ({} : Platform).magicAccessors := by rw [X.admits.platform]
  obtain ⟨c3, c4, hc3, hc4, hasg⟩ := Cond.castable_spec hcast
  obtain ⟨cell, x1, x2, x3⟩ := hEx
  cases Option.some.inj (hc3.symm.trans x3)
  obtain ⟨a8, b8, n1, n2, n3⟩ := hno
  cases Option.some.inj (n1.symm.trans x3)
  obtain ⟨k9, h9, -⟩ := Vm.findClass_spec x3
  obtain ⟨k9', h9', -⟩ := X.warmed.alike.2.2 _ _ h9
  obtain ⟨m1, m2, m3⟩ := hs_links (T := T) (E := E) (cE := cell.cls) hpl hown hlink1 n2 X.warmed
  obtain ⟨l1, l2, l3⟩ := hs_links (T := T.setVm (T.vm.noted m.cls y.catchType (.cls b8))) (E := E) (cE := cell.cls) hpl hown hlink hc4 m3
  obtain ⟨k8', h8', -⟩ := m3.alike.2.2 _ _ h9
  have hf1 := (hs_FT_row (e := e) (s := (T.setTop (F0 m pc ls rest)).pushFrame (.throwing q)) (f := F0 m pc ls rest) (a := q) (x := y) (c := b8) (cell := cell) hy hy0 (by rw [Stand.throwing_vm]; exact m1) (by rw [Stand.throwing_heap, hT]; exact x1) (fun k h => by rw [x2] at h; cases h) ⟨k9', by rw [Stand.throwing_vm]; exact h9'⟩ (by rw [Stand.throwing_vm]; exact m2) (x :: suf)).2 (by rw [Stand.throwing_vm, X.warmed.alike.assignable]; exact n3)
  rw [Stand.throwing_vm] at hf1
  have hf2 := (hs_FT_row (e := e) (s := ((T.setTop (F0 m pc ls rest)).pushFrame (.throwing q)).setVm (T.vm.noted m.cls y.catchType (.cls b8))) (f := F0 m pc ls rest) (a := q) (x := x) (c := c4) (cell := cell) hx h0 l1 (by show ((T.setTop (F0 m pc ls rest)).pushFrame (.throwing q)).heap[q]? = _; rw [Stand.throwing_heap, hT]; exact x1) (fun k h => by rw [x2] at h; cases h) ⟨k8', h8'⟩ l2 suf).1 (by show (T.vm.noted m.cls y.catchType (.cls b8)).assignable _ _ = true; rw [m3.alike.assignable]; exact hasg)
  obtain ⟨t, a1, b1⟩ := kk (T.setVm ((T.vm.noted m.cls y.catchType (.cls b8)).noted m.cls x.catchType (.cls c4))) hT (X.noted l3)
  exact ⟨t, hs_caught (g := F0 m pc ls rest) X.here X.method' X.code (by rw [hsplit]; exact fun Q' E' d' acts' => (hf1 Q' E' d' acts').trans (hf2 Q' E' d' acts')) a1, b1⟩
end HS13
