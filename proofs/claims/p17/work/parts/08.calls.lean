section HS4
variable {p : Program} {l : Launch} {e : Env} {R : Room} {s : State} {m : MethodId} {args : Array Value} {below : List Frame} {meth : Method} {c : Code} {H : Heap} {locs : List Loc} {cells slots : Nat} {Q : State → Prop}
variable {cc : ByteArray} {pc nL : Nat} {ls : Array Slot} {rest : List Value} {D : va_G} {cl : List vw_C} {a : Nat} {tys : List (ClassId × FieldType)} {Zs : List (String × String × String × Value)} {Ts : List Cond} {own : String} {H0 : Heap} {G : hs_G} {Qy : hs_P}
/-- what is behind the call: a value, or an object on its way up -/
def hs_Beh (p : Program) (e : Env) (below : List Frame) (s : State) (g : JFrame) (X T' : State) (r : Option Value ⊕ String) : Prop := match r with
  | .inl v => Steps p.tables e below X (T'.setTop { g with pc := g.pc + 3, stack := v.toList ++ g.stack })
  | .inr C => ∃ x : Nat, hs_Ex C x s T'.heap ∧ Steps p.tables e below X ((T'.setTop g).pushFrame (.throwing x))
set_option maxHeartbeats 1000000 in
theorem hs_pay {T : State} {y : MethodName} {rm : Room} {av : List Value} {maxL : Nat} (hM : hs_M D cl tys Zs Ts H0 l y rm av G Qy) (hok : ∀ w ∈ Ts, hs_ok w = true) (hts : ∀ w ∈ Ts, w.before args s = true) (hK : hs_K D cl tys Zs H0 s)
    (X : Stand p l e R s m args below meth c T locs cells slots) (hG : hs_W D cl H0 G T.heap) {g : JFrame} (hg : g.method = m) (hsize : g.locals.size = c.maxLocals) (hW8 : 2 * g.monitorRoom + (g.stack.map fun v => v.category).sum ≤ 8)
    {ig : Instr} (hdg : decode c.code g.pc = .ok (ig, 3)) {mk : MethodId} (hn : s.methodNamed? y = some mk) {methY : Method} {cY : Code} (hmY : s.vm.method? mk = some methY) (hcY : methY.code = some cY) (hlY : cY.maxLocals = maxL) (hini : Cond.initialized y.cls ∈ Ts)
    (hfr : rm.frames + 1 ≤ R.frames) (hlo : 8 + (maxL + 11) + rm.locals ≤ R.locals) (hce : cells + rm.cells ≤ R.cells) (hsl : slots + rm.slots ≤ R.slots) :
    ∃ (T' : State) (L : List Loc) (r : Option Value ⊕ String) (G' : hs_G) (k n : Nat), Stand p l e R s m args below meth c T' (locs ++ L) (cells + k) (slots + n) ∧ (∀ q ∈ L, H0.size ≤ q.base) ∧ Qy r G' k n ∧ k ≤ rm.cells ∧ n ≤ rm.slots ∧ hs_W D cl H0 G' T'.heap ∧
      hs_Beh p e below s g (doInvoke e (T.setTop g) [] mk av.toArray).1 T' r := by
  have hnT : T.methodNamed? y = some mk := X.named hn
  have hmT : T.vm.method? mk = some methY := by rw [X.warmed.alike.method?]; exact hmY
  obtain ⟨kY, hkY, -⟩ := className_of_methodNamed hnT
  have hinT : (Cond.initialized y.cls).before av.toArray T = true := hs_ok_at X.warmed (hok _ hini) (hts _ hini)
  have hinitY : kY.init = .initialized := Cond.initialized_spec (findClass_of_methodNamed hnT) hkY hinT
  have h : At T g.method c below := by rw [hg]; exact X.here
  have happ : (headSpec Ts rm).appliesLoose y e.platform (T.calling g mk av.toArray) = true :=
    Spec.appliesLoose_calling (g := g) h hdg hnT hkY hinitY (X.room_calling (g := g) (R' := rm) hsize hmT hcY hfr (by rw [hlY]; omega) hce hsl) (atoms_intro fun w hw => hs_ok_at X.warmed (hok w hw) (hts w hw))
  obtain ⟨mid, hmid⟩ := h.above
  have hfr' : (T.setTop g).frames = (.java g :: mid) ++ below := by rw [State.frames_setTop' g h.top, hmid]; rfl
  obtain ⟨o, s₂, hsteps, -, hend, hq⟩ := Steps.callFree hM p X.admits X.cas X.clock (acts := []) hfr' happ ⟨rfl, hG, hs_K.moved (U := T.calling g mk av.toArray) X.warmed.alike hK⟩ trivial
  have hq : hs_Q D cl H0 Qy rm.cells rm.slots (T.calling g mk av.toArray) o s₂ := hq
  rw [State.frames_setTop' g h.top] at hend
  obtain ⟨r, G', k, n, hout, hqy, hG', hkk, hnn, hW₂, L, hsame, hL⟩ := hq
  rw [X.tail] at hend
  cases r with
  | inr C =>
    obtain ⟨x, rfl, cell, x1, x2, x3⟩ := hout
    obtain ⟨T', X', hWT, -, ht⟩ := X.outOfThrown hg hend hW₂ hsame
    have hh : s₂.heap = T'.heap := by rw [ht]; exact Stand.throwing_heap T' g x
    have hv : s₂.vm = T'.vm := by rw [ht]; exact Stand.throwing_vm T' g x
    refine ⟨T', L, .inr C, G', k, n, X', hL, hqy, hkk, hnn, by rw [← hh]; exact hG', x, ⟨cell, by rw [← hh]; exact x1, x2, ?_⟩, by rw [← ht]; exact hsteps⟩
    rw [hv, X'.warmed.alike.findClass] at x3
    exact x3
  | inl v =>
    have hov : o = .returned v := hout
    subst hov
    obtain ⟨e2, q2, q3, q4, q5, q6⟩ := id hsame
    have e3 : s₂ = ({ (T.calling g mk av.toArray).setFrames s₂.frames with heap := s₂.heap, slotsUsed := s₂.slotsUsed } : State).setVm s₂.vm := by
      have : s₂ = ({ s₂ with vm := (T.calling g mk av.toArray).vm } : State).setVm s₂.vm := rfl
      rw [e2] at this
      exact this
    obtain ⟨c₂, i₂, len₂, hc₂, hd₂, hf₂⟩ := hend
    have hW' : T.WarmedH s₂.vm := hW₂
    have hcc : c₂ = c := by
      have h1 : s₂.code? g.method = T.code? g.method := by
        rw [State.code?_eq, State.code?_eq, hW'.alike.method?]
      exact Option.some.inj (hc₂.symm.trans (h1.trans h.code))
    subst hcc
    have hlen : len₂ = 3 := by rw [hdg] at hd₂; cases hd₂; rfl
    subst hlen
    obtain ⟨g₀, hr⟩ := X.frames_eq
    have hs₂ : s₂ = (({ T with heap := s₂.heap, slotsUsed := s₂.slotsUsed } : State).setVm s₂.vm).setTop { g with pc := g.pc + 3, stack := v.toList ++ g.stack } := by
      have hr' : (({ T with heap := s₂.heap, slotsUsed := s₂.slotsUsed } : State).setVm s₂.vm).frames = .java g₀ :: below := hr
      refine e3.trans ?_
      rw [hf₂, State.calling_eq h.top, State.setFrames_setFrames, State.setTop_of_frames _ hr']
      rfl
    have hsm : T.sameButNew ({ T with heap := s₂.heap, slotsUsed := s₂.slotsUsed } : State) L k n := by
      refine ⟨?_, q2, q3, q4, q5, q6⟩
      obtain ⟨t, ht, -⟩ := State.frames_cons hr
      show ({ T with heap := s₂.heap, slotsUsed := s₂.slotsUsed } : State) = { T.setFrames T.frames with heap := s₂.heap, slotsUsed := s₂.slotsUsed }
      rw [State.setFrames_self ht]
    subst hg
    refine ⟨({ T with heap := s₂.heap, slotsUsed := s₂.slotsUsed } : State).setVm s₂.vm, L, .inl v, G', k, n,
      ⟨X.admits, X.cas, X.clock, X.frames, X.room, X.hears, X.method, X.code, (X.here.setHeapUsed s₂.heap s₂.slotsUsed).setVm hW'.alike, X.tail, State.WarmedH.trans X.warmed hW', X.limits, X.bytes, X.same.trans (hsm.setVm s.vm)⟩, hL, hqy, hkk, hnn, hG', ?_⟩
    show Steps p.tables e below _ ((({ T with heap := s₂.heap, slotsUsed := s₂.slotsUsed } : State).setVm s₂.vm).setTop { g with pc := g.pc + 3, stack := v.toList ++ g.stack })
    rw [← hs₂]
    exact hsteps
/-- what a call says of its callee: its words are there, its code and its room -/
def hs_Cw (Ts : List Cond) (y : MethodName) (bytes : ByteArray) (maxL : Nat) (ret : Option FieldType) (n : Nat) : Prop :=
  Cond.initialized y.cls ∈ Ts ∧ Cond.code y bytes maxL ret ∈ Ts ∧ (y.cls ≠ "java/lang/invoke/MethodHandle" ∧ y.cls ≠ "java/lang/invoke/VarHandle") ∧ (parseMethodDescriptor y.desc).map (fun d => d.parameters.length) = some n
/-- how it goes on behind a call -/
def hs_Kr (D : va_G) (cl : List vw_C) (H0 : Heap) (Qy : hs_P) (rm : Room) (p : Program) (l : Launch) (e : Env) (R : Room) (s : State) (m : MethodId) (args : Array Value) (below : List Frame) (meth : Method) (c : Code) (cells slots : Nat) (Q : State → Prop) (pc : Nat) (ls : Array Slot) (rest : List Value) : Prop :=
  (∀ (v : Option Value) (G1 : hs_G) (k n : Nat) (H1 : Heap) (locs1 : List Loc), Qy (.inl v) G1 k n → k ≤ rm.cells → n ≤ rm.slots → hs_W D cl H0 G1 H1 → (∀ q ∈ locs1, H0.size ≤ q.base) → W p l e R s m args below meth c H1 locs1 (cells + k) (slots + n) Q (F0 m (pc + 3) ls (v.toList ++ rest))) ∧
  (∀ (C : String) (x : Nat) (G1 : hs_G) (k n : Nat) (H1 : Heap) (locs1 : List Loc), Qy (.inr C) G1 k n → k ≤ rm.cells → n ≤ rm.slots → hs_W D cl H0 G1 H1 → (∀ q ∈ locs1, H0.size ≤ q.base) → hs_Ex C x s H1 → vx_W p l e R s m args below meth c H1 locs1 (cells + k) (slots + n) Q (F0 m pc ls rest) x)
theorem hs_goes {T : State} {y : MethodName} {rm : Room} {av : List Value} {maxL : Nat} {vm₁ : Vm} {mk : MethodId} {g : JFrame} (hT : T.heap = H) (hL : ∀ q ∈ locs, H0.size ≤ q.base) (X₁ : Stand p l e R s m args below meth c (T.setVm vm₁) locs cells slots)
    (st : ∀ target, (∀ acts, Steps p.tables e below (doInvoke e ((T.setVm vm₁).setTop (F0 m pc ls rest)) acts mk av.toArray).1 target) → Steps p.tables e below (T.setTop g) target)
    (hpay : ∃ (T' : State) (L : List Loc) (r : Option Value ⊕ String) (G' : hs_G) (k n : Nat), Stand p l e R s m args below meth c T' (locs ++ L) (cells + k) (slots + n) ∧ (∀ q ∈ L, H0.size ≤ q.base) ∧ Qy r G' k n ∧ k ≤ rm.cells ∧ n ≤ rm.slots ∧ hs_W D cl H0 G' T'.heap ∧ hs_Beh p e below s (F0 m pc ls rest) (doInvoke e ((T.setVm vm₁).setTop (F0 m pc ls rest)) [] mk av.toArray).1 T' r)
    (kk : hs_Kr D cl H0 Qy rm p l e R s m args below meth c cells slots Q pc ls rest) : ∃ t, Steps p.tables e below (T.setTop g) t ∧ Q t := by
  obtain ⟨T', L, r, G', k, n, X', hL', hq, hkk, hnn, hG', hbeh⟩ := hpay
  have hLL : ∀ q ∈ locs ++ L, H0.size ≤ q.base := fun q hq => (List.mem_append.mp hq).elim (hL q) (hL' q)
  cases r with
  | inl v =>
    obtain ⟨t, a1, b1⟩ := kk.1 v G' k n T'.heap (locs ++ L) hq hkk hnn hG' hLL T' rfl X'
    exact ⟨t, st t fun acts => by rw [doInvoke_state]; exact Steps.trans hbeh a1, b1⟩
  | inr C =>
    obtain ⟨x, hx, hs⟩ := hbeh
    obtain ⟨t, a1, b1⟩ := kk.2 C x G' k n T'.heap (locs ++ L) hq hkk hnn hG' hLL hx T' rfl X'
    exact ⟨t, st t fun acts => by rw [doInvoke_state]; exact hs.trans a1, b1⟩
theorem hs_len {y : MethodName} {n : Nat} (h : (parseMethodDescriptor y.desc).map (fun d => d.parameters.length) = some n) : ∀ sig, parseMethodDescriptor y.desc = some sig → n = sig.parameters.length := by
  intro sig hs
  rw [hs] at h
  exact (Option.some.inj h).symm
theorem hs_callS {y : MethodName} {rm : Room} {av : List Value} {bytes : ByteArray} {maxL index : Nat} {ret : Option FieldType} (hC : hs_C D cl tys Zs H0 Ts p s m args c cc nL own) (hok : ∀ w ∈ Ts, hs_ok w = true) (hW : hs_W D cl H0 G H) (hL : ∀ q ∈ locs, H0.size ≤ q.base) (hM : hs_M D cl tys Zs Ts H0 l y rm av G Qy) (hw : hs_Cw Ts y bytes maxL ret av.length) (hlink : Cond.methodLink own index y ∈ Ts) (hstat : Cond.static y ∈ Ts)
    (hls : ls.size = nL) (hR : rm.frames + 1 ≤ R.frames ∧ 8 + (maxL + 11) + rm.locals ≤ R.locals ∧ cells + rm.cells ≤ R.cells ∧ slots + rm.slots ≤ R.slots) (h8 : (rest.map fun v => v.category).sum ≤ 8) (hdg : decode cc pc = .ok (.invokestatic index, 3))
    (kk : hs_Kr D cl H0 Qy rm p l e R s m args below meth c cells slots Q pc ls rest) : W p l e R s m args below meth c H locs cells slots Q (F0 m pc ls (av.reverse ++ rest)) := by
  intro T hT X
  obtain ⟨hx, hb, hml, hown, hts, hK⟩ := id hC
  obtain ⟨hini, hcode, hy, hlen⟩ := hw
  obtain ⟨mk, hnamed⟩ := Cond.code_named (hts _ hcode)
  obtain ⟨methM, cM, hmethM, hcM, -, hlM, -, -, -, hsigM⟩ := Cond.code_spec hnamed (hts _ hcode)
  have hstatic : methM.isStatic = true := Cond.static_spec hnamed hmethM (hts _ hstat)
  obtain ⟨kP, hkP, -⟩ := className_of_methodNamed hnamed
  have hinitP : kP.init = .initialized := Cond.initialized_spec (findClass_of_methodNamed hnamed) hkP (hts _ hini)
  obtain ⟨vm₁, X₁, st⟩ := X.invokestatic hx hown (hts _ hlink) hnamed hmethM hstatic hkP hinitP hy (g := F0 m pc ls (av.reverse ++ rest)) rfl (argsL := av) (rest := rest) (hs_len hlen _ hsigM) rfl (by rw [hb]; exact hdg)
  exact hs_goes (y := y) (maxL := maxL) hT hL X₁ st (hs_pay hM hok hts hK X₁ (by show hs_W D cl H0 G T.heap; rw [hT]; exact hW) rfl (hls.trans hml.symm) (lv_room h8) (by rw [hb]; exact hdg) hnamed hmethM hcM hlM hini hR.1 hR.2.1 hR.2.2.1 hR.2.2.2) kk
theorem hs_callSN {y : MethodName} {rm : Room} {av : List Value} {bytes : ByteArray} {maxL index : Nat} {ret : Option FieldType} {host : String} (hC : hs_C D cl tys Zs H0 Ts p s m args c cc nL own) (hok : ∀ w ∈ Ts, hs_ok w = true) (hW : hs_W D cl H0 G H) (hL : ∀ q ∈ locs, H0.size ≤ q.base) (hM : hs_M D cl tys Zs Ts H0 l y rm av G Qy) (hw : hs_Cw Ts y bytes maxL ret av.length) (hlink : Cond.methodLinkNest own index y host ∈ Ts) (hstat : Cond.static y ∈ Ts)
    (hls : ls.size = nL) (hR : rm.frames + 1 ≤ R.frames ∧ 8 + (maxL + 11) + rm.locals ≤ R.locals ∧ cells + rm.cells ≤ R.cells ∧ slots + rm.slots ≤ R.slots) (h8 : (rest.map fun v => v.category).sum ≤ 8) (hdg : decode cc pc = .ok (.invokestatic index, 3))
    (kk : hs_Kr D cl H0 Qy rm p l e R s m args below meth c cells slots Q pc ls rest) : W p l e R s m args below meth c H locs cells slots Q (F0 m pc ls (av.reverse ++ rest)) := by
  intro T hT X
  obtain ⟨hx, hb, hml, hown, hts, hK⟩ := id hC
  obtain ⟨hini, hcode, hy, hlen⟩ := hw
  obtain ⟨mk, hnamed⟩ := Cond.code_named (hts _ hcode)
  obtain ⟨methM, cM, hmethM, hcM, -, hlM, -, -, -, hsigM⟩ := Cond.code_spec hnamed (hts _ hcode)
  have hstatic : methM.isStatic = true := Cond.static_spec hnamed hmethM (hts _ hstat)
  obtain ⟨kP, hkP, -⟩ := className_of_methodNamed hnamed
  have hinitP : kP.init = .initialized := Cond.initialized_spec (findClass_of_methodNamed hnamed) hkP (hts _ hini)
  obtain ⟨vm₁, X₁, st⟩ := X.invokestaticNest hx hown (hts _ hlink) hnamed hmethM hstatic hkP hinitP hy (g := F0 m pc ls (av.reverse ++ rest)) rfl (argsL := av) (rest := rest) (hs_len hlen _ hsigM) rfl (by rw [hb]; exact hdg)
  exact hs_goes (y := y) (maxL := maxL) hT hL X₁ st (hs_pay hM hok hts hK X₁ (by show hs_W D cl H0 G T.heap; rw [hT]; exact hW) rfl (hls.trans hml.symm) (lv_room h8) (by rw [hb]; exact hdg) hnamed hmethM hcM hlM hini hR.1 hR.2.1 hR.2.2.1 hR.2.2.2) kk
/-- the receiver's class -/
theorem hs_recv {ci : Nat} {r : vw_C} {fs : List Value} (hC : hs_C D cl tys Zs H0 Ts p s m args c cc nL own) (hW : hs_W D cl H0 G H) (ha : G a = some (.inr (ci, fs))) (hc : cl[ci]? = some r) : ∃ cell : Cell, H[a]? = some cell ∧ cell.vm.isStatics = false ∧ s.vm.findClass r.1 = some cell.cls :=
  va_recv hC.2.2.2.2.2.1 (hs_one hW ha) (ci := ci) (q0 := 0) hc rfl
theorem hs_callV {y : MethodName} {rm : Room} {av : List Value} {bytes : ByteArray} {maxL index : Nat} {ret : Option FieldType} {C : String} (hC : hs_C D cl tys Zs H0 Ts p s m args c cc nL own) (hok : ∀ w ∈ Ts, hs_ok w = true) (hW : hs_W D cl H0 G H) (hL : ∀ q ∈ locs, H0.size ≤ q.base) (hM : hs_M D cl tys Zs Ts H0 l y rm (.ref a :: av) G Qy) (hw : hs_Cw Ts y bytes maxL ret av.length) (hlink : Cond.methodLink own index y ∈ Ts) (hinst : Cond.instanceMethod y ∈ Ts) (hsel : Cond.selects C y y ∈ Ts)
    (hrecv : ∃ cell : Cell, H[a]? = some cell ∧ cell.vm.isStatics = false ∧ s.vm.findClass C = some cell.cls)
    (hls : ls.size = nL) (hR : rm.frames + 1 ≤ R.frames ∧ 8 + (maxL + 11) + rm.locals ≤ R.locals ∧ cells + rm.cells ≤ R.cells ∧ slots + rm.slots ≤ R.slots) (h8 : (rest.map fun v => v.category).sum ≤ 8) (hdg : decode cc pc = .ok (.invokevirtual index, 3))
    (kk : hs_Kr D cl H0 Qy rm p l e R s m args below meth c cells slots Q pc ls rest) : W p l e R s m args below meth c H locs cells slots Q (F0 m pc ls (av.reverse ++ .ref a :: rest)) := by
  intro T hT X
  obtain ⟨hx, hb, hml, hown, hts, hK⟩ := id hC
  obtain ⟨hini, hcode, hy, hlen⟩ := hw
  obtain ⟨cellB, hcB, hoB, hclB⟩ := hrecv
  obtain ⟨mk, methM, hnamed, hmethM, hstM, habM⟩ := Cond.instanceMethod_spec (hts _ hinst)
  obtain ⟨methM', cM, hmethM', hcM, -, hlM, -, -, -, hsigM⟩ := Cond.code_spec hnamed (hts _ hcode)
  cases hmethM.symm.trans hmethM'
  obtain ⟨c2, r2, m2, q1, q2, q3, q4, kP, hkP, hkPi⟩ := Cond.selects_spec (hts _ hsel)
  cases hclB.symm.trans q1
  cases (State.methodFound?_of_named hnamed hy).symm.trans q2
  cases hnamed.symm.trans q3
  have hselP : selectMethod e.platform s.vm cellB.cls mk = .method mk := by rw [Launch.admits_selectMethod X.admits]; exact q4
  obtain ⟨vm₁, X₁, st⟩ := X.invokevirtual hx hown (hts _ hlink) hnamed hmethM hstM hkP hkPi hy (a := a) (cell := cellB) (by rw [hT]; exact hcB)
    (fun z h => by rw [h] at hoB; cases hoB) hselP hmethM habM hkP hkPi (g := F0 m pc ls (av.reverse ++ .ref a :: rest)) rfl (argsL := av) (rest := rest) (hs_len hlen _ hsigM) rfl (by rw [hb]; exact hdg)
  exact hs_goes (y := y) (maxL := maxL) (av := .ref a :: av) hT hL X₁ st (hs_pay hM hok hts hK X₁ (by show hs_W D cl H0 G T.heap; rw [hT]; exact hW) rfl (hls.trans hml.symm) (lv_room h8) (by rw [hb]; exact hdg) hnamed hmethM hcM hlM hini hR.1 hR.2.1 hR.2.2.1 hR.2.2.2) kk
theorem hs_callVN {y : MethodName} {rm : Room} {av : List Value} {bytes : ByteArray} {maxL index : Nat} {ret : Option FieldType} {C host : String} (hC : hs_C D cl tys Zs H0 Ts p s m args c cc nL own) (hok : ∀ w ∈ Ts, hs_ok w = true) (hW : hs_W D cl H0 G H) (hL : ∀ q ∈ locs, H0.size ≤ q.base) (hM : hs_M D cl tys Zs Ts H0 l y rm (.ref a :: av) G Qy) (hw : hs_Cw Ts y bytes maxL ret av.length) (hlink : Cond.methodLinkNest own index y host ∈ Ts) (hinst : Cond.instanceMethod y ∈ Ts) (hsel : Cond.selects C y y ∈ Ts)
    (hrecv : ∃ cell : Cell, H[a]? = some cell ∧ cell.vm.isStatics = false ∧ s.vm.findClass C = some cell.cls)
    (hls : ls.size = nL) (hR : rm.frames + 1 ≤ R.frames ∧ 8 + (maxL + 11) + rm.locals ≤ R.locals ∧ cells + rm.cells ≤ R.cells ∧ slots + rm.slots ≤ R.slots) (h8 : (rest.map fun v => v.category).sum ≤ 8) (hdg : decode cc pc = .ok (.invokevirtual index, 3))
    (kk : hs_Kr D cl H0 Qy rm p l e R s m args below meth c cells slots Q pc ls rest) : W p l e R s m args below meth c H locs cells slots Q (F0 m pc ls (av.reverse ++ .ref a :: rest)) := by
  intro T hT X
  obtain ⟨hx, hb, hml, hown, hts, hK⟩ := id hC
  obtain ⟨hini, hcode, hy, hlen⟩ := hw
  obtain ⟨cellB, hcB, hoB, hclB⟩ := hrecv
  obtain ⟨mk, methM, hnamed, hmethM, hstM, habM⟩ := Cond.instanceMethod_spec (hts _ hinst)
  obtain ⟨methM', cM, hmethM', hcM, -, hlM, -, -, -, hsigM⟩ := Cond.code_spec hnamed (hts _ hcode)
  cases hmethM.symm.trans hmethM'
  obtain ⟨c2, r2, m2, q1, q2, q3, q4, kP, hkP, hkPi⟩ := Cond.selects_spec (hts _ hsel)
  cases hclB.symm.trans q1
  cases (State.methodFound?_of_named hnamed hy).symm.trans q2
  cases hnamed.symm.trans q3
  have hselP : selectMethod e.platform s.vm cellB.cls mk = .method mk := by rw [Launch.admits_selectMethod X.admits]; exact q4
  obtain ⟨vm₁, X₁, st⟩ := X.invokevirtualNest hx hown (hts _ hlink) hnamed hmethM hstM hkP hkPi hy (a := a) (cell := cellB) (by rw [hT]; exact hcB)
    (fun z h => by rw [h] at hoB; cases hoB) hselP hmethM habM hkP hkPi (g := F0 m pc ls (av.reverse ++ .ref a :: rest)) rfl (argsL := av) (rest := rest) (hs_len hlen _ hsigM) rfl (by rw [hb]; exact hdg)
  exact hs_goes (y := y) (maxL := maxL) (av := .ref a :: av) hT hL X₁ st (hs_pay hM hok hts hK X₁ (by show hs_W D cl H0 G T.heap; rw [hT]; exact hW) rfl (hls.trans hml.symm) (lv_room h8) (by rw [hb]; exact hdg) hnamed hmethM hcM hlM hini hR.1 hR.2.1 hR.2.2.1 hR.2.2.2) kk
theorem hs_callI {y : MethodName} {rm : Room} {av : List Value} {bytes : ByteArray} {maxL index : Nat} (hC : hs_C D cl tys Zs H0 Ts p s m args c cc nL own) (hok : ∀ w ∈ Ts, hs_ok w = true) (hW : hs_W D cl H0 G H) (hL : ∀ q ∈ locs, H0.size ≤ q.base) (hM : hs_M D cl tys Zs Ts H0 l y rm (.ref a :: av) G Qy) (hw : hs_Cw Ts y bytes maxL none av.length) (hlink : Cond.methodLink own index y ∈ Ts) (hinst : Cond.instanceMethod y ∈ Ts) (hy1 : y.name = "<init>")
    (hls : ls.size = nL) (hR : rm.frames + 1 ≤ R.frames ∧ 8 + (maxL + 11) + rm.locals ≤ R.locals ∧ cells + rm.cells ≤ R.cells ∧ slots + rm.slots ≤ R.slots) (h8 : (rest.map fun v => v.category).sum ≤ 8) (hdg : decode cc pc = .ok (.invokespecial index, 3))
    (kk : hs_Kr D cl H0 Qy rm p l e R s m args below meth c cells slots Q pc ls rest) : W p l e R s m args below meth c H locs cells slots Q (F0 m pc ls (av.reverse ++ .ref a :: rest)) := by
  intro T hT X
  obtain ⟨hx, hb, hml, hown, hts, hK⟩ := id hC
  obtain ⟨hini, hcode, hy, hlen⟩ := hw
  have hpl : e.platform.magicAccessors = ({} : Platform).magicAccessors := by rw [X.admits.platform]
  obtain ⟨mk, methM, cM, kP, vm₁, hnamed, hmethM, hcM, -, hlM, -, hkP, -, hW₁, st⟩ := Steps.initColdArgs (e := e) X.here hx X.warmed hpl hown hy1 hy (hts _ hlink) (hts _ hinst) (hts _ hcode) (f := F0 m pc ls (av.reverse ++ .ref a :: rest)) rfl (argsL := av) (rest := rest) (a := a) (hs_len hlen) rfl (by rw [hb]; exact hdg)
  have X₁ := X.noted hW₁
  exact hs_goes (y := y) (maxL := maxL) (av := .ref a :: av) hT hL X₁ st (hs_pay hM hok hts hK X₁ (by show hs_W D cl H0 G T.heap; rw [hT]; exact hW) rfl (hls.trans hml.symm) (lv_room h8) (by rw [hb]; exact hdg) hnamed hmethM hcM hlM hini hR.1 hR.2.1 hR.2.2.1 hR.2.2.2) kk
theorem hs_callIN {y : MethodName} {rm : Room} {av : List Value} {bytes : ByteArray} {maxL index : Nat} {host : String} (hC : hs_C D cl tys Zs H0 Ts p s m args c cc nL own) (hok : ∀ w ∈ Ts, hs_ok w = true) (hW : hs_W D cl H0 G H) (hL : ∀ q ∈ locs, H0.size ≤ q.base) (hM : hs_M D cl tys Zs Ts H0 l y rm (.ref a :: av) G Qy) (hw : hs_Cw Ts y bytes maxL none av.length) (hlink : Cond.methodLinkNest own index y host ∈ Ts) (hinst : Cond.instanceMethod y ∈ Ts) (hy1 : y.name = "<init>")
    (hls : ls.size = nL) (hR : rm.frames + 1 ≤ R.frames ∧ 8 + (maxL + 11) + rm.locals ≤ R.locals ∧ cells + rm.cells ≤ R.cells ∧ slots + rm.slots ≤ R.slots) (h8 : (rest.map fun v => v.category).sum ≤ 8) (hdg : decode cc pc = .ok (.invokespecial index, 3))
    (kk : hs_Kr D cl H0 Qy rm p l e R s m args below meth c cells slots Q pc ls rest) : W p l e R s m args below meth c H locs cells slots Q (F0 m pc ls (av.reverse ++ .ref a :: rest)) := by
  intro T hT X
  obtain ⟨hx, hb, hml, hown, hts, hK⟩ := id hC
  obtain ⟨hini, hcode, hy, hlen⟩ := hw
  have hpl : e.platform.magicAccessors = ({} : Platform).magicAccessors := by rw [X.admits.platform]
  obtain ⟨mk, methM, cM, kP, vm₁, hnamed, hmethM, hcM, -, hlM, -, hkP, -, hW₁, st⟩ := Steps.initColdArgsNest (e := e) X.here hx X.warmed hpl hown hy1 hy (hts _ hlink) (hts _ hinst) (hts _ hcode) (f := F0 m pc ls (av.reverse ++ .ref a :: rest)) rfl (argsL := av) (rest := rest) (a := a) (hs_len hlen) rfl (by rw [hb]; exact hdg)
  have X₁ := X.noted hW₁
  exact hs_goes (y := y) (maxL := maxL) (av := .ref a :: av) hT hL X₁ st (hs_pay hM hok hts hK X₁ (by show hs_W D cl H0 G T.heap; rw [hT]; exact hW) rfl (hls.trans hml.symm) (lv_room h8) (by rw [hb]; exact hdg) hnamed hmethM hcM hlM hini hR.1 hR.2.1 hR.2.2.1 hR.2.2.2) kk
/-- calls of methods that change nothing -/
theorem hs_kpu {v : Option Value} {rm : Room} (kk : ∀ (H1 : Heap) (locs1 : List Loc), hs_W D cl H0 G H1 → (∀ q ∈ locs1, H0.size ≤ q.base) → W p l e R s m args below meth c H1 locs1 cells slots Q (F0 m (pc + 3) ls (v.toList ++ rest))) : hs_Kr D cl H0 (hs_pu v G) rm p l e R s m args below meth c cells slots Q pc ls rest := by
  refine ⟨?_, ?_⟩
  · rintro _ _ _ _ H1 locs1 ⟨h1, rfl, rfl, rfl⟩ - - h5 h6
    cases h1
    exact kk H1 locs1 h5 h6
  · rintro _ _ _ _ _ H1 locs1 ⟨h1, -⟩
    cases h1
end HS4
