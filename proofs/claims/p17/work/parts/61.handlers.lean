/-! methods with a table of handlers: the contract out of the walk, the call -/
section HS61
variable {p : Program} {l : Launch} {e : Env} {R : Room} {s : State} {m : MethodId} {args : Array Value} {below : List Frame} {meth : Method} {c : Code} {H : Heap} {locs : List Loc} {cells slots : Nat} {Q : State → Prop}
variable {cc : ByteArray} {pc nL : Nat} {ls : Array Slot} {rest : List Value} {D : va_G} {cl : List vw_C} {a : Nat} {tys : List (ClassId × FieldType)} {Zs : List (String × String × String × Value)} {Ts : List Cond} {own : String} {H0 : Heap} {G : hs_G} {Qy : hs_P}
theorem hs_ofWT {y : MethodName} {rm : Room} {av : List Value} {maxL : Nat} {ret : Option FieldType} {hd : List (Nat × Nat × Nat × Nat)} (hy : plainName y.cls = true) (hw : Cond.codeWith y cc maxL ret hd ∈ Ts)
    (body : ∀ (p : Program) (e : Env) (s : State) (m : MethodId) (args : Array Value) (below : List Frame) (meth : Method) (c : Code), hs_C D cl tys Zs H0 Ts p s m args c cc maxL y.cls → meth.locks = false → meth.sig.returnType = ret → c.exceptionTable.toList.map (fun h => (h.startPc, h.endPc, h.handlerPc, h.catchType)) = hd → hs_W D cl H0 G s.heap →
      W p l e rm s m args below meth c s.heap [] 0 0 (hs_Z D cl H0 Qy rm.cells rm.slots below s) (entryFrame m av.toArray maxL)) : hs_M D cl tys Zs Ts H0 l y rm av G Qy := by
  refine MetFree.of_bodyS (code := cc) (maxLocals := maxL) (ret := ret) hy ?_ ?_
  · intro args s m h hn
    obtain ⟨m', meth, c, h0, h1, h2, h3, h4, -, h6, h7, -⟩ := Cond.codeWith_spec (atoms_spec (ws := Ts) h _ hw)
    cases Option.some.inj (h0.symm.trans hn)
    exact ⟨meth, c, h1, h2, h3, h4, h6, h7⟩
  · intro p e s m args below meth c s₁ B hml hP _
    obtain ⟨rfl, hG, hK⟩ := hP
    have hh0 : s₁.heap = s.heap := by rw [B.state]; rfl
    have hts := atoms_spec (ws := Ts) B.pre
    have hhd : c.exceptionTable.toList.map (fun h => (h.startPc, h.endPc, h.handlerPc, h.catchType)) = hd := by
      obtain ⟨m', meth9, c9, h0, h1, h2, -, -, h5, -⟩ := Cond.codeWith_spec (hts _ hw)
      cases Option.some.inj (h0.symm.trans B.named)
      cases Option.some.inj (h1.symm.trans B.method)
      cases Option.some.inj (h2.symm.trans (Stand.of_body B).code)
      exact h5
    obtain ⟨t, a1, o, b1, b2, b3⟩ := body p e s m _ below meth c ⟨B.exec, B.bytes, hml, findClass_of_methodNamed B.named, hts, hK⟩ B.notSynchronized B.returns hhd hG s₁ hh0 (Stand.of_body B)
    exact ⟨t, o, a1, b1, b2, b3⟩
/-- what a call of such a method asks of its words -/
def hs_CwT (Ts : List Cond) (y : MethodName) (bytes : ByteArray) (maxL : Nat) (ret : Option FieldType) (hd : List (Nat × Nat × Nat × Nat)) (n : Nat) : Prop := Cond.initialized y.cls ∈ Ts ∧ Cond.codeWith y bytes maxL ret hd ∈ Ts ∧ (y.cls ≠ "java/lang/invoke/MethodHandle" ∧ y.cls ≠ "java/lang/invoke/VarHandle") ∧ (parseMethodDescriptor y.desc).map (fun d => d.parameters.length) = some n
theorem hs_callST {y : MethodName} {rm : Room} {av : List Value} {bytes : ByteArray} {maxL index : Nat} {ret : Option FieldType} {hd : List (Nat × Nat × Nat × Nat)} (hC : hs_C D cl tys Zs H0 Ts p s m args c cc nL own) (hok : ∀ w ∈ Ts, hs_ok w = true) (hW : hs_W D cl H0 G H) (hL : ∀ q ∈ locs, H0.size ≤ q.base) (hM : hs_M D cl tys Zs Ts H0 l y rm av G Qy) (hw : hs_CwT Ts y bytes maxL ret hd av.length) (hlink : Cond.methodLink own index y ∈ Ts) (hstat : Cond.static y ∈ Ts)
    (hls : ls.size = nL) (hR : rm.frames + 1 ≤ R.frames ∧ 8 + (maxL + 11) + rm.locals ≤ R.locals ∧ cells + rm.cells ≤ R.cells ∧ slots + rm.slots ≤ R.slots) (h8 : (rest.map fun v => v.category).sum ≤ 8) (hdg : decode cc pc = .ok (.invokestatic index, 3))
    (kk : hs_Kr D cl H0 Qy rm p l e R s m args below meth c cells slots Q pc ls rest) : W p l e R s m args below meth c H locs cells slots Q (F0 m pc ls (av.reverse ++ rest)) := by
  intro T hT X
  obtain ⟨hx, hb, hml, hown, hts, hK⟩ := id hC
  obtain ⟨hini, hcode, hy, hlen⟩ := hw
  obtain ⟨mk, methM, cM, hnamed, hmethM, hcM, -, hlM, -, -, -, hsigM⟩ := Cond.codeWith_spec (hts _ hcode)
  have hstatic : methM.isStatic = true := Cond.static_spec hnamed hmethM (hts _ hstat)
  obtain ⟨kP, hkP, -⟩ := className_of_methodNamed hnamed
  have hinitP : kP.init = .initialized := Cond.initialized_spec (findClass_of_methodNamed hnamed) hkP (hts _ hini)
  obtain ⟨vm₁, X₁, st⟩ := X.invokestatic hx hown (hts _ hlink) hnamed hmethM hstatic hkP hinitP hy (g := F0 m pc ls (av.reverse ++ rest)) rfl (argsL := av) (rest := rest) (hs_len hlen _ hsigM) rfl (by rw [hb]; exact hdg)
  exact hs_goes (y := y) (maxL := maxL) hT hL X₁ st (hs_pay hM hok hts hK X₁ (by show hs_W D cl H0 G T.heap; rw [hT]; exact hW) rfl (hls.trans hml.symm) (lv_room h8) (by rw [hb]; exact hdg) hnamed hmethM hcM hlM hini hR.1 hR.2.1 hR.2.2.1 hR.2.2.2) kk
end HS61
