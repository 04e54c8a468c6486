/-! CONTRACTS over stores: a method returns a value, or throws an object of a class; the calls. k cells of n slots have come. -/
def hs_ok : Cond → Bool
  | .arrayClass _ => true
  | .fieldLinkNest .. => true
  | .methodLinkNest .. => true
  | .castable .. => true
  | .declares _ => true
  | w => w.onTables && w.keeps
theorem hs_ok_at {s U : State} {args a' : Array Value} (hW : s.WarmedH U.vm) {w : Cond} (h : hs_ok w = true) (hw : w.before args s = true) : w.before a' U = true := by
  cases w <;> first
    | exact word_at hW (Or.inr ⟨_, rfl⟩) hw
    | exact va_Nw.use rfl (va_Nw.warmF hW (va_Nw.of rfl hw))
    | exact va_Nw.use rfl (va_Nw.warmM hW (va_Nw.of rfl hw))
    | exact va_Nw.use rfl (va_Nw.warmC hW (va_Nw.of rfl hw))
    | exact va_Nw.use rfl (va_Nw.warmD hW (va_Nw.of rfl hw))
    | exact word_at hW (Or.inl h) hw
/-- an object of the class C is at x -/
def hs_Ex (C : String) (x : Nat) (U : State) (H : Heap) : Prop := ∃ cell : Cell, H[x]? = some cell ∧ cell.vm = .none ∧ U.vm.findClass C = some cell.cls
def hs_Out (r : Option Value ⊕ String) (o : Outcome) (t : State) : Prop := match r with
  | .inl v => o = .returned v
  | .inr C => ∃ x : Nat, o = .threw x ∧ hs_Ex C x t t.heap
abbrev hs_P : Type := (Option Value ⊕ String) → hs_G → Nat → Nat → Prop
def hs_Q (D : va_G) (cl : List vw_C) (H0 : Heap) (Qy : hs_P) (K N : Nat) (st : State) (o : Outcome) (t : State) : Prop :=
  ∃ (r : Option Value ⊕ String) (G : hs_G) (k n : Nat), hs_Out r o t ∧ Qy r G k n ∧ hs_W D cl H0 G t.heap ∧ k ≤ K ∧ n ≤ N ∧ st.WarmedH t.vm ∧ ∃ L : List Loc, st.sameButNew ({ t with vm := st.vm } : State) L k n ∧ ∀ q ∈ L, H0.size ≤ q.base
def hs_Z (D : va_G) (cl : List vw_C) (H0 : Heap) (Qy : hs_P) (K N : Nat) (below : List Frame) (s : State) : State → Prop := fun t => ∃ o : Outcome, t.status = .running ∧ Ended t below o ∧ hs_Q D cl H0 Qy K N s o t
/-- THE CONTRACT of y from the store G with the arguments av -/
def hs_M (D : va_G) (cl : List vw_C) (tys : List (ClassId × FieldType)) (Zs : List (String × String × String × Value)) (Ts : List Cond) (H0 : Heap) (l : Launch) (y : MethodName) (rm : Room) (av : List Value) (G : hs_G) (Qy : hs_P) : Prop :=
  MetFree l y (headSpec Ts rm) (fun a U => a = av.toArray ∧ hs_W D cl H0 G U.heap ∧ hs_K D cl tys Zs H0 U) (fun _ _ _ _ _ => True) (fun _ st o t => hs_Q D cl H0 Qy rm.cells rm.slots st o t)
/-- nothing changes, nothing comes: the answer -/
def hs_pu (v : Option Value) (G : hs_G) : hs_P := fun r G1 k n => r = .inl v ∧ G1 = G ∧ k = 0 ∧ n = 0
def hs_Qc (D : va_G) (cl : List vw_C) (H0 : Heap) (Qy : hs_P) (k n : Nat) : Array Value → State → Outcome → State → Prop := fun _ _ o t => ∃ (r : Option Value ⊕ String) (G : hs_G), hs_Out r o t ∧ Qy r G k n ∧ hs_W D cl H0 G t.heap
section HS3
variable {p : Program} {l : Launch} {e : Env} {R : Room} {s : State} {m : MethodId} {args : Array Value} {below : List Frame} {meth : Method} {c : Code} {H : Heap} {locs : List Loc} {cells slots : Nat} {Q : State → Prop}
variable {cc : ByteArray} {pc nL : Nat} {ls : Array Slot} {rest : List Value} {D : va_G} {cl : List vw_C} {a : Nat} {tys : List (ClassId × FieldType)} {Zs : List (String × String × String × Value)} {Ts : List Cond} {own : String} {H0 : Heap} {G : hs_G} {Qy : hs_P}
theorem hs_M.mono {y : MethodName} {rm : Room} {av : List Value} {Qy' : hs_P} (h : hs_M D cl tys Zs Ts H0 l y rm av G Qy) (hq : ∀ r G1 k n, Qy r G1 k n → Qy' r G1 k n) : hs_M D cl tys Zs Ts H0 l y rm av G Qy' := by
  intro p e ha hc hk s m args below hf happ hP hK
  obtain ⟨n, o, h1, h2, h3, r, G1, k1, n1, q1, q2, q3⟩ := h p e ha hc hk s m args below hf happ hP hK
  exact ⟨n, o, h1, h2, h3, r, G1, k1, n1, q1, hq _ _ _ _ q2, q3⟩
theorem hs_mono {Q' : State → Prop} {g : JFrame} (h : W p l e R s m args below meth c H locs cells slots Q g) (hq : ∀ t, Q t → Q' t) : W p l e R s m args below meth c H locs cells slots Q' g := by
  intro T hT X
  obtain ⟨t, h1, h2⟩ := h T hT X
  exact ⟨t, h1, hq t h2⟩
theorem hs_fin {g : JFrame} {K N : Nat} (h : W p l e R s m args below meth c H locs cells slots (MQ below (hs_Qc D cl H0 Qy cells slots) args s cells slots (fun q => H0.size ≤ q)) g) (hk : cells ≤ K) (hn : slots ≤ N) : W p l e R s m args below meth c H locs cells slots (hs_Z D cl H0 Qy K N below s) g := by
  refine hs_mono h ?_
  rintro t ⟨o, h1, h2, ⟨r, G1, h3, h4, h8⟩, L, ⟨-, h5, h6⟩, h7⟩
  exact ⟨o, h1, h2, r, G1, cells, slots, h3, h4, h8, hk, hn, h5, L, h6, h7⟩
theorem hs_iret {K N : Nat} {v : Int32} (hC : hs_C D cl tys Zs H0 Ts p s m args c cc nL own) (hW : hs_W D cl H0 G H) (hL : ∀ q ∈ locs, H0.size ≤ q.base) (hr : meth.sig.returnType = some .int) (hlocks : meth.locks = false) (hk : cells ≤ K) (hn : slots ≤ N) (hdg : decode cc pc = .ok (.ireturn, 1)) (hq : Qy (.inl (some (.int v))) G cells slots) : W p l e R s m args below meth c H locs cells slots (hs_Z D cl H0 Qy K N below s) (F0 m pc ls [.int v]) :=
  hs_fin (W.iret hC.1 hC.2.1 hr (fun t ht _ => ⟨.inl (some (.int v)), G, rfl, hq, by rw [ht]; exact hW⟩) hL hdg hlocks) hk hn
theorem hs_zret {K N : Nat} {v : Int32} (hC : hs_C D cl tys Zs H0 Ts p s m args c cc nL own) (hW : hs_W D cl H0 G H) (hL : ∀ q ∈ locs, H0.size ≤ q.base) (hr : meth.sig.returnType = some .boolean) (hlocks : meth.locks = false) (hk : cells ≤ K) (hn : slots ≤ N) (hdg : decode cc pc = .ok (.ireturn, 1)) (hv : narrow .boolean (.int v) = .int v) (hq : Qy (.inl (some (.int v))) G cells slots) : W p l e R s m args below meth c H locs cells slots (hs_Z D cl H0 Qy K N below s) (F0 m pc ls [.int v]) :=
  hs_fin (W.zret hC.1 hC.2.1 hr hv (fun t ht _ => ⟨.inl (some (.int v)), G, rfl, hq, by rw [ht]; exact hW⟩) hL hdg hlocks) hk hn
theorem hs_lret {K N : Nat} {v : Int64} (hC : hs_C D cl tys Zs H0 Ts p s m args c cc nL own) (hW : hs_W D cl H0 G H) (hL : ∀ q ∈ locs, H0.size ≤ q.base) (hr : meth.sig.returnType = some .long) (hlocks : meth.locks = false) (hk : cells ≤ K) (hn : slots ≤ N) (hdg : decode cc pc = .ok (.lreturn, 1)) (hq : Qy (.inl (some (.long v))) G cells slots) : W p l e R s m args below meth c H locs cells slots (hs_Z D cl H0 Qy K N below s) (F0 m pc ls [.long v]) :=
  hs_fin (W.lret hC.1 hC.2.1 hr (fun t ht _ => ⟨.inl (some (.long v)), G, rfl, hq, by rw [ht]; exact hW⟩) hL hdg hlocks) hk hn
theorem hs_vret {K N : Nat} (hC : hs_C D cl tys Zs H0 Ts p s m args c cc nL own) (hW : hs_W D cl H0 G H) (hL : ∀ q ∈ locs, H0.size ≤ q.base) (hr : meth.sig.returnType = none) (hlocks : meth.locks = false) (hk : cells ≤ K) (hn : slots ≤ N) (hdg : decode cc pc = .ok (.return_, 1)) (hq : Qy (.inl none) G cells slots) : W p l e R s m args below meth c H locs cells slots (hs_Z D cl H0 Qy K N below s) (F0 m pc ls []) :=
  hs_fin (W.vret hC.1 hC.2.1 hr (fun t ht _ => ⟨.inl none, G, rfl, hq, by rw [ht]; exact hW⟩) hL hdg hlocks) hk hn
theorem hs_aret {K N : Nat} {v : Value} {rt : FieldType} (hC : hs_C D cl tys Zs H0 Ts p s m args c cc nL own) (hW : hs_W D cl H0 G H) (hL : ∀ q ∈ locs, H0.size ≤ q.base) (hr : meth.sig.returnType = some rt) (hrt : (∃ n, rt = .object n) ∨ ∃ t, rt = .array t) (hv : v = .null ∨ ∃ a, v = .ref a) (hlocks : meth.locks = false) (hk : cells ≤ K) (hn : slots ≤ N) (hdg : decode cc pc = .ok (.areturn, 1)) (hq : Qy (.inl (some v)) G cells slots) : W p l e R s m args below meth c H locs cells slots (hs_Z D cl H0 Qy K N below s) (F0 m pc ls [v]) :=
  hs_fin (W.aret hC.1 hC.2.1 hr hrt hv (fun t ht _ => ⟨.inl (some v), G, rfl, hq, by rw [ht]; exact hW⟩) hL hdg hlocks) hk hn
/-- a contract out of the body's walk -/
theorem hs_ofW {y : MethodName} {rm : Room} {av : List Value} {maxL : Nat} {ret : Option FieldType} (hy : plainName y.cls = true) (hw : Cond.code y cc maxL ret ∈ Ts)
    (body : ∀ (p : Program) (e : Env) (s : State) (m : MethodId) (args : Array Value) (below : List Frame) (meth : Method) (c : Code), hs_C D cl tys Zs H0 Ts p s m args c cc maxL y.cls → meth.locks = false → meth.sig.returnType = ret → (y.name = "<init>" → meth.name = "<init>") → (∀ x ∈ c.exceptionTable.toList, False) → hs_W D cl H0 G s.heap →
      W p l e rm s m args below meth c s.heap [] 0 0 (hs_Z D cl H0 Qy rm.cells rm.slots below s) (entryFrame m av.toArray maxL)) : hs_M D cl tys Zs Ts H0 l y rm av G Qy := by
  refine MetFree.of_bodyS (code := cc) (maxLocals := maxL) (ret := ret) hy ?_ ?_
  · intro args s m h hn
    obtain ⟨meth, c, h1, h2, h3, h4, h5, h6, -, -⟩ := Cond.code_spec hn (atoms_spec (ws := Ts) h _ hw)
    exact ⟨meth, c, h1, h2, h3, h4, h5, h6⟩
  · intro p e s m args below meth c s₁ B hml hP _
    obtain ⟨rfl, hG, hK⟩ := hP
    have hh0 : s₁.heap = s.heap := by rw [B.state]; rfl
    have hts := atoms_spec (ws := Ts) B.pre
    have hnoh : ∀ x ∈ c.exceptionTable.toList, False := by
      obtain ⟨meth9, c9, h1, h2, -, -, -, -, h7, -⟩ := Cond.code_spec B.named (hts _ hw)
      cases Option.some.inj (h1.symm.trans B.method)
      cases Option.some.inj (h2.symm.trans (Stand.of_body B).code)
      intro x hx
      rw [Array.isEmpty_iff.mp h7] at hx
      cases hx
    obtain ⟨t, a1, o, b1, b2, b3⟩ := body p e s m _ below meth c ⟨B.exec, B.bytes, hml, findClass_of_methodNamed B.named, hts, hK⟩ B.notSynchronized B.returns (fun h => ((name_of_methodNamed B.named B.method).1).trans h) hnoh hG s₁ hh0 (Stand.of_body B)
    exact ⟨t, o, a1, b1, b2, b3⟩
/-- no handler: the method leaves -/
theorem hs_leave {x K N : Nat} {C : String} (hW : hs_W D cl H0 G H) (hL : ∀ q ∈ locs, H0.size ≤ q.base) (hlocks : meth.locks = false) (hk : cells ≤ K) (hn : slots ≤ N) (hout : ∀ x ∈ c.exceptionTable.toList, covers x pc = false)
    (hx : hs_Ex C x s H) (hq : Qy (.inr C) G cells slots) : vx_W p l e R s m args below meth c H locs cells slots (hs_Z D cl H0 Qy K N below s) (F0 m pc ls rest) x := by
  intro T hT X
  obtain ⟨h1, h2, h3, h4, h5⟩ := X.leaveThrown x (g := F0 m pc ls rest) rfl rfl rfl hout hlocks
  obtain ⟨cell, x1, x2, x3⟩ := hx
  refine ⟨_, h1, .threw x, h2, h3, .inr C, G, cells, slots, ⟨x, rfl, cell, ?_, x2, ?_⟩, hq, ?_, hk, hn, h4, locs, h5, hL⟩
  · show T.heap[x]? = some cell
    rw [hT]; exact x1
  · rw [h4.alike.findClass]; exact x3
  · show hs_W D cl H0 G T.heap
    rw [hT]; exact hW
/-- 'throw new X()': the method throws -/
theorem hs_throw {K N ik ic : Nat} {cls : String} {names : List String} (hC : hs_C D cl tys Zs H0 Ts p s m args c cc nL own) (hE : hs_W D cl H0 G s.heap ∨ ∀ q : Nat, q < H0.size → s.heap[q]? = H0[q]?) (hW : hs_W D cl H0 G H) (hL : ∀ q ∈ locs, H0.size ≤ q.base) (hlocks : meth.locks = false) (hl : l.stackTraces = false) (hcls : Bundle.fit cls = true) (hnames : ∀ n ∈ names, Bundle.fit n = true)
    (hk : Cond.classLink own ik cls ∈ Ts) (hini : Cond.initialized cls ∈ Ts) (hat : ∀ w ∈ vx_at0 own ic cls names, w ∈ Ts)
    (hgood : ∀ w ∈ Cond.classLink own ik cls :: Cond.initialized cls :: vx_at0 own ic cls names, vx_ot w = true) (hls : ls.size = nL)
    (d0 : decode cc pc = .ok (.new ik, 3)) (d3 : decode cc (pc + 3) = .ok (.dup, 1)) (d4 : decode cc (pc + 4) = .ok (.invokespecial ic, 3)) (d7 : decode cc (pc + 7) = .ok (.athrow, 1))
    (hout : ∀ x ∈ c.exceptionTable.toList, covers x (pc + 7) = false)
    (hR : names.length + 3 < R.frames ∧ (rest.map fun v => v.category).sum + (13 * (names.length + 1) + 42) ≤ R.locals ∧ cells + 1 ≤ R.cells ∧ slots + 6 ≤ R.slots) (hK1 : cells + 1 ≤ K) (hN1 : slots + 6 ≤ N) (hq : Qy (.inr cls) G (cells + 1) (slots + 6)) :
    W p l e R s m args below meth c H locs cells slots (hs_Z D cl H0 Qy K N below s) (F0 m pc ls rest) := by
  obtain ⟨hx, hb, hml, hown, hts, hK, hZ, hU, hN⟩ := id hC
  have hE' : ∀ q : Nat, q < H0.size → s.heap[q]? = H0[q]? := hE.elim (fun h => h.2.2) id
  intro T hT X
  have hS : va_S (fun q : Nat => H0.size ≤ q) s.heap H locs := by
    refine ⟨by have := X.same.2.1; rw [← hT]; exact this, fun q h1 h2 => ?_, hL⟩
    have h3 : q < H0.size := Nat.not_le.mp h2
    rw [hW.2.2 q h3, hE' q h3]
  have hkp : ∀ a : Nat, a < H0.size → ¬ H0.size ≤ a → s.heap[a]? = H0[a]? := fun a h1 _ => hE' a h1
  have key : W p l e R s m args below meth c H locs cells slots (vx_MQ below (fun _ _ _ _ => False) (fun E _ t => E = cls ∧ H.size ≤ t.heap.size ∧ ∀ q : Nat, q < H.size → t.heap[q]? = H[q]?) args s (cells + 1) (slots + 6) (fun q => H0.size ≤ q)) (F0 m pc ls rest) :=
    vx_throw0 hx hb hl hown hcls hnames (hts _ hk) (hts _ hini) (fun w hw => hts _ (hat w hw)) hgood (hU.kept hkp) (hN.kept hkp) hS (hls.trans hml.symm) d0 d3 d4 d7 hout hR.1 hR.2.1 hR.2.2.1 hR.2.2.2 hlocks (fun t _ h1 h2 => ⟨rfl, h1, h2⟩) hL (Nat.le_refl _) (Nat.le_refl _)
  obtain ⟨t, a1, o, b1, b2, b3⟩ := key T hT X
  rcases b3 with ⟨h, -⟩ | ⟨q, rfl, E, ce, L, ⟨rfl, f1, f2⟩, g1, g2, g3, g4, g5, g6⟩
  · exact h.elim
  · refine ⟨t, a1, .threw q, b1, b2, .inr E, G, cells + 1, slots + 6, ⟨q, rfl, ce, g1, g2, by rw [g4.alike.findClass]; exact g3⟩, hq, ?_, hK1, hN1, g4, L, g5, g6⟩
    exact hW.grow f1 f2
end HS3
