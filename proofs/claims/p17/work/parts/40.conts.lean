/-! answers of methods that change the store, and what goes on behind their calls -/
def hs_V (I : hs_G → Nat → Nat → Prop) : hs_P := fun r G1 k n => r = .inl none ∧ I G1 k n
def hs_I (I : Int32 → hs_G → Nat → Nat → Prop) : hs_P := fun r G1 k n => ∃ x : Int32, r = .inl (some (.int x)) ∧ I x G1 k n
def hs_J (I : Int64 → hs_G → Nat → Nat → Prop) : hs_P := fun r G1 k n => ∃ x : Int64, r = .inl (some (.long x)) ∧ I x G1 k n
def hs_O (I : Nat → hs_G → Nat → Nat → Prop) : hs_P := fun r G1 k n => ∃ x : Nat, r = .inl (some (.ref x)) ∧ I x G1 k n
/-- or it throws, the store being G -/
def hs_or (Q : hs_P) (G : hs_G) : hs_P := fun r G1 k n => Q r G1 k n ∨ (∃ C : String, (C = "java/lang/IllegalArgumentException" ∨ C = "java/lang/IllegalStateException") ∧ r = .inr C ∧ G1 = G ∧ k = 1 ∧ n = 6)
section HS40
variable {p : Program} {l : Launch} {e : Env} {R : Room} {s : State} {m : MethodId} {args : Array Value} {below : List Frame} {meth : Method} {c : Code} {cells slots : Nat} {Q : State → Prop} {pc : Nat} {ls : Array Slot} {rest : List Value} {D : va_G} {cl : List vw_C} {H0 : Heap} {rm : Room}
theorem hs_kV {I : hs_G → Nat → Nat → Prop} (kk : ∀ (G1 : hs_G) (k n : Nat) (H1 : Heap) (locs1 : List Loc), I G1 k n → k ≤ rm.cells → n ≤ rm.slots → hs_W D cl H0 G1 H1 → (∀ q ∈ locs1, H0.size ≤ q.base) → W p l e R s m args below meth c H1 locs1 (cells + k) (slots + n) Q (F0 m (pc + 3) ls rest)) : hs_Kr D cl H0 (hs_V I) rm p l e R s m args below meth c cells slots Q pc ls rest := by
  refine ⟨?_, ?_⟩
  · rintro v G1 k n H1 locs1 ⟨h1, hI⟩ h3 h4 h5 h6
    cases h1
    exact kk G1 k n H1 locs1 hI h3 h4 h5 h6
  · rintro C x G1 k n H1 locs1 ⟨h1, -⟩
    cases h1
theorem hs_kI {I : Int32 → hs_G → Nat → Nat → Prop} (kk : ∀ (x : Int32) (G1 : hs_G) (k n : Nat) (H1 : Heap) (locs1 : List Loc), I x G1 k n → k ≤ rm.cells → n ≤ rm.slots → hs_W D cl H0 G1 H1 → (∀ q ∈ locs1, H0.size ≤ q.base) → W p l e R s m args below meth c H1 locs1 (cells + k) (slots + n) Q (F0 m (pc + 3) ls (.int x :: rest))) : hs_Kr D cl H0 (hs_I I) rm p l e R s m args below meth c cells slots Q pc ls rest := by
  refine ⟨?_, ?_⟩
  · rintro v G1 k n H1 locs1 ⟨x, h1, hI⟩ h3 h4 h5 h6
    cases h1
    exact kk x G1 k n H1 locs1 hI h3 h4 h5 h6
  · rintro C x G1 k n H1 locs1 ⟨y, h1, -⟩
    cases h1
theorem hs_kJ {I : Int64 → hs_G → Nat → Nat → Prop} (kk : ∀ (x : Int64) (G1 : hs_G) (k n : Nat) (H1 : Heap) (locs1 : List Loc), I x G1 k n → k ≤ rm.cells → n ≤ rm.slots → hs_W D cl H0 G1 H1 → (∀ q ∈ locs1, H0.size ≤ q.base) → W p l e R s m args below meth c H1 locs1 (cells + k) (slots + n) Q (F0 m (pc + 3) ls (.long x :: rest))) : hs_Kr D cl H0 (hs_J I) rm p l e R s m args below meth c cells slots Q pc ls rest := by
  refine ⟨?_, ?_⟩
  · rintro v G1 k n H1 locs1 ⟨x, h1, hI⟩ h3 h4 h5 h6
    cases h1
    exact kk x G1 k n H1 locs1 hI h3 h4 h5 h6
  · rintro C x G1 k n H1 locs1 ⟨y, h1, -⟩
    cases h1
theorem hs_kO {I : Nat → hs_G → Nat → Nat → Prop} (kk : ∀ (x : Nat) (G1 : hs_G) (k n : Nat) (H1 : Heap) (locs1 : List Loc), I x G1 k n → k ≤ rm.cells → n ≤ rm.slots → hs_W D cl H0 G1 H1 → (∀ q ∈ locs1, H0.size ≤ q.base) → W p l e R s m args below meth c H1 locs1 (cells + k) (slots + n) Q (F0 m (pc + 3) ls (.ref x :: rest))) : hs_Kr D cl H0 (hs_O I) rm p l e R s m args below meth c cells slots Q pc ls rest := by
  refine ⟨?_, ?_⟩
  · rintro v G1 k n H1 locs1 ⟨x, h1, hI⟩ h3 h4 h5 h6
    cases h1
    exact kk x G1 k n H1 locs1 hI h3 h4 h5 h6
  · rintro C x G1 k n H1 locs1 ⟨y, h1, -⟩
    cases h1
/-- behind a check: it fits, or the method leaves with what the check threw -/
theorem hs_kck {G : hs_G} {ok : Prop} {C : String} {Qy : hs_P} {K N : Nat} (hnoh : ∀ x ∈ c.exceptionTable.toList, False) (hlocks : meth.locks = false) (hk : cells + 1 ≤ K) (hn : slots + 6 ≤ N) (hq : ¬ ok → Qy (.inr C) G (cells + 1) (slots + 6))
    (kk : ok → ∀ (H1 : Heap) (locs1 : List Loc), hs_W D cl H0 G H1 → (∀ q ∈ locs1, H0.size ≤ q.base) → W p l e R s m args below meth c H1 locs1 cells slots (hs_Z D cl H0 Qy K N below s) (F0 m (pc + 3) ls rest)) : hs_Kr D cl H0 (hs_ck ok C G) rm p l e R s m args below meth c cells slots (hs_Z D cl H0 Qy K N below s) pc ls rest := by
  refine ⟨?_, ?_⟩
  · rintro v G1 k n H1 locs1 ⟨rfl, ⟨h1, h2, rfl, rfl⟩ | ⟨-, h2, -⟩⟩ h3 h4 h5 h6
    · cases h2
      exact kk h1 H1 locs1 h5 h6
    · cases h2
  · rintro C' x G1 k n H1 locs1 ⟨rfl, ⟨-, h2, -⟩ | ⟨h1, h2, rfl, rfl⟩⟩ h3 h4 h5 h6 h7
    · cases h2
    · cases h2
      exact hs_leave h5 h6 hlocks hk hn (fun x hx => (hnoh x hx).elim) h7 (hq h1)
/-- behind a call that may throw: the method leaves with what was thrown -/
theorem hs_kor {G : hs_G} {Q1 Qy : hs_P} {K N : Nat} (hnoh : ∀ x ∈ c.exceptionTable.toList, False) (hlocks : meth.locks = false) (hk : cells + 1 ≤ K) (hn : slots + 6 ≤ N) (hq : ∀ C : String, (C = "java/lang/IllegalArgumentException" ∨ C = "java/lang/IllegalStateException") → Qy (.inr C) G (cells + 1) (slots + 6))
    (kk : hs_Kr D cl H0 Q1 rm p l e R s m args below meth c cells slots (hs_Z D cl H0 Qy K N below s) pc ls rest) : hs_Kr D cl H0 (hs_or Q1 G) rm p l e R s m args below meth c cells slots (hs_Z D cl H0 Qy K N below s) pc ls rest := by
  refine ⟨?_, ?_⟩
  · rintro v G1 k n H1 locs1 (h | ⟨C, -, h2, -⟩) h3 h4 h5 h6
    · exact kk.1 v G1 k n H1 locs1 h h3 h4 h5 h6
    · cases h2
  · rintro C' x G1 k n H1 locs1 (h | ⟨C, hC, h2, rfl, rfl, rfl⟩) h3 h4 h5 h6 h7
    · exact kk.2 C' x G1 k n H1 locs1 h h3 h4 h5 h6 h7
    · cases h2
      exact hs_leave h5 h6 hlocks hk hn (fun x hx => (hnoh x hx).elim) h7 (hq C' hC)
end HS40
theorem hs_up_up (G : hs_G) (a : Nat) (x y : va_E) : hs_up (hs_up G a x) a y = hs_up G a y := by
  funext q
  by_cases h : q = a <;> simp [hs_up, h]
theorem hs_up_id {G : hs_G} {a : Nat} {x : va_E} (h : G a = some x) : hs_up G a x = G := by
  funext q
  by_cases e : q = a
  · subst e
    rw [hs_up_eq, h]
  · rw [hs_up_ne _ _ e]
theorem hs_up_sw (G : hs_G) {a b : Nat} (h : a ≠ b) (x y : va_E) : hs_up (hs_up G a x) b y = hs_up (hs_up G b y) a x := by
  funext q
  by_cases e : q = a
  · subst e
    rw [hs_up_ne _ _ h, hs_up_eq, hs_up_eq]
  · rw [hs_up_ne _ _ e]
    by_cases e2 : q = b
    · subst e2
      rw [hs_up_eq, hs_up_eq]
    · rw [hs_up_ne _ _ e2, hs_up_ne _ _ e2, hs_up_ne _ _ e]
/-! a list: its object, its array -/
abbrev al_o (mc : Int32) (A : Nat) (s : Int32) : va_E := .inr (0, [.int mc, .ref A, .int s])
abbrev al_a (E : hs_E) (c : Nat) (f : Nat → Option Nat) : va_E := hs_ra (eA E 4) c f
theorem al_ne {E : hs_E} {G : hs_G} {L A c : Nat} {ci : Nat} {fs : List Value} {f : Nat → Option Nat} (h1 : G L = some (.inr (ci, fs))) (h2 : G A = some (al_a E c f)) : A ≠ L := by
  intro h
  rw [h, h1] at h2
  cases h2
theorem al_nn {j : Nat} (h : j < 2 ^ 31) : ¬ nI j < 0 := by
  rw [Int32.lt_iff_toInt_lt, nI_toInt h, Int32.toInt_zero]
  omega
def al_cap (c : Nat) : Nat := if c = 0 then 10 else c + max 1 (c / 2)
theorem al_cap_b {c : Nat} (h : c ≤ 150) : c < al_cap c ∧ al_cap c ≤ 225 ∧ al_cap c ≤ 4 * (al_cap c - c) := by
  unfold al_cap
  split <;> omega
theorem al_cap_lt {c : Nat} (h : c < 150) : al_cap c ≤ 223 := by
  unfold al_cap
  split <;> omega
section HS40b
variable {p : Program} {l : Launch} {e : Env} {R : Room} {s : State} {m : MethodId} {args : Array Value} {below : List Frame} {meth : Method} {c : Code} {H : Heap} {locs : List Loc} {cells slots : Nat} {Q : State → Prop}
variable {cc : ByteArray} {pc nL : Nat} {ls : Array Slot} {rest : List Value} {D : va_G} {cl : List vw_C} {a : Nat} {tys : List (ClassId × FieldType)} {Zs : List (String × String × String × Value)} {Ts : List Cond} {own : String} {H0 : Heap} {G : hs_G} {Qy : hs_P}
theorem hs_getS (hC : hs_C D cl tys Zs H0 Ts p s m args c cc nL own) (hW : hs_W D cl H0 G H) {ref C : String} {T : u_T} {N ci index : Nat} (hin : ∀ w ∈ u_ws C T N, w ∈ Ts) (hc : cl[ci]? = some (C, T, N)) (k : Nat) (hk : k < N) (hlink : Cond.fieldLink own index ref (T k).2.1 (T k).2.2.1 ∈ Ts) (hsf : Cond.sameField ref (T k).1 (T k).2.1 (T k).2.2.1 ∈ Ts) {fs : List Value} (ha : G a = some (.inr (ci, fs))) {v : Value} (hv : fs[k]? = some v) (hdg : decode cc pc = .ok (.getfield index, 3))
    (kk : W p l e R s m args below meth c H locs cells slots Q (F0 m (pc + 3) ls (v :: rest))) : W p l e R s m args below meth c H locs cells slots Q (F0 m pc ls (.ref a :: rest)) :=
  va_get hC.1 hC.2.1 hC.2.2.2.2.1 hin hC.2.2.2.1 hC.2.2.2.2.2.1 (hs_one hW ha) 0 rfl hc k hk (hC.2.2.2.2.1 _ hlink) (fun x hx => u_same (hC.2.2.2.2.1 _ hsf) x hx) hv hdg kk
theorem hs_putS (hC : hs_C D cl tys Zs H0 Ts p s m args c cc nL own) (hW : hs_W D cl H0 G H) (hL : ∀ q ∈ locs, H0.size ≤ q.base) {ref C : String} {T : u_T} {N ci index : Nat} (hin : ∀ w ∈ u_ws C T N, w ∈ Ts) (ty0 : Nat → FieldType) (hty : ∀ k, k < N → parseFieldDescriptor (T k).2.2.1 = some (ty0 k)) (hnm : ∀ a, a < N → ∀ b, b < N → a ≠ b → (T a).2.1 ≠ (T b).2.1) (hc : cl[ci]? = some (C, T, N)) (k : Nat) (hk : k < N) (hlink : Cond.fieldLink own index ref (T k).2.1 (T k).2.2.1 ∈ Ts) (hsf : Cond.sameField ref (T k).1 (T k).2.1 (T k).2.2.1 ∈ Ts) (hfin : (T k).2.2.2 = false) {fs : List Value} (ha : G a = some (.inr (ci, fs))) (hA : H0.size ≤ a) {v : Value} (hn : narrow (ty0 k) v = v) (hfit : fits (ty0 k) v = true) (hl : k < fs.length)
    (hdg : decode cc pc = .ok (.putfield index, 3)) (kk : ∀ (H1 : Heap) (locs1 : List Loc), hs_W D cl H0 (hs_up G a (.inr (ci, fs.set k v))) H1 → (∀ q ∈ locs1, H0.size ≤ q.base) → W p l e R s m args below meth c H1 locs1 cells slots Q (F0 m (pc + 3) ls rest)) : W p l e R s m args below meth c H locs cells slots Q (F0 m pc ls (v :: .ref a :: rest)) := by
  obtain ⟨hx, hb, -, hown, hts, hK, -⟩ := hC
  have hap := va_apart (own := own) hts hin ty0 hty hnm hK hc
  obtain ⟨r, h1, cell, q1, q2, q3, q4⟩ := (hW.1 a _ ha).ob
  have hr : r = (C, T, N) := Option.some.inj (h1.symm.trans hc)
  subst hr
  obtain ⟨hS, hfc, kC, hkC, hkind⟩ := hK.1 ci _ hc
  obtain ⟨cf, kf, fi, f, hi, hsl⟩ := hS k hk
  have hlay := hts _ (hin _ (u_in_lay hk))
  unfold u_lay at hlay
  rw [if_neg (by rw [hfin]; decide)] at hlay
  have hst := (u_facts hfc hkC (u_lays hts hin hk) hi).1
  have h6 := u_store hfc hkC hkind hlay hi (hty k hk) hn hfit
  refine W.putK hx hb (f := f) ⟨hown, hts _ hlink, ⟨_, _, _, u_same (hts _ hsf) _ hi⟩, hst⟩ (by rw [q2]; exact h6) q1 q3 (by rw [hsl]; exact k2_hasslot (q4 k hk)) rfl rfl hdg fun H' e1 e2 e3 => ?_
  rw [hsl] at e1 ⊢
  refine kk H' _ (hW.put hA ⟨_, hc, t_OB.to (V := updV (vp_V fs) k v) ⟨_, e1, q2, q3, t_set q4 hap hk v⟩ (fun j _ => vp_updV_set hl v j)⟩ e2 e3) (fun q hq => ?_)
  rcases List.mem_append.mp hq with h | h
  · exact hL q h
  · rw [List.mem_singleton.mp h]; exact hA
/-- a contract out of the body's walk -/
theorem hs_ofWF {y : MethodName} {rm : Room} {av : List Value} {maxL : Nat} {ret : Option FieldType} (hy : plainFor y = true) (hw : Cond.code y cc maxL ret ∈ Ts)
    (body : ∀ (p : Program) (e : Env) (s : State) (m : MethodId) (args : Array Value) (below : List Frame) (meth : Method) (c : Code), hs_C D cl tys Zs H0 Ts p s m args c cc maxL y.cls → meth.locks = false → meth.sig.returnType = ret → (y.name = "<init>" → meth.name = "<init>") → (∀ x ∈ c.exceptionTable.toList, False) → hs_W D cl H0 G s.heap →
      W p l e rm s m args below meth c s.heap [] 0 0 (hs_Z D cl H0 Qy rm.cells rm.slots below s) (entryFrame m av.toArray maxL)) : hs_M D cl tys Zs Ts H0 l y rm av G Qy := by
  refine MetFree.of_bodySF (code := cc) (maxLocals := maxL) (ret := ret) hy ?_ ?_
  · intro args s m h hn
    obtain ⟨meth, c, h1, h2, h3, h4, h5, h6, -, -⟩ := Cond.code_spec hn (atoms_spec (ws := Ts) h _ hw)
    exact ⟨meth, c, h1, h2, h3, h4, h5, h6⟩
  · intro p e s m args below meth c s₁ B hml hP _
    obtain ⟨rfl, hG, hK⟩ := hP
    have hh0 : s₁.heap = s.heap := by rw [B.state]; rfl
    have hts := atoms_spec (ws := Ts) B.pre
    have hnoh : ∀ x ∈ c.exceptionTable.toList, False := by
      obtain ⟨meth9, c9, h1, h2, -, -, -, -, h7, -⟩ := Cond.code_spec B.named (hts _ hw)
      cases Option.some.inj (h1.symm.trans B.method)
      cases Option.some.inj (h2.symm.trans (Stand.of_body B).code)
      intro x hx
      rw [Array.isEmpty_iff.mp h7] at hx
      cases hx
    obtain ⟨t, a1, o, b1, b2, b3⟩ := body p e s m _ below meth c ⟨B.exec, B.bytes, hml, findClass_of_methodNamed B.named, hts, hK⟩ B.notSynchronized B.returns (fun h => ((name_of_methodNamed B.named B.method).1).trans h) hnoh hG s₁ hh0 (Stand.of_body B)
    exact ⟨t, o, a1, b1, b2, b3⟩
end HS40b
theorem sf_mod : Cond.sameField RJx4a65c "java/util/AbstractList" "modCount" "I" ∈ hs_Ts := hs_Tin 94 (by decide +kernel) (by decide +kernel)
