/-! behind a call in a try: the method goes on, or its handler takes what was thrown -/
theorem hs_tab1 {c : Code} {b h t : Nat} (hd : c.exceptionTable.toList.map (fun h => (h.startPc, h.endPc, h.handlerPc, h.catchType)) = [(0, b, h, t)]) : ∃ x : ExceptionTableEntry, c.exceptionTable.toList = [x] ∧ x.startPc = 0 ∧ x.endPc = b ∧ x.handlerPc = h ∧ x.catchType = t := by
  generalize c.exceptionTable.toList = L at hd
  match L, hd with
  | [], hd => simp at hd
  | x :: y :: L, hd => simp at hd
  | [x], hd =>
    simp only [List.map_cons, List.map_nil, List.cons.injEq, Prod.mk.injEq, and_true] at hd
    exact ⟨x, rfl, hd.1, hd.2.1, hd.2.2.1, hd.2.2.2⟩
theorem hs_tab2 {c : Code} {b h t b2 h2 t2 : Nat} (hd : c.exceptionTable.toList.map (fun h => (h.startPc, h.endPc, h.handlerPc, h.catchType)) = [(0, b, h, t), (0, b2, h2, t2)]) : ∃ x y : ExceptionTableEntry, c.exceptionTable.toList = [x, y] ∧ (x.startPc = 0 ∧ x.endPc = b ∧ x.handlerPc = h ∧ x.catchType = t) ∧ y.startPc = 0 ∧ y.endPc = b2 ∧ y.handlerPc = h2 ∧ y.catchType = t2 := by
  generalize c.exceptionTable.toList = L at hd
  match L, hd with
  | [], hd => simp at hd
  | [x], hd => simp at hd
  | x :: y :: z :: L, hd => simp at hd
  | [x, y], hd =>
    simp only [List.map_cons, List.map_nil, List.cons.injEq, Prod.mk.injEq, and_true] at hd
    exact ⟨x, y, rfl, ⟨hd.1.1, hd.1.2.1, hd.1.2.2.1, hd.1.2.2.2⟩, hd.2.1, hd.2.2.1, hd.2.2.2.1, hd.2.2.2.2⟩
section HS64
variable {p : Program} {l : Launch} {e : Env} {R : Room} {s : State} {m : MethodId} {args : Array Value} {below : List Frame} {meth : Method} {c : Code} {cells slots : Nat} {Q : State → Prop} {pc : Nat} {ls : Array Slot} {rest : List Value} {D : va_G} {cl : List vw_C} {H0 : Heap} {rm : Room}
variable {cc : ByteArray} {nL : Nat} {tys : List (ClassId × FieldType)} {Zs : List (String × String × String × Value)} {Ts : List Cond} {own : String}
theorem hs_kT1 {Q1 : hs_P} {G : hs_G} {P : String → Prop} {b h t : Nat} {N : String} (hC : hs_C D cl tys Zs H0 Ts p s m args c cc nL own) (hd : c.exceptionTable.toList.map (fun h => (h.startPc, h.endPc, h.handlerPc, h.catchType)) = [(0, b, h, t)]) (hb : pc < b) (ht : t ≠ 0) (hlink : Cond.classLink own t N ∈ Ts) (hcast : Cond.castable N N ∈ Ts) (hP : ∀ C, P C → C = N)
    (kk : hs_Kr D cl H0 Q1 rm p l e R s m args below meth c cells slots Q pc ls rest)
    (kh : ∀ (q : Nat) (H1 : Heap) (locs1 : List Loc), P N → hs_W D cl H0 G H1 → (∀ q ∈ locs1, H0.size ≤ q.base) → W p l e R s m args below meth c H1 locs1 (cells + 1) (slots + 6) Q (F0 m h ls [.ref q])) : hs_Kr D cl H0 (hs_or2 Q1 G P) rm p l e R s m args below meth c cells slots Q pc ls rest := by
  refine ⟨?_, ?_⟩
  · rintro v G1 k n H1 locs1 (h | ⟨C, -, h2, -⟩) h3 h4 h5 h6
    · exact kk.1 v G1 k n H1 locs1 h h3 h4 h5 h6
    · cases h2
  · rintro C' x G1 k n H1 locs1 (h | ⟨C, hC2, h2, rfl, rfl, rfl⟩) h3 h4 h5 h6 h7
    · exact kk.2 C' x G1 k n H1 locs1 h h3 h4 h5 h6 h7
    · cases h2
      have e9 := hP _ hC2
      rw [e9] at hC2 h7
      obtain ⟨y, t1, t2, t3, t4, t5⟩ := hs_tab1 hd
      have key := kh x H1 locs1 hC2 h5 h6
      rw [← t4] at key
      exact hs_catch1 hC.2.2.2.1 t1 (by simp [covers, t2, t3, hb]) (by rw [t5]; exact ht) (by rw [t5]; exact hC.2.2.2.2.1 _ hlink) (hC.2.2.2.2.1 _ hcast) h7 key
theorem hs_kT2 {Q1 : hs_P} {G : hs_G} {P : String → Prop} {b h t h2 t2 : Nat} (hC : hs_C D cl tys Zs H0 Ts p s m args c cc nL own) (hd : c.exceptionTable.toList.map (fun h => (h.startPc, h.endPc, h.handlerPc, h.catchType)) = [(0, b, h, t), (0, b, h2, t2)]) (hb : pc < b) (ht : t ≠ 0) (ht2 : t2 ≠ 0) (hlink : Cond.classLink own t "java/lang/IllegalArgumentException" ∈ Ts) (hlink2 : Cond.classLink own t2 "java/lang/IllegalStateException" ∈ Ts) (hcast : Cond.castable "java/lang/IllegalArgumentException" "java/lang/IllegalArgumentException" ∈ Ts) (hcast2 : Cond.castable "java/lang/IllegalStateException" "java/lang/IllegalStateException" ∈ Ts) (hP : ∀ C, P C → C = "java/lang/IllegalArgumentException" ∨ C = "java/lang/IllegalStateException")
    (kk : hs_Kr D cl H0 Q1 rm p l e R s m args below meth c cells slots Q pc ls rest)
    (kh : ∀ (q : Nat) (H1 : Heap) (locs1 : List Loc), hs_W D cl H0 G H1 → (∀ q ∈ locs1, H0.size ≤ q.base) → W p l e R s m args below meth c H1 locs1 (cells + 1) (slots + 6) Q (F0 m h ls [.ref q]))
    (kh2 : ∀ (q : Nat) (H1 : Heap) (locs1 : List Loc), hs_W D cl H0 G H1 → (∀ q ∈ locs1, H0.size ≤ q.base) → W p l e R s m args below meth c H1 locs1 (cells + 1) (slots + 6) Q (F0 m h2 ls [.ref q])) : hs_Kr D cl H0 (hs_or2 Q1 G P) rm p l e R s m args below meth c cells slots Q pc ls rest := by
  refine ⟨?_, ?_⟩
  · rintro v G1 k n H1 locs1 (h | ⟨C, -, h2, -⟩) h3 h4 h5 h6
    · exact kk.1 v G1 k n H1 locs1 h h3 h4 h5 h6
    · cases h2
  · rintro C' x G1 k n H1 locs1 (h | ⟨C, hC2, h2, rfl, rfl, rfl⟩) h3 h4 h5 h6 h7
    · exact kk.2 C' x G1 k n H1 locs1 h h3 h4 h5 h6 h7
    · cases h2
      obtain ⟨y, z, t1, ⟨u2, u3, u4, u5⟩, v2, v3, v4, v5⟩ := hs_tab2 hd
      rcases hP _ hC2 with e9 | e9
      · rw [e9] at h7
        have key := kh x H1 locs1 h5 h6
        rw [← u4] at key
        exact hs_catch1 hC.2.2.2.1 t1 (by simp [covers, u2, u3, hb]) (by rw [u5]; exact ht) (by rw [u5]; exact hC.2.2.2.2.1 _ hlink) (hC.2.2.2.2.1 _ hcast) h7 key
      · rw [e9] at h7
        have key := kh2 x H1 locs1 h5 h6
        rw [← v4] at key
        exact hs_catch2 hC.2.2.2.1 t1 (by simp [covers, u2, u3, hb]) (by rw [u5]; exact ht) (by rw [u5]; exact hC.2.2.2.2.1 _ hlink) hC.2.2.2.2.2.2.1.2.2.2.2.1 (by simp [covers, v2, v3, hb]) (by rw [v5]; exact ht2) (by rw [v5]; exact hC.2.2.2.2.1 _ hlink2) (hC.2.2.2.2.1 _ hcast2) h7 key
theorem hs_kpA {v : Value} {G : hs_G} {A : Prop} (kk : A → ∀ (H1 : Heap) (locs1 : List Loc), hs_W D cl H0 G H1 → (∀ q ∈ locs1, H0.size ≤ q.base) → W p l e R s m args below meth c H1 locs1 cells slots Q (F0 m (pc + 3) ls (v :: rest))) : hs_Kr D cl H0 (fun r G1 k n => hs_pu (some v) G r G1 k n ∧ A) rm p l e R s m args below meth c cells slots Q pc ls rest := by
  refine ⟨?_, ?_⟩
  · rintro v' G1 k n H1 locs1 ⟨⟨h1, rfl, rfl, rfl⟩, hA⟩ h3 h4 h5 h6
    cases h1
    exact kk hA H1 locs1 h5 h6
  · rintro C x G1 k n H1 locs1 ⟨⟨h1, -⟩, -⟩
    cases h1
end HS64
/-! what a method of the law leaves: the class's things typed, out[0] whatever it is -/
abbrev lw_o (E : hs_E) (f : Nat → Int64) : va_E := .inl (eA E 1, 1, .inr (.inl f))
def lw_Hf (E : hs_E) (t : cl_t) (X : Nat → Nat) (d2 : Nat) (G : hs_G) (o : Nat) (f : Nat → Int64) (G1 : hs_G) : Prop := ∃ (t' : cl_t) (cap' : Nat → Nat) (Gm : hs_G), cl_T E t' cap' X d2 Gm ∧ cl_F t G t' Gm ∧ G1 = hs_up Gm o (lw_o E f)
def lw_H (E : hs_E) (t : cl_t) (X : Nat → Nat) (d2 : Nat) (G : hs_G) (o : Nat) (G1 : hs_G) : Prop := ∃ (f : Nat → Int64) (Y : Nat → Nat), vY X Y ∧ lw_Hf E t Y d2 G o f G1
theorem cl_zt {z : Int32} {b : Bool} (h : z = 1 ↔ b = false) (c : z = 0) : b = true := by
  cases b with
  | true => rfl
  | false => exact absurd (h.mpr rfl) (by rw [c]; decide)
theorem cl_zf {z : Int32} {b : Bool} (h0 : z = 0 ∨ z = 1) (h : z = 1 ↔ b = false) (c : ¬ z = 0) : ¬ b = true := by
  rw [h.mp (h0.resolve_left c)]
  decide
theorem cl_F.out {t t' : cl_t} {G G' : hs_G} {o : Nat} (h : cl_F t G t' G') (ht : t o = none) (hG : G o ≠ none) : t' o = none := by
  cases hh : t' o with
  | none => rfl
  | some k =>
    rcases h.2.2 o k hh with z | z
    · rw [ht] at z; cases z
    · exact absurd z hG
theorem cl_F.at {t t' : cl_t} {G G' : hs_G} {o : Nat} {x : va_E} (h : cl_F t G t' G') (ht : t o = none) (hG : G o = some x) : G' o = some x := (h.2.1 o (h.out ht (by rw [hG]; exact fun z => nomatch z))).trans hG
