/-! the claim's surroundings: launch, class numbers and slots, array classes, the heap at the law's start, where MONTH_LENGTHS and ArrayList's empty array lie -/
abbrev hs_E : Type := Launch × (Nat → ClassId) × (Nat → Nat → Nat) × (Nat → ClassId) × Heap × Nat × Nat
abbrev eD (E : hs_E) : va_G := (E.2.1, E.2.2.1)
abbrev eA (E : hs_E) : Nat → ClassId := E.2.2.2.1
abbrev eH (E : hs_E) : Heap := E.2.2.2.2.1
abbrev eT (E : hs_E) : List (ClassId × FieldType) := [(eA E 0, .int), (eA E 1, .long), (eA E 2, .boolean), (eA E 3, .array .long), (eA E 4, .object "java/lang/Object")]
abbrev eZ (E : hs_E) : List (String × String × String × Value) := [(RX7, "MONTH_LENGTHS", "[I", .ref E.2.2.2.2.2.1), (RJx4a65c, "DEFAULTCAPACITY_EMPTY_ELEMENTDATA", "[Ljava/lang/Object;", .ref E.2.2.2.2.2.2)]
abbrev hM (E : hs_E) (y : MethodName) (rm : Room) (av : List Value) (G : hs_G) (Qy : hs_P) : Prop := hs_M (eD E) vwCl (eT E) (eZ E) hs_Ts (eH E) E.1 y rm av G Qy
section HS10
variable {p : Program} {l : Launch} {e : Env} {R : Room} {s : State} {m : MethodId} {args : Array Value} {below : List Frame} {meth : Method} {c : Code} {H : Heap} {locs : List Loc} {cells slots : Nat} {Q : State → Prop}
variable {pc : Nat} {ls : Array Slot} {rest : List Value} {D : va_G} {cl : List vw_C} {H0 : Heap} {G : hs_G}
theorem hs_kp1 {v : Value} {rm : Room} (kk : ∀ (H1 : Heap) (locs1 : List Loc), hs_W D cl H0 G H1 → (∀ q ∈ locs1, H0.size ≤ q.base) → W p l e R s m args below meth c H1 locs1 cells slots Q (F0 m (pc + 3) ls (v :: rest))) : hs_Kr D cl H0 (hs_pu (some v) G) rm p l e R s m args below meth c cells slots Q pc ls rest := hs_kpu kk
theorem hs_kp0 {rm : Room} (kk : ∀ (H1 : Heap) (locs1 : List Loc), hs_W D cl H0 G H1 → (∀ q ∈ locs1, H0.size ≤ q.base) → W p l e R s m args below meth c H1 locs1 cells slots Q (F0 m (pc + 3) ls rest)) : hs_Kr D cl H0 (hs_pu none G) rm p l e R s m args below meth c cells slots Q pc ls rest := hs_kpu kk
end HS10
