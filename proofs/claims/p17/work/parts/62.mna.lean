/-! new long[n][k] -/
def hs_ms (cA cy : ClassId) (N K q : Nat) (G : hs_G) : hs_G := fun a => if a = q then some (hs_ra cA N (fun i => if i < N then some (q + 1 + i) else none)) else if q < a ∧ a ≤ q + N then some (.inl (cy, K, .inr (.inl (fun _ => 0)))) else G a
section HS62
variable {p : Program} {l : Launch} {e : Env} {R : Room} {s : State} {m : MethodId} {args : Array Value} {below : List Frame} {meth : Method} {c : Code} {H : Heap} {locs : List Loc} {cells slots : Nat} {Q : State → Prop}
variable {cc : ByteArray} {pc nL : Nat} {ls : Array Slot} {rest : List Value} {D : va_G} {cl : List vw_C} {a : Nat} {tys : List (ClassId × FieldType)} {Zs : List (String × String × String × Value)} {Ts : List Cond} {own : String} {H0 : Heap} {G : hs_G}
theorem hs_mna (hC : hs_C D cl tys Zs H0 Ts p s m args c cc nL own) (hW : hs_W D cl H0 G H) {index : Nat} (hlink : Cond.classLink own index ("[" ++ (FieldType.array .long).toString) ∈ Ts) (harr : Cond.arrayClass .long ∈ Ts) (t0 t1 : Nat) {cA cy : ClassId} (ht : tys[t0]? = some (cA, .array .long)) (ht1 : tys[t1]? = some (cy, .long)) {n k : Int32} {N' K' : Nat} (hn : ¬ n < 0) (hk : ¬ k < 0) (hN : n.toNatClampNeg = N') (hM : k.toNatClampNeg = K')
    (hb1 : N' * 4 ≤ 536870912) (hb2 : K' * componentBytes .long ≤ 536870912) (hb3 : K' ≤ 536870912) (hcells : cells + (1 + N') ≤ R.cells) (hslots : slots + (N' + N' * K') ≤ R.slots) (hdg : decode cc pc = .ok (.multianewarray index 2, 4))
    (kk : ∀ (q : Nat) (H1 : Heap), H0.size ≤ q → (∀ i : Nat, G (q + i) = none) → hs_W D cl H0 (hs_ms cA cy N' K' q G) H1 → W p l e R s m args below meth c H1 locs (cells + 1 + N') (slots + N' + N' * K') Q (F0 m (pc + 4) ls (.ref q :: rest))) : W p l e R s m args below meth c H locs cells slots Q (F0 m pc ls (.int k :: .int n :: rest)) := by
  subst hN
  subst hM
  intro T hT Xs
  obtain ⟨vm₁, cA', comp, -, fA, fC, -, -, X', step⟩ := Xs.multianewarray2F (ty := .long) hC.1 hC.2.2.2.1 (hC.2.2.2.2.1 _ hlink) (show (Cond.arrayOver (.array .long)).before args s = true from hC.2.2.2.2.2.2.1.2.2.2.1) (hC.2.2.2.2.1 _ harr) (g := F0 m pc ls (.int k :: .int n :: rest)) rfl (by rw [hC.2.1]; exact hdg) rfl hn hk hb1 hb2 hb3 rfl rfl hcells hslots
  have e1 : cA' = cA := Option.some.inj (fA.symm.trans (hC.2.2.2.2.2.1.2 t0 _ ht).2)
  have e2 : comp = cy := Option.some.inj (fC.symm.trans (hC.2.2.2.2.2.1.2 t1 _ ht1).2)
  subst e1
  subst e2
  generalize hF : Jvm.Free.Multi.fill (T.setVm vm₁) cA' comp n.toNatClampNeg k.toNatClampNeg (defaultValue .long) n.toNatClampNeg = F at X' step
  have hTh : (T.setVm vm₁).heap = H := hT
  obtain ⟨f1, f2, -, -⟩ := Jvm.Free.Multi.fill_facts (T.setVm vm₁) cA' comp n.toNatClampNeg k.toNatClampNeg (defaultValue .long) n.toNatClampNeg
  rw [hF, hTh] at f1 f2
  have hold : ∀ x : Nat, x < H.size → F.heap[x]? = H[x]? := fun x hx => by
    have := Jvm.Free.Multi.fill_old (T.setVm vm₁) cA' comp n.toNatClampNeg k.toNatClampNeg (defaultValue .long) (a := x) (by rw [hTh]; exact hx) n.toNatClampNeg
    rw [hF, hTh] at this
    exact this
  have hrow : ∀ j : Nat, j < n.toNatClampNeg → F.heap[H.size + 1 + j]? = some (vp_cell comp (k.toNatClampNeg, .inr (.inl (fun _ => 0)))) := fun j hj => by
    have := Jvm.Free.Multi.fill_inner (T.setVm vm₁) cA' comp n.toNatClampNeg k.toNatClampNeg (defaultValue .long) n.toNatClampNeg j hj
    rw [hF, hTh] at this
    rw [this, vp_cell_l]
    show some ({ cls := comp, slots := Array.replicate k.toNatClampNeg (.long 0), vm := .none } : Cell) = _
    rw [arrV_new]
  have hout : Jvm.Free.Multi.outerC cA' n.toNatClampNeg H.size n.toNatClampNeg = vp_cell cA' (n.toNatClampNeg, .inr (.inr (.inr (.inr (fun i => if i < n.toNatClampNeg then some (H.size + 1 + i) else none))))) := by
    rw [vp_cell_q]
    exact vr_outer cA' n.toNatClampNeg H.size n.toNatClampNeg
  rw [hout] at f2
  have hfr : ∀ i : Nat, G (H.size + i) = none := fun i => by
    cases h : G (H.size + i) with
    | none => rfl
    | some x => exact absurd (hW.1 _ x h).lt (by omega)
  have hW2 : hs_W D cl H0 (hs_ms cA' comp n.toNatClampNeg k.toNatClampNeg H.size G) F.heap := by
    refine ⟨fun q y hq => ?_, by rw [f1]; have := hW.2.1; omega, fun q hq => by rw [hold q (by have := hW.2.1; omega)]; exact hW.2.2 q hq⟩
    unfold hs_ms at hq
    by_cases z1 : q = H.size
    · rw [if_pos z1] at hq
      cases hq
      rw [z1]
      exact Or.inl f2
    · rw [if_neg z1] at hq
      by_cases z2 : H.size < q ∧ q ≤ H.size + n.toNatClampNeg
      · rw [if_pos z2] at hq
        cases hq
        have := hrow (q - H.size - 1) (by omega)
        rw [show H.size + 1 + (q - H.size - 1) = q by omega] at this
        exact Or.inl this
      · rw [if_neg z2] at hq
        exact (hW.1 q y hq).kept (hold q (hW.1 q y hq).lt)
  obtain ⟨t, a1, b1⟩ := kk H.size F.heap hW.2.1 hfr hW2 F rfl X'
  refine ⟨t, step t ?_, b1⟩
  have e : T.heap.size = H.size := by rw [hT]
  rw [e]
  exact a1
end HS62
