/-! LOOPS: at the head, with a state x of the loop of which I holds; μ falls -/
section HS14
variable {p : Program} {l : Launch} {e : Env} {R : Room} {s : State} {m : MethodId} {args : Array Value} {below : List Frame} {meth : Method} {c : Code} {cells slots : Nat} {Q : State → Prop} {pc : Nat}
theorem hs_loop {σ : Type} (μ : σ → Nat) (I : σ → Heap → List Loc → Array Slot → Prop)
    (step : ∀ (x : σ) (H : Heap) (locs : List Loc) (ls : Array Slot), I x H locs ls → (∀ (y : σ) (H' : Heap) (locs' : List Loc) (ls' : Array Slot), μ y < μ x → I y H' locs' ls' → W p l e R s m args below meth c H' locs' cells slots Q (F0 m pc ls' [])) → W p l e R s m args below meth c H locs cells slots Q (F0 m pc ls []))
    (x : σ) (H : Heap) (locs : List Loc) (ls : Array Slot) (h : I x H locs ls) : W p l e R s m args below meth c H locs cells slots Q (F0 m pc ls []) := by
  have key : ∀ (n : Nat) (x : σ) (H : Heap) (locs : List Loc) (ls : Array Slot), μ x < n → I x H locs ls → W p l e R s m args below meth c H locs cells slots Q (F0 m pc ls []) := by
    intro n
    induction n with
    | zero => intro x H locs ls h; exact absurd h (Nat.not_lt_zero _)
    | succ n ih =>
      intro x H locs ls hn hI
      exact step x H locs ls hI (fun y H' locs' ls' hy hI' => ih y H' locs' ls' (by omega) hI')
  exact key (μ x + 1) x H locs ls (Nat.lt_succ_self _) h
/-- the same, where cells come: k cells of n slots since the method's start -/
theorem hs_loopC {σ : Type} (μ : σ → Nat) (I : σ → Nat → Nat → Heap → List Loc → Array Slot → Prop)
    (step : ∀ (x : σ) (k n : Nat) (H : Heap) (locs : List Loc) (ls : Array Slot), I x k n H locs ls → (∀ (y : σ) (k' n' : Nat) (H' : Heap) (locs' : List Loc) (ls' : Array Slot), μ y < μ x → I y k' n' H' locs' ls' → W p l e R s m args below meth c H' locs' k' n' Q (F0 m pc ls' [])) → W p l e R s m args below meth c H locs k n Q (F0 m pc ls []))
    (x : σ) (k n : Nat) (H : Heap) (locs : List Loc) (ls : Array Slot) (h : I x k n H locs ls) : W p l e R s m args below meth c H locs k n Q (F0 m pc ls []) := by
  have key : ∀ (f : Nat) (x : σ) (k n : Nat) (H : Heap) (locs : List Loc) (ls : Array Slot), μ x < f → I x k n H locs ls → W p l e R s m args below meth c H locs k n Q (F0 m pc ls []) := by
    intro f
    induction f with
    | zero => intro x k n H locs ls h; exact absurd h (Nat.not_lt_zero _)
    | succ f ih =>
      intro x k n H locs ls hn hI
      exact step x k n H locs ls hI (fun y k' n' H' locs' ls' hy hI' => ih y k' n' H' locs' ls' (by omega) hI')
  exact key (μ x + 1) x k n H locs ls (Nat.lt_succ_self _) h
end HS14
theorem hs_geN {sc : Nat → Int32} {N i : Nat} (h : sc 4 = nI N) (hN : N < 2 ^ 31) (hi : i < 2 ^ 31) (c : nI i ≥ sc 4) : N ≤ i := (nI_leI hN hi).mp (by rw [← h]; exact c)
theorem hs_ltN {sc : Nat → Int32} {N i : Nat} (h : sc 4 = nI N) (hN : N < 2 ^ 31) (hi : i < 2 ^ 31) (c : ¬ nI i ≥ sc 4) : i < N := Nat.not_le.mp fun q => c (by rw [h]; exact (nI_leI hN hi).mpr q)
theorem hs_inc (i : Nat) : nI i + Int32.ofInt 1 = nI (i + 1) := nI_1 i
theorem hs_dec (i : Nat) : nI (i + 1) + Int32.ofInt (-1) = nI i := by
  have h : Int32.ofInt (-1) = -1 := by decide
  rw [h]
  exact pk_m1 i
