/-! funding; what a call may make of the numbers -/
def vY (X Y : Nat → Nat) : Prop := Y 0 = X 0 ∧ Y 99 = 0 ∧ vJ Y ∧ Y 97 ≤ X 97 + 1000000000
theorem vY.rf {X : Nat → Nat} (h99 : X 99 = 0) (hJ : vJ X) : vY X X := ⟨rfl, h99, hJ, by omega⟩
theorem vY.of {X Y : Nat → Nat} (h99 : X 99 = 0) (hY : ∀ n, n < 100 → Y n = X n) (hJ : vJ Y) : vY X Y := ⟨hY 0 (by decide), (hY 99 (by decide)).trans h99, hJ, by rw [hY 97 (by decide)]; omega⟩
theorem vv_97 {X : Nat → Nat} {v k i : Nat} : vv (va_up X 97 v) k i = vv X k i := by
  unfold vv
  rw [va_up_ne _ _ (by omega)]
theorem vBr_vv {X : Nat → Nat} {a i k j : Nat} {n : Int64} (ha : a < 16) (hk : k < 64) : vv (vBr X a i n) k j = if k = 5 ∧ j = i then vv X 5 i + n else if k = 20 + a ∧ j = i then vv X (20 + a) i + n else vv X k j := by
  unfold vBr
  rw [vS_vv (by omega) hk, vS_vv (by omega) (by omega), vS_vv (by omega) hk, if_neg (show ¬ (5 = 20 + a ∧ i = i) by omega)]
theorem vBr_lo2 {X : Nat → Nat} {a i m : Nat} {n : Int64} (h : m < 100) : vBr X a i n m = X m := by
  unfold vBr
  rw [vS_lo h, vS_lo h]
theorem vBr_J {X : Nat → Nat} {pa i : Nat} {n : Int64} (hJ : vJ X) (hB : X 97 ≤ 1152921504606846976) (hp : pa < 16) (hn : 0 ≤ n.toInt ∧ n.toInt ≤ 1000000000) : vJ (va_up (vBr X pa i n) 97 (X 97 + 1000000000)) := by
  intro j hj
  have ep : ∀ p, p < 16 → (vv (va_up (vBr X pa i n) 97 (X 97 + 1000000000)) (20 + p) j).toInt = (vv X (20 + p) j).toInt + (if p = pa then (if j = i then n.toInt else 0) else 0) := fun p hq => by
    have hv := hJ.le hj hq
    rw [vv_97, vBr_vv hp (by omega), if_neg (by omega)]
    by_cases z : p = pa
    · subst z
      by_cases w : j = i
      · subst w
        rw [if_pos ⟨rfl, rfl⟩, if_pos rfl, if_pos rfl, i64_add (by omega) (by omega)]
      · rw [if_neg (fun y => w y.2), if_pos rfl, if_neg w]
        omega
    · rw [if_neg (by omega), if_neg z]
      omega
  have hs := vsum_add 16 ep
  rw [vdel_one, if_pos hp, (hJ j hj).2.1] at hs
  have hnn := vsum_nn 16 (hJ j hj).1
  rw [(hJ j hj).2.1] at hnn
  have h97 := (hJ j hj).2.2
  have e5 : (vv (va_up (vBr X pa i n) 97 (X 97 + 1000000000)) 5 j).toInt = (vv X 5 j).toInt + (if j = i then n.toInt else 0) := by
    rw [vv_97, vBr_vv hp (by omega)]
    by_cases w : j = i
    · subst w
      rw [if_pos ⟨rfl, rfl⟩, if_pos rfl, i64_add (by omega) (by omega)]
    · rw [if_neg (fun y => w y.2), if_neg (by omega), if_neg w]
      omega
  have b1 : 0 ≤ (if j = i then n.toInt else 0) ∧ (if j = i then n.toInt else 0) ≤ 1000000000 := by split <;> omega
  refine ⟨fun p hq => ?_, by rw [hs, e5], ?_⟩
  · have hv := hJ.le hj hq
    rw [ep p hq]
    split <;> omega
  · rw [e5, va_up_self]
    omega
