/-! the class: constructors of Vault and of the house -/
theorem hs_up_none {G : hs_G} {a b : Nat} {x : va_E} : hs_up G a x b = none ↔ b ≠ a ∧ G b = none := by
  unfold hs_up
  by_cases h : b = a <;> simp [h]
theorem hs_ms_none {cA cy : ClassId} {N K v b : Nat} {G : hs_G} : hs_ms cA cy N K v G b = none ↔ b ≠ v ∧ ¬ (v < b ∧ b ≤ v + N) ∧ G b = none := by
  unfold hs_ms
  by_cases h : b = v
  · simp [h]
  · rw [if_neg h]
    by_cases h2 : v < b ∧ b ≤ v + N
    · simp [h2]
    · simp [h, h2]
theorem hs_ms_ne {cA cy : ClassId} {N K v b : Nat} {G : hs_G} (h : b ≠ v) (h2 : ¬ (v < b ∧ b ≤ v + N)) : hs_ms cA cy N K v G b = G b := by
  unfold hs_ms
  rw [if_neg h, if_neg h2]
theorem hs_ms_o {cA cy : ClassId} {N K v : Nat} {G : hs_G} : hs_ms cA cy N K v G v = some (hs_ra cA N (fun i => if i < N then some (v + 1 + i) else none)) := by
  unfold hs_ms
  rw [if_pos rfl]
theorem hs_ms_r {cA cy : ClassId} {N K v b : Nat} {G : hs_G} (h : v < b ∧ b ≤ v + N) : hs_ms cA cy N K v G b = some (.inl (cy, K, .inr (.inl (fun _ => 0)))) := by
  unfold hs_ms
  rw [if_neg (by omega), if_pos h]
set_option maxHeartbeats 4000000 in
set_option maxRecDepth 100000 in
/-- Vault -/
theorem ct_X6_init (E : hs_E) (G : hs_G) (q : Nat) (hG : G q = some (.inr (7, [.null, .null]))) (hq : (eH E).size ≤ q) : hM E yX6_init ({ frames := 1, cells := 18, slots := 169, locals := 30 }) [.ref q] G (hs_V (fun G1 k n => k = 18 ∧ n = 169 ∧ ∃ v b : Nat, (∀ i : Nat, G (v + i) = none) ∧ (eH E).size ≤ v ∧ hs_ms (eA E 3) (eA E 1) 16 9 v G b = none ∧ (eH E).size ≤ b ∧ b ≠ q ∧ G1 = hs_up (hs_up (hs_ms (eA E 3) (eA E 1) 16 9 v G) b (.inl (eA E 1, 9, .inr (.inl (fun _ => 0))))) q (.inr (7, [.ref v, .ref b])))) := by
  refine hs_ofW (cc := cX6_init) (maxL := 1) (ret := none) (by decide) co_X6_init ?_
  intro p e s m args below meth c hC hlocks hr hin0 hnoh hW
  obtain ⟨hx, hb, hml, hown, hts, -⟩ := id hC
  have hE := hW
  have hL : ∀ q ∈ ([] : List Loc), (eH E).size ≤ q.base := fun q hq => nomatch hq
  have hl := lv_entry ([.ref q] : List Value) (n := 1) (Nat.le_of_ble_eq_true rfl)
  rw [lg_entry_eq]
  generalize (lg_sl [.ref q] ++ List.replicate (1 - (lg_sl [.ref q]).length) Slot.unset).toArray = ls at hl ⊢
  have hl : lv_has ls 1 [(0, .ref q)] := hl
  have hin := hin0 rfl
  refine lv_aload_n hx hb dX6_init_0 rfl (lv_at hl 0 rfl) ?_
  refine W.objInit hx hb hown (hts _ lk_X6_3) (hts _ im_objectInit) (hts _ co_objectInit) rfl (by rw [hml]; exact hl.1) rfl dX6_init_1 (by decide) (Nat.le_of_ble_eq_true rfl) ?_
  refine W.eq (g2 := F0 m 4 ls _) rfl ?_
  refine lv_aload_n hx hb dX6_init_4 rfl (lv_at hl 0 rfl) ?_
  refine lv_bipush (v := 16) hx hb dX6_init_5 (by decide) ?_
  refine lv_bipush (v := 9) hx hb dX6_init_7 (by decide) ?_
  refine hs_mna hC hW (show Cond.classLink _ _ "[[J" ∈ hs_Ts from lk_X6_9) ac_long 3 1 rfl rfl (N' := 16) (K' := 9) (by decide) (by decide) (by decide) (by decide) (by decide) (by decide) (by decide) (by decide) (by decide) dX6_init_9 (fun v H hvs hfv hW => ?_)
  have hqv : q ≠ v := fun z => by have := hfv 0; rw [Nat.add_zero, ← z, hG] at this; cases this
  have hqr : ¬ (v < q ∧ q ≤ v + 16) := fun z => by have := hfv (q - v); rw [show v + (q - v) = q by omega, hG] at this; cases this
  refine hs_putF hC hW hL hi_X6 tyX6 tyX6_ok nmX6 rfl 0 (by decide) lk_X6_11 rfl rfl hin rfl ((hs_ms_ne hqv hqr).trans hG) hq rfl rfl (Nat.le_of_ble_eq_true rfl) dX6_init_13 (fun H locs hW hL => ?_)
  refine lv_aload_n hx hb dX6_init_16 rfl (lv_at hl 0 rfl) ?_
  refine lv_bipush (v := 9) hx hb dX6_init_17 (by decide) ?_
  refine hs_newa (atype := .long) (ty := .long) hC hW ac_long rfl 1 rfl (fun _ h => h) (N' := 9) (a0 := (9, .inr (.inl (fun _ => 0)))) (fun cA => by rw [vp_cell_l]; rfl) (by decide) (by decide) (by decide) (by decide) (by decide) dX6_init_19 (fun b H hbs hfb hW => ?_)
  have hqb : q ≠ b := fun z => by rw [← z, hs_up_eq] at hfb; cases hfb
  refine hs_putF hC hW hL hi_X6 tyX6 tyX6_ok nmX6 rfl 1 (by decide) lk_X6_16 rfl rfl hin rfl ((hs_up_ne _ _ hqb).trans (hs_up_eq _ _ _)) hq rfl rfl (Nat.le_of_ble_eq_true rfl) dX6_init_21 (fun H locs hW hL => ?_)
  rw [hs_up_sw _ hqb, hs_up_up] at hW
  exact hs_vret hC hW hL hr hlocks (by decide) (by decide) dX6_init_24 ⟨rfl, rfl, rfl, v, b, hfv, hvs, (hs_up_none.mp hfb).2, hbs, hqb.symm, rfl⟩
def cl_t0 (x q1 b1 q3 v b5 q6 b7 q8 q9 : Nat) : cl_t := fun a => if a = x then some (0, 0) else if a = q1 then some (1, 0) else if a = b1 then some (2, 0) else if a = q3 then some (3, 0) else if a = v then some (4, 0) else if a = b5 then some (5, 0) else if a = q6 then some (6, 0) else if a = b7 then some (7, 0) else if a = q8 then some (8, 0) else if a = q9 then some (9, 0) else if v < a ∧ a ≤ v + 16 then some (20 + (a - v - 1), 0) else none
def cl_X0 (x q1 b1 q3 v b5 q6 b7 q8 q9 : Nat) : Nat → Nat := fun k => if 90 ≤ k then 0 else if k = 0 then x else if k = 1 then q1 else if k = 2 then b1 else if k = 3 then q3 else if k = 4 then v else if k = 5 then b5 else if k = 6 then q6 else if k = 7 then b7 else if k = 8 then q8 else if k = 9 then q9 else v + 1 + (k - 20)
theorem cl_X0_row (x q1 b1 q3 v b5 q6 b7 q8 q9 i : Nat) (hi : i < 16) : cl_X0 x q1 b1 q3 v b5 q6 b7 q8 q9 (20 + i) = v + 1 + i := by
  unfold cl_X0
  rw [if_neg (by omega), if_neg (by omega), if_neg (by omega), if_neg (by omega), if_neg (by omega), if_neg (by omega), if_neg (by omega), if_neg (by omega), if_neg (by omega), if_neg (by omega), if_neg (by omega), Nat.add_sub_cancel_left]
theorem cl_X0_hi (x q1 b1 q3 v b5 q6 b7 q8 q9 i : Nat) : cl_X0 x q1 b1 q3 v b5 q6 b7 q8 q9 (90 + i) = 0 := if_pos (by omega)
theorem cl_X0_b (x q1 b1 q3 v b5 q6 b7 q8 q9 i : Nat) : nI (cl_X0 x q1 b1 q3 v b5 q6 b7 q8 q9 (100 + 2 * i)) = 0 := by
  rw [show cl_X0 x q1 b1 q3 v b5 q6 b7 q8 q9 (100 + 2 * i) = 0 from if_pos (by omega)]
  rfl
theorem cl_X0_v (x q1 b1 q3 v b5 q6 b7 q8 q9 i k : Nat) : lN (cl_X0 x q1 b1 q3 v b5 q6 b7 q8 q9 (101 + 2 * (64 * i + k))) = 0 := by
  rw [show cl_X0 x q1 b1 q3 v b5 q6 b7 q8 q9 (101 + 2 * (64 * i + k)) = 0 from if_pos (by omega)]
  rfl
theorem cl_t0_none {x q1 b1 q3 v b5 q6 b7 q8 q9 a : Nat} (h : cl_t0 x q1 b1 q3 v b5 q6 b7 q8 q9 a = none) : a ≠ x ∧ a ≠ q1 ∧ a ≠ b1 ∧ a ≠ q3 ∧ a ≠ v ∧ a ≠ b5 ∧ a ≠ q6 ∧ a ≠ b7 ∧ a ≠ q8 ∧ a ≠ q9 ∧ ¬ (v < a ∧ a ≤ v + 16) := by
  unfold cl_t0 at h
  by_cases zx : a = x
  · rw [if_pos zx] at h; cases h
  rw [if_neg zx] at h
  by_cases zq1 : a = q1
  · rw [if_pos zq1] at h; cases h
  rw [if_neg zq1] at h
  by_cases zb1 : a = b1
  · rw [if_pos zb1] at h; cases h
  rw [if_neg zb1] at h
  by_cases zq3 : a = q3
  · rw [if_pos zq3] at h; cases h
  rw [if_neg zq3] at h
  by_cases zv : a = v
  · rw [if_pos zv] at h; cases h
  rw [if_neg zv] at h
  by_cases zb5 : a = b5
  · rw [if_pos zb5] at h; cases h
  rw [if_neg zb5] at h
  by_cases zq6 : a = q6
  · rw [if_pos zq6] at h; cases h
  rw [if_neg zq6] at h
  by_cases zb7 : a = b7
  · rw [if_pos zb7] at h; cases h
  rw [if_neg zb7] at h
  by_cases zq8 : a = q8
  · rw [if_pos zq8] at h; cases h
  rw [if_neg zq8] at h
  by_cases zq9 : a = q9
  · rw [if_pos zq9] at h; cases h
  rw [if_neg zq9] at h
  by_cases zr : v < a ∧ a ≤ v + 16
  · rw [if_pos zr] at h; cases h
  exact ⟨zx, zq1, zb1, zq3, zv, zb5, zq6, zb7, zq8, zq9, zr⟩
theorem cl_t0_some {x q1 b1 q3 v b5 q6 b7 q8 q9 a : Nat} {k : Nat × Nat} (h : cl_t0 x q1 b1 q3 v b5 q6 b7 q8 q9 a = some k) : k.2 = 0 ∧ (k.1 < 10 ∨ (20 ≤ k.1 ∧ k.1 < 36)) ∧ a = cl_X0 x q1 b1 q3 v b5 q6 b7 q8 q9 k.1 := by
  unfold cl_t0 at h
  by_cases zx : a = x
  · rw [if_pos zx] at h; cases h; exact ⟨rfl, by decide, zx⟩
  rw [if_neg zx] at h
  by_cases zq1 : a = q1
  · rw [if_pos zq1] at h; cases h; exact ⟨rfl, by decide, zq1⟩
  rw [if_neg zq1] at h
  by_cases zb1 : a = b1
  · rw [if_pos zb1] at h; cases h; exact ⟨rfl, by decide, zb1⟩
  rw [if_neg zb1] at h
  by_cases zq3 : a = q3
  · rw [if_pos zq3] at h; cases h; exact ⟨rfl, by decide, zq3⟩
  rw [if_neg zq3] at h
  by_cases zv : a = v
  · rw [if_pos zv] at h; cases h; exact ⟨rfl, by decide, zv⟩
  rw [if_neg zv] at h
  by_cases zb5 : a = b5
  · rw [if_pos zb5] at h; cases h; exact ⟨rfl, by decide, zb5⟩
  rw [if_neg zb5] at h
  by_cases zq6 : a = q6
  · rw [if_pos zq6] at h; cases h; exact ⟨rfl, by decide, zq6⟩
  rw [if_neg zq6] at h
  by_cases zb7 : a = b7
  · rw [if_pos zb7] at h; cases h; exact ⟨rfl, by decide, zb7⟩
  rw [if_neg zb7] at h
  by_cases zq8 : a = q8
  · rw [if_pos zq8] at h; cases h; exact ⟨rfl, by decide, zq8⟩
  rw [if_neg zq8] at h
  by_cases zq9 : a = q9
  · rw [if_pos zq9] at h; cases h; exact ⟨rfl, by decide, zq9⟩
  rw [if_neg zq9] at h
  by_cases zr : v < a ∧ a ≤ v + 16
  · rw [if_pos zr] at h
    cases h
    refine ⟨rfl, Or.inr ⟨by show 20 ≤ 20 + _; omega, by show 20 + (a - v - 1) < 36; omega⟩, ?_⟩
    show a = cl_X0 x q1 b1 q3 v b5 q6 b7 q8 q9 (20 + (a - v - 1))
    unfold cl_X0
    rw [if_neg (by omega), if_neg (by omega), if_neg (by omega), if_neg (by omega), if_neg (by omega), if_neg (by omega), if_neg (by omega), if_neg (by omega), if_neg (by omega), if_neg (by omega), if_neg (by omega)]
    omega
  · rw [if_neg zr] at h; cases h
theorem cl_t0_X {x q1 b1 q3 v b5 q6 b7 q8 q9 : Nat} (hn : [q9, q8, b7, q6, b5, v, q3, b1, q1, x].Nodup) (hr : ∀ a ∈ [x, q1, b1, q3, v, b5, q6, b7, q8, q9], ¬ (v < a ∧ a ≤ v + 16)) : ∀ k, (k < 10 ∨ (20 ≤ k ∧ k < 36)) → cl_t0 x q1 b1 q3 v b5 q6 b7 q8 q9 (cl_X0 x q1 b1 q3 v b5 q6 b7 q8 q9 k) = some (k, 0) := by
  simp only [List.nodup_cons, List.mem_cons, List.not_mem_nil, or_false, not_or, not_false_eq_true, List.nodup_nil, and_true] at hn
  obtain ⟨⟨n_q9_q8, n_q9_b7, n_q9_q6, n_q9_b5, n_q9_v, n_q9_q3, n_q9_b1, n_q9_q1, n_q9_x⟩, ⟨n_q8_b7, n_q8_q6, n_q8_b5, n_q8_v, n_q8_q3, n_q8_b1, n_q8_q1, n_q8_x⟩, ⟨n_b7_q6, n_b7_b5, n_b7_v, n_b7_q3, n_b7_b1, n_b7_q1, n_b7_x⟩, ⟨n_q6_b5, n_q6_v, n_q6_q3, n_q6_b1, n_q6_q1, n_q6_x⟩, ⟨n_b5_v, n_b5_q3, n_b5_b1, n_b5_q1, n_b5_x⟩, ⟨n_v_q3, n_v_b1, n_v_q1, n_v_x⟩, ⟨n_q3_b1, n_q3_q1, n_q3_x⟩, ⟨n_b1_q1, n_b1_x⟩, n_q1_x⟩ := hn
  have hr9 : ∀ a ∈ [x, q1, b1, q3, v, b5, q6, b7, q8, q9], ∀ k, 20 ≤ k → k < 36 → v + 1 + (k - 20) ≠ a := fun a ha k h1 h2 z => hr a ha ⟨by omega, by omega⟩
  intro k hk
  unfold cl_t0
  by_cases z0 : k = 0
  · subst z0
    rw [show cl_X0 x q1 b1 q3 v b5 q6 b7 q8 q9 0 = x from rfl]
    rw [if_pos rfl]
  by_cases z1 : k = 1
  · subst z1
    rw [show cl_X0 x q1 b1 q3 v b5 q6 b7 q8 q9 1 = q1 from rfl]
    rw [if_neg n_q1_x, if_pos rfl]
  by_cases z2 : k = 2
  · subst z2
    rw [show cl_X0 x q1 b1 q3 v b5 q6 b7 q8 q9 2 = b1 from rfl]
    rw [if_neg n_b1_x, if_neg n_b1_q1, if_pos rfl]
  by_cases z3 : k = 3
  · subst z3
    rw [show cl_X0 x q1 b1 q3 v b5 q6 b7 q8 q9 3 = q3 from rfl]
    rw [if_neg n_q3_x, if_neg n_q3_q1, if_neg n_q3_b1, if_pos rfl]
  by_cases z4 : k = 4
  · subst z4
    rw [show cl_X0 x q1 b1 q3 v b5 q6 b7 q8 q9 4 = v from rfl]
    rw [if_neg n_v_x, if_neg n_v_q1, if_neg n_v_b1, if_neg n_v_q3, if_pos rfl]
  by_cases z5 : k = 5
  · subst z5
    rw [show cl_X0 x q1 b1 q3 v b5 q6 b7 q8 q9 5 = b5 from rfl]
    rw [if_neg n_b5_x, if_neg n_b5_q1, if_neg n_b5_b1, if_neg n_b5_q3, if_neg n_b5_v, if_pos rfl]
  by_cases z6 : k = 6
  · subst z6
    rw [show cl_X0 x q1 b1 q3 v b5 q6 b7 q8 q9 6 = q6 from rfl]
    rw [if_neg n_q6_x, if_neg n_q6_q1, if_neg n_q6_b1, if_neg n_q6_q3, if_neg n_q6_v, if_neg n_q6_b5, if_pos rfl]
  by_cases z7 : k = 7
  · subst z7
    rw [show cl_X0 x q1 b1 q3 v b5 q6 b7 q8 q9 7 = b7 from rfl]
    rw [if_neg n_b7_x, if_neg n_b7_q1, if_neg n_b7_b1, if_neg n_b7_q3, if_neg n_b7_v, if_neg n_b7_b5, if_neg n_b7_q6, if_pos rfl]
  by_cases z8 : k = 8
  · subst z8
    rw [show cl_X0 x q1 b1 q3 v b5 q6 b7 q8 q9 8 = q8 from rfl]
    rw [if_neg n_q8_x, if_neg n_q8_q1, if_neg n_q8_b1, if_neg n_q8_q3, if_neg n_q8_v, if_neg n_q8_b5, if_neg n_q8_q6, if_neg n_q8_b7, if_pos rfl]
  by_cases z9 : k = 9
  · subst z9
    rw [show cl_X0 x q1 b1 q3 v b5 q6 b7 q8 q9 9 = q9 from rfl]
    rw [if_neg n_q9_x, if_neg n_q9_q1, if_neg n_q9_b1, if_neg n_q9_q3, if_neg n_q9_v, if_neg n_q9_b5, if_neg n_q9_q6, if_neg n_q9_b7, if_neg n_q9_q8, if_pos rfl]
  have h1 : 20 ≤ k ∧ k < 36 := by omega
  have hX : cl_X0 x q1 b1 q3 v b5 q6 b7 q8 q9 k = v + 1 + (k - 20) := by
    unfold cl_X0
    rw [if_neg (by omega), if_neg z0, if_neg z1, if_neg z2, if_neg z3, if_neg z4, if_neg z5, if_neg z6, if_neg z7, if_neg z8, if_neg z9]
  rw [hX, if_neg (hr9 x (by simp) k h1.1 h1.2), if_neg (hr9 q1 (by simp) k h1.1 h1.2), if_neg (hr9 b1 (by simp) k h1.1 h1.2), if_neg (hr9 q3 (by simp) k h1.1 h1.2), if_neg (hr9 v (by simp) k h1.1 h1.2), if_neg (hr9 b5 (by simp) k h1.1 h1.2), if_neg (hr9 q6 (by simp) k h1.1 h1.2), if_neg (hr9 b7 (by simp) k h1.1 h1.2), if_neg (hr9 q8 (by simp) k h1.1 h1.2), if_neg (hr9 q9 (by simp) k h1.1 h1.2), if_pos ⟨by omega, by omega⟩, show 20 + (v + 1 + (k - 20) - v - 1) = k by omega]
theorem cl_make {E : hs_E} {t : cl_t} {X : Nat → Nat} {G : hs_G} (hA : ∀ k, (k < 10 ∨ (20 ≤ k ∧ k < 36)) → t (X k) = some (k, 0)) (hB : ∀ a k, t a = some k → k.2 = 0 ∧ (k.1 < 10 ∨ (20 ≤ k.1 ∧ k.1 < 36)) ∧ a = X k.1) (hs : ∀ k, (k < 10 ∨ (20 ≤ k ∧ k < 36)) → (eH E).size ≤ X k) (hS : cl_S E G)
    (c0 : G (X 0) = some (.inr (8, [.ref (X 1), .ref (X 3), .ref (X 6), .ref (X 8), .ref (X 9)]))) (c1 : G (X 1) = some (.inr (1, [.ref (X 2), .int (nI 0)]))) (c2 : G (X 2) = some (.inl (eA E 0, 626, .inl (fun i => nI (X (100 + 2 * i)))))) (c3 : G (X 3) = some (.inr (7, [.ref (X 4), .ref (X 5)]))) (c4 : G (X 4) = some (hs_ra (eA E 3) 16 (fun i => if i < 16 then some (X (20 + i)) else none))) (c5 : ∀ k, (k = 5 ∨ (20 ≤ k ∧ k < 36)) → G (X k) = some (.inl (eA E 1, 9, .inr (.inl (fun i => lN (X (101 + 2 * (64 * i + k)))))))) (c6 : G (X 6) = some (.inr (3, [.ref (X 7), .int (nI 0)]))) (c7 : ∃ f : Nat → Int32, G (X 7) = some (.inl (eA E 0, 6000, .inl f))) (c8 : G (X 8) = some (al_o 0 (eE E) (nI 0))) (c9 : G (X 9) = some (al_o 0 (eE E) (nI 0))) : cl_T E t (fun _ => 0) X 0 G := by
  have hl : ∀ L mx el, G L = some (al_o 0 (eE E) (nI 0)) → cl_L E t (fun _ => 0) G L mx el := fun L mx el h => by
    obtain ⟨f, hf⟩ := hS.2.2.1
    exact ⟨0, eE E, 0, f, h, hf, Nat.le_refl _, Nat.zero_le _, Nat.zero_le _, fun j hj => absurd hj (Nat.not_lt_zero _), Or.inl ⟨rfl, rfl⟩⟩
  refine ⟨fun a k hk => ?_, hA, fun a k hk _ => (hB a k hk).2.2, hS, Nat.zero_le _, fun a k hk => ?_⟩
  · obtain ⟨-, h2, rfl⟩ := hB a k hk
    obtain ⟨k, o⟩ := k
    replace h2 : k < 10 ∨ (20 ≤ k ∧ k < 36) := h2
    refine ⟨hs k h2, ⟨?_, ?_, ?_, ?_, ?_, fun z => c5 k z, ?_, ?_, fun z => ?_, fun z => ?_, fun z => ?_, fun z => ?_⟩, ⟨?_, ?_, fun z => ?_⟩, cl_q.no ⟨show k ≠ 50 by omega, show k ≠ 54 by omega⟩⟩
    · rintro rfl; exact c0
    · rintro rfl; exact c1
    · rintro rfl; exact c2
    · rintro rfl; exact c3
    · rintro rfl; exact c4
    · rintro rfl; exact ⟨0, by decide, c6⟩
    · rintro rfl; exact c7
    · exact absurd z (show ¬ k = 50 by omega)
    · exact absurd z (show ¬ k = 51 by omega)
    · exact absurd z (show ¬ k = 52 by omega)
    · exact absurd z (show ¬ k = 53 by omega)
    · rintro rfl; exact hl _ _ _ c8
    · rintro rfl; exact hl _ _ _ c9
    · exact absurd z (show ¬ k = 54 by omega)
  · obtain ⟨-, h2, rfl⟩ := hB a k hk
    obtain ⟨k, o⟩ := k
    replace h2 : k < 10 ∨ (20 ≤ k ∧ k < 36) := h2
    show G (X k) ≠ none
    by_cases z : k = 5 ∨ (20 ≤ k ∧ k < 36)
    · rw [c5 k z]; exact fun z => nomatch z
    · obtain ⟨f7, c7⟩ := c7
      rcases (show k = 0 ∨ k = 1 ∨ k = 2 ∨ k = 3 ∨ k = 4 ∨ k = 6 ∨ k = 7 ∨ k = 8 ∨ k = 9 by omega) with rfl | rfl | rfl | rfl | rfl | rfl | rfl | rfl | rfl
      · rw [c0]; exact fun z => nomatch z
      · rw [c1]; exact fun z => nomatch z
      · rw [c2]; exact fun z => nomatch z
      · rw [c3]; exact fun z => nomatch z
      · rw [c4]; exact fun z => nomatch z
      · rw [c6]; exact fun z => nomatch z
      · rw [c7]; exact fun z => nomatch z
      · rw [c8]; exact fun z => nomatch z
      · rw [c9]; exact fun z => nomatch z
set_option maxHeartbeats 4000000 in
set_option maxRecDepth 100000 in
/-- the house -/
theorem ct_X7_init (E : hs_E) (G : hs_G) (x : Nat) (hG : G x = some (.inr (8, [.null, .null, .null, .null, .null]))) (hx0 : (eH E).size ≤ x) (hS : cl_S E G) : hM E yX7_init ({ frames := 4, cells := 25, slots := 6807, locals := 130 }) [.ref x] G (hs_V (fun G1 k n => k ≤ 25 ∧ n ≤ 6807 ∧ ∃ (t : cl_t) (cap X : Nat → Nat), X 0 = x ∧ cl_T E t cap X 0 G1 ∧ (∀ q, t q = none → G1 q = G q) ∧ (∀ q k, t q = some k → q = x ∨ G q = none) ∧ ∀ i, X (90 + i) = 0)) := by
  refine hs_ofW (cc := cX7_init) (maxL := 1) (ret := none) (by decide) co_X7_init ?_
  intro p e s m args below meth c hC hlocks hr hin0 hnoh hW
  obtain ⟨hx, hb, hml, hown, hts, -⟩ := id hC
  have hE := hW
  have hL : ∀ q ∈ ([] : List Loc), (eH E).size ≤ q.base := fun q hq => nomatch hq
  have hl := lv_entry ([.ref x] : List Value) (n := 1) (Nat.le_of_ble_eq_true rfl)
  rw [lg_entry_eq]
  generalize (lg_sl [.ref x] ++ List.replicate (1 - (lg_sl [.ref x]).length) Slot.unset).toArray = ls at hl ⊢
  have hl : lv_has ls 1 [(0, .ref x)] := hl
  have hin := hin0 rfl
  refine lv_aload_n hx hb dX7_init_0 rfl (lv_at hl 0 rfl) ?_
  refine W.objInit hx hb hown (hts _ lk_X7_3) (hts _ im_objectInit) (hts _ co_objectInit) rfl (by rw [hml]; exact hl.1) rfl dX7_init_1 (by decide) (Nat.le_of_ble_eq_true rfl) ?_
  refine W.eq (g2 := F0 m 4 ls _) rfl ?_
  refine lv_aload_n hx hb dX7_init_4 rfl (lv_at hl 0 rfl) ?_
  refine hs_new (ci := 1) hC hW hi_X0 tyX0 tyX0_ok lk_X7_9 ib_X0 ii_X0 rfl (fs := [.null, .int 0]) (by decide) (by decide) (by decide) dX7_init_5 (fun q1 H hq1s hfq1 hW => ?_)
  have hg_q1 := hfq1
  have n_q1_x : q1 ≠ x := fun z => by rw [z, hG] at hg_q1; cases hg_q1
  refine lv_dup hx hb dX7_init_8 rfl ?_
  refine hs_callIN hC hs_Tok hW hL (ct_X0_init E _ q1 (hs_up_eq _ _ _) hq1s) cw_X0_init lk_X7_11 im_X0_init rfl hl.1 (by decide) (Nat.le_of_ble_eq_true rfl) dX7_init_9 (hs_kV (fun G2 k2 n2 H locs hI hk hn hW hL => ?_))
  obtain ⟨rfl, rfl, b1, hfb1, hb1s, -, rfl⟩ := hI
  simp only [hs_up_none, hs_ms_none] at hfb1
  obtain ⟨n_b1_q1, hg_b1⟩ := hfb1
  have n_b1_x : b1 ≠ x := fun z => by rw [z, hG] at hg_b1; cases hg_b1
  refine hs_putF hC hW hL hi_X7 tyX7 tyX7_ok nmX7 rfl 0 (by decide) lk_X7_12 rfl rfl hin rfl ((hs_up_ne _ _ n_q1_x.symm).trans ((hs_up_ne _ _ n_b1_x.symm).trans ((hs_up_ne _ _ n_q1_x.symm).trans hG))) hx0 rfl rfl (Nat.le_of_ble_eq_true rfl) dX7_init_12 (fun H locs hW hL => ?_)
  refine lv_aload_n hx hb dX7_init_15 rfl (lv_at hl 0 rfl) ?_
  refine hs_new (ci := 7) hC hW hi_X6 tyX6 tyX6_ok lk_X7_16 ib_X6 ii_X6 rfl (fs := [.null, .null]) (by decide) (by decide) (by decide) dX7_init_16 (fun q3 H hq3s hfq3 hW => ?_)
  simp only [hs_up_none, hs_ms_none] at hfq3
  obtain ⟨n_q3_x, n_q3_q1, n_q3_b1, n_q3_q1, hg_q3⟩ := hfq3
  have n_q3_x : q3 ≠ x := fun z => by rw [z, hG] at hg_q3; cases hg_q3
  refine lv_dup hx hb dX7_init_19 rfl ?_
  refine hs_callIN hC hs_Tok hW hL (ct_X6_init E _ q3 (hs_up_eq _ _ _) hq3s) cw_X6_init lk_X7_18 im_X6_init rfl hl.1 (by decide) (Nat.le_of_ble_eq_true rfl) dX7_init_20 (hs_kV (fun G2 k2 n2 H locs hI hk hn hW hL => ?_))
  obtain ⟨rfl, rfl, v, b5, hfv, hvs, hfb5, hb5s, -, rfl⟩ := hI
  simp only [hs_up_none] at hfv
  have hg_v : ∀ i : Nat, G (v + i) = none := fun i => (hfv i).2.2.2.2.2
  have nv_x : ∀ i : Nat, v + i ≠ x := fun i z => by have := hg_v i; rw [z, hG] at this; cases this
  have nv_q3 : ∀ i : Nat, v + i ≠ q3 := fun i => (hfv i).1
  have nv_q1 : ∀ i : Nat, v + i ≠ q1 := fun i => (hfv i).2.2.1
  have nv_b1 : ∀ i : Nat, v + i ≠ b1 := fun i => (hfv i).2.2.2.1
  have n_v_x : v ≠ x := nv_x 0
  have r_x : ¬ (v < x ∧ x ≤ v + 16) := fun z => nv_x (x - v) (by omega)
  have n_v_q1 : v ≠ q1 := nv_q1 0
  have r_q1 : ¬ (v < q1 ∧ q1 ≤ v + 16) := fun z => nv_q1 (q1 - v) (by omega)
  have n_v_b1 : v ≠ b1 := nv_b1 0
  have r_b1 : ¬ (v < b1 ∧ b1 ≤ v + 16) := fun z => nv_b1 (b1 - v) (by omega)
  have n_v_q3 : v ≠ q3 := nv_q3 0
  have r_q3 : ¬ (v < q3 ∧ q3 ≤ v + 16) := fun z => nv_q3 (q3 - v) (by omega)
  simp only [hs_up_none, hs_ms_none] at hfb5
  obtain ⟨n_b5_v, r_b5, n_b5_q3, n_b5_x, n_b5_q1, n_b5_b1, n_b5_q1, hg_b5⟩ := hfb5
  have n_b5_x : b5 ≠ x := fun z => by rw [z, hG] at hg_b5; cases hg_b5
  refine hs_putF hC hW hL hi_X7 tyX7 tyX7_ok nmX7 rfl 1 (by decide) lk_X7_19 rfl rfl hin rfl ((hs_up_ne _ _ n_q3_x.symm).trans ((hs_up_ne _ _ n_b5_x.symm).trans ((hs_ms_ne n_v_x.symm r_x).trans ((hs_up_ne _ _ n_q3_x.symm).trans (hs_up_eq _ _ _))))) hx0 rfl rfl (Nat.le_of_ble_eq_true rfl) dX7_init_23 (fun H locs hW hL => ?_)
  refine lv_aload_n hx hb dX7_init_26 rfl (lv_at hl 0 rfl) ?_
  refine hs_new (ci := 3) hC hW hi_X2 tyX2 tyX2_ok lk_X7_23 ib_X2 ii_X2 rfl (fs := [.null, .int 0]) (by decide) (by decide) (by decide) dX7_init_27 (fun q6 H hq6s hfq6 hW => ?_)
  simp only [hs_up_none, hs_ms_none] at hfq6
  obtain ⟨n_q6_x, n_q6_q3, n_q6_b5, n_q6_v, r_q6, n_q6_q3, n_q6_x, n_q6_q1, n_q6_b1, n_q6_q1, hg_q6⟩ := hfq6
  have n_q6_x : q6 ≠ x := fun z => by rw [z, hG] at hg_q6; cases hg_q6
  refine lv_dup hx hb dX7_init_30 rfl ?_
  refine hs_callIN hC hs_Tok hW hL (ct_X2_init E _ q6 (hs_up_eq _ _ _) hq6s) cw_X2_init lk_X7_25 im_X2_init rfl hl.1 (by decide) (Nat.le_of_ble_eq_true rfl) dX7_init_31 (hs_kV (fun G2 k2 n2 H locs hI hk hn hW hL => ?_))
  obtain ⟨rfl, rfl, b7, hfb7, hb7s, -, rfl⟩ := hI
  simp only [hs_up_none, hs_ms_none] at hfb7
  obtain ⟨n_b7_q6, n_b7_x, n_b7_q3, n_b7_b5, n_b7_v, r_b7, n_b7_q3, n_b7_x, n_b7_q1, n_b7_b1, n_b7_q1, hg_b7⟩ := hfb7
  have n_b7_x : b7 ≠ x := fun z => by rw [z, hG] at hg_b7; cases hg_b7
  refine hs_putF hC hW hL hi_X7 tyX7 tyX7_ok nmX7 rfl 2 (by decide) lk_X7_26 rfl rfl hin rfl ((hs_up_ne _ _ n_q6_x.symm).trans ((hs_up_ne _ _ n_b7_x.symm).trans ((hs_up_ne _ _ n_q6_x.symm).trans (hs_up_eq _ _ _)))) hx0 rfl rfl (Nat.le_of_ble_eq_true rfl) dX7_init_34 (fun H locs hW hL => ?_)
  refine lv_aload_n hx hb dX7_init_37 rfl (lv_at hl 0 rfl) ?_
  refine hs_new (ci := 0) hC hW hi_Jx4a65c tyJx4a65c tyJx4a65c_ok lk_X7_30 ib_Jx4a65c ii_Jx4a65c rfl (fs := [.int 0, .null, .int 0]) (by decide) (by decide) (by decide) dX7_init_38 (fun q8 H hq8s hfq8 hW => ?_)
  simp only [hs_up_none, hs_ms_none] at hfq8
  obtain ⟨n_q8_x, n_q8_q6, n_q8_b7, n_q8_q6, n_q8_x, n_q8_q3, n_q8_b5, n_q8_v, r_q8, n_q8_q3, n_q8_x, n_q8_q1, n_q8_b1, n_q8_q1, hg_q8⟩ := hfq8
  have n_q8_x : q8 ≠ x := fun z => by rw [z, hG] at hg_q8; cases hg_q8
  refine lv_dup hx hb dX7_init_41 rfl ?_
  refine hs_callI hC hs_Tok hW hL (ct_alInit E _ q8 (hs_up_eq _ _ _) hq8s) cw_Jx4a65c_init_da8c8 lk_X7_32 im_Jx4a65c_init_da8c8 rfl hl.1 (by decide) (Nat.le_of_ble_eq_true rfl) dX7_init_42 (hs_kV (fun G2 k2 n2 H locs hI hk hn hW hL => ?_))
  obtain ⟨rfl, rfl, rfl⟩ := hI
  refine hs_putF hC hW hL hi_X7 tyX7 tyX7_ok nmX7 rfl 3 (by decide) lk_X7_33 rfl rfl hin rfl ((hs_up_ne _ _ n_q8_x.symm).trans ((hs_up_ne _ _ n_q8_x.symm).trans (hs_up_eq _ _ _))) hx0 rfl rfl (Nat.le_of_ble_eq_true rfl) dX7_init_45 (fun H locs hW hL => ?_)
  refine lv_aload_n hx hb dX7_init_48 rfl (lv_at hl 0 rfl) ?_
  refine hs_new (ci := 0) hC hW hi_Jx4a65c tyJx4a65c tyJx4a65c_ok lk_X7_30 ib_Jx4a65c ii_Jx4a65c rfl (fs := [.int 0, .null, .int 0]) (by decide) (by decide) (by decide) dX7_init_49 (fun q9 H hq9s hfq9 hW => ?_)
  simp only [hs_up_none, hs_ms_none] at hfq9
  obtain ⟨n_q9_x, n_q9_q8, n_q9_q8, n_q9_x, n_q9_q6, n_q9_b7, n_q9_q6, n_q9_x, n_q9_q3, n_q9_b5, n_q9_v, r_q9, n_q9_q3, n_q9_x, n_q9_q1, n_q9_b1, n_q9_q1, hg_q9⟩ := hfq9
  have n_q9_x : q9 ≠ x := fun z => by rw [z, hG] at hg_q9; cases hg_q9
  refine lv_dup hx hb dX7_init_52 rfl ?_
  refine hs_callI hC hs_Tok hW hL (ct_alInit E _ q9 (hs_up_eq _ _ _) hq9s) cw_Jx4a65c_init_da8c8 lk_X7_32 im_Jx4a65c_init_da8c8 rfl hl.1 (by decide) (Nat.le_of_ble_eq_true rfl) dX7_init_53 (hs_kV (fun G2 k2 n2 H locs hI hk hn hW hL => ?_))
  obtain ⟨rfl, rfl, rfl⟩ := hI
  refine hs_putF hC hW hL hi_X7 tyX7 tyX7_ok nmX7 rfl 4 (by decide) lk_X7_37 rfl rfl hin rfl ((hs_up_ne _ _ n_q9_x.symm).trans ((hs_up_ne _ _ n_q9_x.symm).trans (hs_up_eq _ _ _))) hx0 rfl rfl (Nat.le_of_ble_eq_true rfl) dX7_init_56 (fun H locs hW hL => ?_)
  have hn9 : [q9, q8, b7, q6, b5, v, q3, b1, q1, x].Nodup := by
    simp only [List.nodup_cons, List.mem_cons, List.not_mem_nil, or_false, not_or, not_false_eq_true, List.nodup_nil, and_true]
    exact ⟨⟨n_q9_q8, n_q9_b7, n_q9_q6, n_q9_b5, n_q9_v, n_q9_q3, n_q9_b1, n_q9_q1, n_q9_x⟩, ⟨n_q8_b7, n_q8_q6, n_q8_b5, n_q8_v, n_q8_q3, n_q8_b1, n_q8_q1, n_q8_x⟩, ⟨n_b7_q6, n_b7_b5, n_b7_v, n_b7_q3, n_b7_b1, n_b7_q1, n_b7_x⟩, ⟨n_q6_b5, n_q6_v, n_q6_q3, n_q6_b1, n_q6_q1, n_q6_x⟩, ⟨n_b5_v, n_b5_q3, n_b5_b1, n_b5_q1, n_b5_x⟩, ⟨n_v_q3, n_v_b1, n_v_q1, n_v_x⟩, ⟨n_q3_b1, n_q3_q1, n_q3_x⟩, ⟨n_b1_q1, n_b1_x⟩, n_q1_x⟩
  have hr9 : ∀ a ∈ [x, q1, b1, q3, v, b5, q6, b7, q8, q9], ¬ (v < a ∧ a ≤ v + 16) := by
    intro a ha
    simp only [List.mem_cons, List.not_mem_nil, or_false] at ha
    rcases ha with rfl | rfl | rfl | rfl | rfl | rfl | rfl | rfl | rfl | rfl
    · exact r_x
    · exact r_q1
    · exact r_b1
    · exact r_q3
    · exact fun z => absurd z.1 (Nat.lt_irrefl _)
    · exact r_b5
    · exact r_q6
    · exact r_b7
    · exact r_q8
    · exact r_q9
  have hrow : ∀ a : Nat, ¬ (v < a ∧ a ≤ v + 16) → ∀ {k : Nat}, v < k ∧ k ≤ v + 16 → k ≠ a := fun a h k hk z => h (z ▸ hk)
  have hold : ∀ a : Nat, (eH E).size ≤ a → ∀ {q : Nat}, q < (eH E).size → q ≠ a := fun a h q hq z => by omega
  refine hs_vret hC hW hL hr hlocks (by decide) (by decide) dX7_init_59 ⟨rfl, by decide, by decide, (cl_t0 x q1 b1 q3 v b5 q6 b7 q8 q9), fun _ => 0, (cl_X0 x q1 b1 q3 v b5 q6 b7 q8 q9), rfl, ?_, fun q hq => ?_, fun q k hq => ?_, fun i => cl_X0_hi _ _ _ _ _ _ _ _ _ _ _⟩
  · refine cl_make (cl_t0_X hn9 hr9) (fun a k h => cl_t0_some h) ?_ ?_ ?_ ?_ ?_ ?_ ?_ (fun k hk => ?_) ?_ ⟨fun _ => 0, ?_⟩ ?_ ?_
    · intro k hk
      unfold cl_X0
      rw [if_neg (by omega)]
      by_cases z0 : k = 0
      · rw [if_pos z0]; exact hx0
      rw [if_neg z0]
      by_cases z1 : k = 1
      · rw [if_pos z1]; exact hq1s
      rw [if_neg z1]
      by_cases z2 : k = 2
      · rw [if_pos z2]; exact hb1s
      rw [if_neg z2]
      by_cases z3 : k = 3
      · rw [if_pos z3]; exact hq3s
      rw [if_neg z3]
      by_cases z4 : k = 4
      · rw [if_pos z4]; exact hvs
      rw [if_neg z4]
      by_cases z5 : k = 5
      · rw [if_pos z5]; exact hb5s
      rw [if_neg z5]
      by_cases z6 : k = 6
      · rw [if_pos z6]; exact hq6s
      rw [if_neg z6]
      by_cases z7 : k = 7
      · rw [if_pos z7]; exact hb7s
      rw [if_neg z7]
      by_cases z8 : k = 8
      · rw [if_pos z8]; exact hq8s
      rw [if_neg z8]
      by_cases z9 : k = 9
      · rw [if_pos z9]; exact hq9s
      rw [if_neg z9]
      omega
    · obtain ⟨s1, s2, ⟨s3, s4⟩, s5, s6, s7⟩ := hS
      exact ⟨s1, s2, ⟨s3, by rw [← s4]; exact ((hs_up_ne _ _ (hold _ hx0 s1)).trans ((hs_up_ne _ _ (hold _ hq9s s1)).trans ((hs_up_ne _ _ (hold _ hq9s s1)).trans ((hs_up_ne _ _ (hold _ hx0 s1)).trans ((hs_up_ne _ _ (hold _ hq8s s1)).trans ((hs_up_ne _ _ (hold _ hq8s s1)).trans ((hs_up_ne _ _ (hold _ hx0 s1)).trans ((hs_up_ne _ _ (hold _ hq6s s1)).trans ((hs_up_ne _ _ (hold _ hb7s s1)).trans ((hs_up_ne _ _ (hold _ hq6s s1)).trans ((hs_up_ne _ _ (hold _ hx0 s1)).trans ((hs_up_ne _ _ (hold _ hq3s s1)).trans ((hs_up_ne _ _ (hold _ hb5s s1)).trans ((hs_ms_ne (hold _ hvs s1) (fun z => by have := z.1; omega)).trans ((hs_up_ne _ _ (hold _ hq3s s1)).trans ((hs_up_ne _ _ (hold _ hx0 s1)).trans ((hs_up_ne _ _ (hold _ hq1s s1)).trans ((hs_up_ne _ _ (hold _ hb1s s1)).trans ((hs_up_ne _ _ (hold _ hq1s s1)).trans rfl)))))))))))))))))))⟩, s5, by rw [← s6]; exact ((hs_up_ne _ _ (hold _ hx0 s2)).trans ((hs_up_ne _ _ (hold _ hq9s s2)).trans ((hs_up_ne _ _ (hold _ hq9s s2)).trans ((hs_up_ne _ _ (hold _ hx0 s2)).trans ((hs_up_ne _ _ (hold _ hq8s s2)).trans ((hs_up_ne _ _ (hold _ hq8s s2)).trans ((hs_up_ne _ _ (hold _ hx0 s2)).trans ((hs_up_ne _ _ (hold _ hq6s s2)).trans ((hs_up_ne _ _ (hold _ hb7s s2)).trans ((hs_up_ne _ _ (hold _ hq6s s2)).trans ((hs_up_ne _ _ (hold _ hx0 s2)).trans ((hs_up_ne _ _ (hold _ hq3s s2)).trans ((hs_up_ne _ _ (hold _ hb5s s2)).trans ((hs_ms_ne (hold _ hvs s2) (fun z => by have := z.1; omega)).trans ((hs_up_ne _ _ (hold _ hq3s s2)).trans ((hs_up_ne _ _ (hold _ hx0 s2)).trans ((hs_up_ne _ _ (hold _ hq1s s2)).trans ((hs_up_ne _ _ (hold _ hb1s s2)).trans ((hs_up_ne _ _ (hold _ hq1s s2)).trans rfl))))))))))))))))))), s7⟩
    · exact (hs_up_eq _ _ _)
    · exact ((hs_up_ne _ _ n_q1_x).trans ((hs_up_ne _ _ n_q9_q1.symm).trans ((hs_up_ne _ _ n_q9_q1.symm).trans ((hs_up_ne _ _ n_q1_x).trans ((hs_up_ne _ _ n_q8_q1.symm).trans ((hs_up_ne _ _ n_q8_q1.symm).trans ((hs_up_ne _ _ n_q1_x).trans ((hs_up_ne _ _ n_q6_q1.symm).trans ((hs_up_ne _ _ n_b7_q1.symm).trans ((hs_up_ne _ _ n_q6_q1.symm).trans ((hs_up_ne _ _ n_q1_x).trans ((hs_up_ne _ _ n_q3_q1.symm).trans ((hs_up_ne _ _ n_b5_q1.symm).trans ((hs_ms_ne n_v_q1.symm r_q1).trans ((hs_up_ne _ _ n_q3_q1.symm).trans ((hs_up_ne _ _ n_q1_x).trans (hs_up_eq _ _ _)))))))))))))))))
    · simp only [cl_X0_b]
      exact ((hs_up_ne _ _ n_b1_x).trans ((hs_up_ne _ _ n_q9_b1.symm).trans ((hs_up_ne _ _ n_q9_b1.symm).trans ((hs_up_ne _ _ n_b1_x).trans ((hs_up_ne _ _ n_q8_b1.symm).trans ((hs_up_ne _ _ n_q8_b1.symm).trans ((hs_up_ne _ _ n_b1_x).trans ((hs_up_ne _ _ n_q6_b1.symm).trans ((hs_up_ne _ _ n_b7_b1.symm).trans ((hs_up_ne _ _ n_q6_b1.symm).trans ((hs_up_ne _ _ n_b1_x).trans ((hs_up_ne _ _ n_q3_b1.symm).trans ((hs_up_ne _ _ n_b5_b1.symm).trans ((hs_ms_ne n_v_b1.symm r_b1).trans ((hs_up_ne _ _ n_q3_b1.symm).trans ((hs_up_ne _ _ n_b1_x).trans ((hs_up_ne _ _ n_b1_q1).trans (hs_up_eq _ _ _))))))))))))))))))
    · exact ((hs_up_ne _ _ n_q3_x).trans ((hs_up_ne _ _ n_q9_q3.symm).trans ((hs_up_ne _ _ n_q9_q3.symm).trans ((hs_up_ne _ _ n_q3_x).trans ((hs_up_ne _ _ n_q8_q3.symm).trans ((hs_up_ne _ _ n_q8_q3.symm).trans ((hs_up_ne _ _ n_q3_x).trans ((hs_up_ne _ _ n_q6_q3.symm).trans ((hs_up_ne _ _ n_b7_q3.symm).trans ((hs_up_ne _ _ n_q6_q3.symm).trans ((hs_up_ne _ _ n_q3_x).trans (hs_up_eq _ _ _))))))))))))
    · rw [show (fun i : Nat => if i < 16 then some (cl_X0 x q1 b1 q3 v b5 q6 b7 q8 q9 (20 + i)) else none) = (fun i : Nat => if i < 16 then some (v + 1 + i) else none) from funext fun i => by (by_cases hi : i < 16; rw [if_pos hi, if_pos hi, cl_X0_row _ _ _ _ _ _ _ _ _ _ _ hi]; rw [if_neg hi, if_neg hi])]
      exact ((hs_up_ne _ _ n_v_x).trans ((hs_up_ne _ _ n_q9_v.symm).trans ((hs_up_ne _ _ n_q9_v.symm).trans ((hs_up_ne _ _ n_v_x).trans ((hs_up_ne _ _ n_q8_v.symm).trans ((hs_up_ne _ _ n_q8_v.symm).trans ((hs_up_ne _ _ n_v_x).trans ((hs_up_ne _ _ n_q6_v.symm).trans ((hs_up_ne _ _ n_b7_v.symm).trans ((hs_up_ne _ _ n_q6_v.symm).trans ((hs_up_ne _ _ n_v_x).trans ((hs_up_ne _ _ n_v_q3).trans ((hs_up_ne _ _ n_b5_v.symm).trans hs_ms_o)))))))))))))
    · simp only [cl_X0_v]
      rcases hk with rfl | hk
      · exact ((hs_up_ne _ _ n_b5_x).trans ((hs_up_ne _ _ n_q9_b5.symm).trans ((hs_up_ne _ _ n_q9_b5.symm).trans ((hs_up_ne _ _ n_b5_x).trans ((hs_up_ne _ _ n_q8_b5.symm).trans ((hs_up_ne _ _ n_q8_b5.symm).trans ((hs_up_ne _ _ n_b5_x).trans ((hs_up_ne _ _ n_q6_b5.symm).trans ((hs_up_ne _ _ n_b7_b5.symm).trans ((hs_up_ne _ _ n_q6_b5.symm).trans ((hs_up_ne _ _ n_b5_x).trans ((hs_up_ne _ _ n_b5_q3).trans (hs_up_eq _ _ _)))))))))))))
      · rw [show cl_X0 x q1 b1 q3 v b5 q6 b7 q8 q9 k = v + 1 + (k - 20) by unfold cl_X0; rw [if_neg (by omega), if_neg (by omega), if_neg (by omega), if_neg (by omega), if_neg (by omega), if_neg (by omega), if_neg (by omega), if_neg (by omega), if_neg (by omega), if_neg (by omega), if_neg (by omega)]]
        have hk2 : v < v + 1 + (k - 20) ∧ v + 1 + (k - 20) ≤ v + 16 := by omega
        exact ((hs_up_ne _ _ (hrow _ r_x hk2)).trans ((hs_up_ne _ _ (hrow _ r_q9 hk2)).trans ((hs_up_ne _ _ (hrow _ r_q9 hk2)).trans ((hs_up_ne _ _ (hrow _ r_x hk2)).trans ((hs_up_ne _ _ (hrow _ r_q8 hk2)).trans ((hs_up_ne _ _ (hrow _ r_q8 hk2)).trans ((hs_up_ne _ _ (hrow _ r_x hk2)).trans ((hs_up_ne _ _ (hrow _ r_q6 hk2)).trans ((hs_up_ne _ _ (hrow _ r_b7 hk2)).trans ((hs_up_ne _ _ (hrow _ r_q6 hk2)).trans ((hs_up_ne _ _ (hrow _ r_x hk2)).trans ((hs_up_ne _ _ (hrow _ r_q3 hk2)).trans ((hs_up_ne _ _ (hrow _ r_b5 hk2)).trans (hs_ms_r hk2))))))))))))))
    · exact ((hs_up_ne _ _ n_q6_x).trans ((hs_up_ne _ _ n_q9_q6.symm).trans ((hs_up_ne _ _ n_q9_q6.symm).trans ((hs_up_ne _ _ n_q6_x).trans ((hs_up_ne _ _ n_q8_q6.symm).trans ((hs_up_ne _ _ n_q8_q6.symm).trans ((hs_up_ne _ _ n_q6_x).trans (hs_up_eq _ _ _))))))))
    · exact ((hs_up_ne _ _ n_b7_x).trans ((hs_up_ne _ _ n_q9_b7.symm).trans ((hs_up_ne _ _ n_q9_b7.symm).trans ((hs_up_ne _ _ n_b7_x).trans ((hs_up_ne _ _ n_q8_b7.symm).trans ((hs_up_ne _ _ n_q8_b7.symm).trans ((hs_up_ne _ _ n_b7_x).trans ((hs_up_ne _ _ n_b7_q6).trans (hs_up_eq _ _ _)))))))))
    · exact ((hs_up_ne _ _ n_q8_x).trans ((hs_up_ne _ _ n_q9_q8.symm).trans ((hs_up_ne _ _ n_q9_q8.symm).trans ((hs_up_ne _ _ n_q8_x).trans (hs_up_eq _ _ _)))))
    · exact ((hs_up_ne _ _ n_q9_x).trans (hs_up_eq _ _ _))
  · obtain ⟨z_x, z_q1, z_b1, z_q3, z_v, z_b5, z_q6, z_b7, z_q8, z_q9, z_r⟩ := cl_t0_none hq
    exact ((hs_up_ne _ _ z_x).trans ((hs_up_ne _ _ z_q9).trans ((hs_up_ne _ _ z_q9).trans ((hs_up_ne _ _ z_x).trans ((hs_up_ne _ _ z_q8).trans ((hs_up_ne _ _ z_q8).trans ((hs_up_ne _ _ z_x).trans ((hs_up_ne _ _ z_q6).trans ((hs_up_ne _ _ z_b7).trans ((hs_up_ne _ _ z_q6).trans ((hs_up_ne _ _ z_x).trans ((hs_up_ne _ _ z_q3).trans ((hs_up_ne _ _ z_b5).trans ((hs_ms_ne z_v z_r).trans ((hs_up_ne _ _ z_q3).trans ((hs_up_ne _ _ z_x).trans ((hs_up_ne _ _ z_q1).trans ((hs_up_ne _ _ z_b1).trans ((hs_up_ne _ _ z_q1).trans rfl)))))))))))))))))))
  · obtain ⟨-, h2, h3⟩ := cl_t0_some hq
    unfold cl_X0 at h3
    rw [if_neg (by omega)] at h3
    by_cases z0 : k.1 = 0
    · rw [if_pos z0] at h3; exact Or.inl h3
    rw [if_neg z0] at h3
    by_cases z1 : k.1 = 1
    · rw [if_pos z1] at h3; rw [h3]; exact Or.inr hg_q1
    rw [if_neg z1] at h3
    by_cases z2 : k.1 = 2
    · rw [if_pos z2] at h3; rw [h3]; exact Or.inr hg_b1
    rw [if_neg z2] at h3
    by_cases z3 : k.1 = 3
    · rw [if_pos z3] at h3; rw [h3]; exact Or.inr hg_q3
    rw [if_neg z3] at h3
    by_cases z4 : k.1 = 4
    · rw [if_pos z4] at h3; rw [h3]; exact Or.inr (hg_v 0)
    rw [if_neg z4] at h3
    by_cases z5 : k.1 = 5
    · rw [if_pos z5] at h3; rw [h3]; exact Or.inr hg_b5
    rw [if_neg z5] at h3
    by_cases z6 : k.1 = 6
    · rw [if_pos z6] at h3; rw [h3]; exact Or.inr hg_q6
    rw [if_neg z6] at h3
    by_cases z7 : k.1 = 7
    · rw [if_pos z7] at h3; rw [h3]; exact Or.inr hg_b7
    rw [if_neg z7] at h3
    by_cases z8 : k.1 = 8
    · rw [if_pos z8] at h3; rw [h3]; exact Or.inr hg_q8
    rw [if_neg z8] at h3
    by_cases z9 : k.1 = 9
    · rw [if_pos z9] at h3; rw [h3]; exact Or.inr hg_q9
    rw [if_neg z9] at h3
    rw [h3, Nat.add_assoc]
    exact Or.inr (hg_v _)
theorem vsum_0 {X : Nat → Nat} {i : Nat} (h : ∀ k, vv X k i = 0) : ∀ n : Nat, vsum X i n = 0
  | 0 => rfl
  | n + 1 => by
    show vsum X i n + (vv X (20 + n) i).toInt = 0
    rw [vsum_0 h n, h]
    rfl
theorem vJ_0 {X : Nat → Nat} (h : ∀ i, X (90 + i) = 0) : vJ X := by
  intro i hi
  have e : ∀ k, vv X k i = 0 := fun k => by
    unfold vv
    rw [show 101 + 2 * (64 * i + k) = 90 + (11 + 2 * (64 * i + k)) by omega, h]
    rfl
  refine ⟨fun p _ => by rw [e]; decide, by rw [vsum_0 e, e]; rfl, by rw [e, show (X 97 : Int) = 0 by rw [show 97 = 90 + 7 from rfl, h]; rfl]; decide⟩
