/-! the vault's numbers: sums, and what a trade moves -/
theorem i64_add {a b : Int64} (h1 : -4611686018427387904 ≤ a.toInt + b.toInt) (h2 : a.toInt + b.toInt ≤ 4611686018427387904) : (a + b).toInt = a.toInt + b.toInt := by
  rw [Int64.toInt_add]
  exact Int.bmod_eq_of_le (by omega) (by omega)
theorem i64_sub {a b : Int64} (h1 : -4611686018427387904 ≤ a.toInt - b.toInt) (h2 : a.toInt - b.toInt ≤ 4611686018427387904) : (a - b).toInt = a.toInt - b.toInt := by
  rw [Int64.toInt_sub]
  exact Int.bmod_eq_of_le (by omega) (by omega)
/-- what the parties below n have of the asset i -/
def vsum (X : Nat → Nat) (i : Nat) : Nat → Int
  | 0 => 0
  | p + 1 => vsum X i p + (vv X (20 + p) i).toInt
/-- nothing is below 0, all of it was funded, and that is at most X 97 -/
def vJ (X : Nat → Nat) : Prop := ∀ i, i < 9 → (∀ p, p < 16 → 0 ≤ (vv X (20 + p) i).toInt) ∧ vsum X i 16 = (vv X 5 i).toInt ∧ (vv X 5 i).toInt ≤ (X 97 : Int)
theorem vsum_nn {X : Nat → Nat} {i : Nat} : ∀ n : Nat, (∀ p, p < n → 0 ≤ (vv X (20 + p) i).toInt) → 0 ≤ vsum X i n
  | 0, _ => Int.le_refl _
  | n + 1, h => by
    have h1 := vsum_nn n (fun p hp => h p (by omega))
    have h2 := h n (by omega)
    show 0 ≤ vsum X i n + (vv X (20 + n) i).toInt
    omega
theorem vsum_ge {X : Nat → Nat} {i p : Nat} : ∀ n : Nat, (∀ p, p < n → 0 ≤ (vv X (20 + p) i).toInt) → p < n → (vv X (20 + p) i).toInt ≤ vsum X i n
  | 0, _, hp => absurd hp (Nat.not_lt_zero _)
  | n + 1, h, hp => by
    show (vv X (20 + p) i).toInt ≤ vsum X i n + (vv X (20 + n) i).toInt
    have h1 := vsum_nn n (fun p hp => h p (by omega))
    have h2 := h n (by omega)
    rcases Nat.lt_or_ge p n with z | z
    · have := vsum_ge n (fun p hp => h p (by omega)) z
      omega
    · rw [show p = n by omega]
      omega
theorem vJ.le {X : Nat → Nat} (h : vJ X) {i p : Nat} (hi : i < 9) (hp : p < 16) : 0 ≤ (vv X (20 + p) i).toInt ∧ (vv X (20 + p) i).toInt ≤ (X 97 : Int) := by
  obtain ⟨h1, h2, h3⟩ := h i hi
  have := vsum_ge 16 h1 hp
  exact ⟨h1 p hp, by omega⟩
theorem vsum_ext {X Y : Nat → Nat} {i i' : Nat} : ∀ n : Nat, (∀ p, p < n → (vv Y (20 + p) i').toInt = (vv X (20 + p) i).toInt) → vsum Y i' n = vsum X i n
  | 0, _ => rfl
  | n + 1, h => by
    show vsum Y i' n + (vv Y (20 + n) i').toInt = vsum X i n + (vv X (20 + n) i).toInt
    rw [vsum_ext n (fun p hp => h p (by omega)), h n (by omega)]
/-- the sum of what is added to each -/
def vdel (f : Nat → Int) : Nat → Int
  | 0 => 0
  | p + 1 => vdel f p + f p
theorem vsum_add {X Y : Nat → Nat} {i : Nat} {f : Nat → Int} : ∀ n : Nat, (∀ p, p < n → (vv Y (20 + p) i).toInt = (vv X (20 + p) i).toInt + f p) → vsum Y i n = vsum X i n + vdel f n
  | 0, _ => rfl
  | n + 1, h => by
    show vsum Y i n + (vv Y (20 + n) i).toInt = vsum X i n + (vv X (20 + n) i).toInt + (vdel f n + f n)
    rw [vsum_add n (fun p hp => h p (by omega)), h n (by omega)]
    omega
theorem vdel_one {a : Nat} {x : Int} : ∀ n : Nat, vdel (fun p => if p = a then x else 0) n = if a < n then x else 0
  | 0 => by simp [vdel]
  | n + 1 => by
    show vdel _ n + (if n = a then x else 0) = _
    rw [vdel_one n]
    by_cases z : a < n
    · rw [if_pos z, if_neg (by omega), if_pos (by omega)]; omega
    · by_cases y : n = a
      · rw [if_neg z, if_pos y, if_pos (by omega)]; omega
      · rw [if_neg z, if_neg y, if_neg (by omega)]; omega
theorem vdel_sum {f g : Nat → Int} : ∀ n : Nat, vdel (fun p => f p + g p) n = vdel f n + vdel g n
  | 0 => rfl
  | n + 1 => by
    show vdel _ n + (f n + g n) = vdel f n + f n + (vdel g n + g n)
    rw [vdel_sum n]
    omega
/-- what a trade changes of the asset i (0 cash, s + 1 the security s) for the party p -/
def tc (de re se : Nat) (q am : Int) (p i : Nat) : Int :=
  if i = 0 then (if p = de then am else 0) + (if p = re then -am else 0) else if i = se + 1 then (if p = re then q else 0) + (if p = de then -q else 0) else 0
theorem tc_sum {de re se : Nat} {q am : Int} (hd : de < 16) (hr : re < 16) (i : Nat) : vdel (fun p => tc de re se q am p i) 16 = 0 := by
  unfold tc
  by_cases z : i = 0
  · simp only [if_pos z]
    rw [vdel_sum, vdel_one, vdel_one, if_pos hd, if_pos hr]
    omega
  · by_cases y : i = se + 1
    · simp only [if_neg z, if_pos y]
      rw [vdel_sum, vdel_one, vdel_one, if_pos hd, if_pos hr]
      omega
    · simp only [if_neg z, if_neg y]
      rfl
/-- n of the asset i go from a to b -/
def vMv (X : Nat → Nat) (a b i : Nat) (n : Int64) : Nat → Nat := vS (vS X (20 + a) i (vv X (20 + a) i - n)) (20 + b) i (vv (vS X (20 + a) i (vv X (20 + a) i - n)) (20 + b) i + n)
theorem vMv_vv {X : Nat → Nat} {a b i : Nat} {n : Int64} (ha : a < 16) (hb9 : b < 16) {k j : Nat} (hk : k < 64) : vv (vMv X a b i n) k j = (if k = 20 + b ∧ j = i then (if k = 20 + a then vv X k j - n else vv X k j) + n else if k = 20 + a ∧ j = i then vv X k j - n else vv X k j) := by
  unfold vMv
  rw [vS_vv (by omega) hk, vS_vv (by omega) (by omega), vS_vv (by omega) hk]
  by_cases z : k = 20 + b ∧ j = i
  · rw [if_pos z, if_pos z]
    obtain ⟨z1, z2⟩ := z
    subst z2
    rw [← z1]
    by_cases y : k = 20 + a
    · rw [if_pos ⟨y, rfl⟩, if_pos y, y]
    · rw [if_neg (fun w => y w.1), if_neg y]
  · rw [if_neg z, if_neg z]
    by_cases y : k = 20 + a ∧ j = i
    · rw [if_pos y, if_pos y, y.1, y.2]
    · rw [if_neg y, if_neg y]
/-- a trade is settled with q of its security and am of cash -/
def vSt (X : Nat → Nat) (de re se : Nat) (q am : Int64) : Nat → Nat := vMv (vMv X de re (se + 1) q) re de 0 am
theorem vMv_lo {X : Nat → Nat} {a b i n : Nat} {q : Int64} (h : n < 100) : vMv X a b i q n = X n := by
  unfold vMv
  rw [vS_lo h, vS_lo h]
theorem vSt_lo {X : Nat → Nat} {de re se n : Nat} {q am : Int64} (h : n < 100) : vSt X de re se q am n = X n := by
  unfold vSt
  rw [vMv_lo h, vMv_lo h]
theorem vSt_5 {X : Nat → Nat} {de re se i : Nat} {q am : Int64} (hd : de < 16) (hr : re < 16) : vv (vSt X de re se q am) 5 i = vv X 5 i := by
  unfold vSt
  rw [vMv_vv hr hd (by omega), if_neg (by omega), if_neg (by omega), vMv_vv hd hr (by omega), if_neg (by omega), if_neg (by omega)]
theorem vSt_vv {X : Nat → Nat} {de re se : Nat} {q am : Int64} (hd : de < 16) (hr : re < 16) (hne : de ≠ re) (hq : 0 ≤ q.toInt ∧ q.toInt ≤ 1000000000) (ham : 0 ≤ am.toInt ∧ am.toInt ≤ 1000000000) {p i : Nat} (hp : p < 16) (hv9 : -2305843009213693952 ≤ (vv X (20 + p) i).toInt ∧ (vv X (20 + p) i).toInt ≤ 2305843009213693952) : (vv (vSt X de re se q am) (20 + p) i).toInt = (vv X (20 + p) i).toInt + tc de re se q.toInt am.toInt p i := by
  have a1 : (vv X (20 + p) i + q).toInt = (vv X (20 + p) i).toInt + q.toInt := i64_add (by omega) (by omega)
  have a2 : (vv X (20 + p) i - q).toInt = (vv X (20 + p) i).toInt - q.toInt := i64_sub (by omega) (by omega)
  have a3 : (vv X (20 + p) i + am).toInt = (vv X (20 + p) i).toInt + am.toInt := i64_add (by omega) (by omega)
  have a4 : (vv X (20 + p) i - am).toInt = (vv X (20 + p) i).toInt - am.toInt := i64_sub (by omega) (by omega)
  unfold vSt tc
  rw [vMv_vv hr hd (by omega), vMv_vv hd hr (by omega)]
  by_cases i0 : i = 0
  · rw [if_neg (show ¬ (20 + p = 20 + re ∧ i = se + 1) by omega), if_neg (show ¬ (20 + p = 20 + de ∧ i = se + 1) by omega), if_pos i0]
    by_cases p1 : p = de
    · rw [if_pos (show 20 + p = 20 + de ∧ i = 0 by omega), if_neg (show ¬ 20 + p = 20 + re by omega), if_pos p1, if_neg (show ¬ p = re by omega), a3]
      omega
    · rw [if_neg (show ¬ (20 + p = 20 + de ∧ i = 0) by omega), if_neg p1]
      by_cases p2 : p = re
      · rw [if_pos (show 20 + p = 20 + re ∧ i = 0 by omega), if_pos p2, a4]
        omega
      · rw [if_neg (show ¬ (20 + p = 20 + re ∧ i = 0) by omega), if_neg p2]
        omega
  · rw [if_neg (show ¬ (20 + p = 20 + de ∧ i = 0) by omega), if_neg (show ¬ (20 + p = 20 + re ∧ i = 0) by omega), if_neg i0]
    by_cases i1 : i = se + 1
    · rw [if_pos i1]
      by_cases p2 : p = re
      · rw [if_pos (show 20 + p = 20 + re ∧ i = se + 1 by omega), if_neg (show ¬ 20 + p = 20 + de by omega), if_pos p2, if_neg (show ¬ p = de by omega), a1]
        omega
      · rw [if_neg (show ¬ (20 + p = 20 + re ∧ i = se + 1) by omega), if_neg p2]
        by_cases p1 : p = de
        · rw [if_pos (show 20 + p = 20 + de ∧ i = se + 1 by omega), if_pos p1, a2]
          omega
        · rw [if_neg (show ¬ (20 + p = 20 + de ∧ i = se + 1) by omega), if_neg p1]
          omega
    · rw [if_neg i1, if_neg (show ¬ (20 + p = 20 + re ∧ i = se + 1) by omega), if_neg (show ¬ (20 + p = 20 + de ∧ i = se + 1) by omega)]
      omega
theorem cl_T.not {E : hs_E} {t : cl_t} {cap X : Nat → Nat} {d q k : Nat} {G : hs_G} {kq : Nat × Nat} (h : cl_T E t cap X d G) (hq : t q = some kq) (h40 : 40 ≤ kq.1) (hk : k < 10 ∨ (20 ≤ k ∧ k < 36)) : q ≠ X k := fun z => by
  rw [z, h.tag k hk] at hq
  cases hq
  replace h40 : 40 ≤ k := h40
  omega
