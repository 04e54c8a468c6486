/-! the vault behind settlements -/
theorem vSt_J {X : Nat → Nat} {de re se : Nat} {q am : Int64} (hJ : vJ X) (hB : X 97 ≤ 1152921504606846976) (hd : de < 16) (hr : re < 16) (hne : de ≠ re) (hq : 0 ≤ q.toInt ∧ q.toInt ≤ 1000000000) (ham : 0 ≤ am.toInt ∧ am.toInt ≤ 1000000000) (h1 : q.toInt ≤ (vv X (20 + de) (se + 1)).toInt) (h2 : am.toInt ≤ (vv X (20 + re) 0).toInt) : vJ (vSt X de re se q am) := by
  intro i hi
  have e : ∀ p, p < 16 → (vv (vSt X de re se q am) (20 + p) i).toInt = (vv X (20 + p) i).toInt + tc de re se q.toInt am.toInt p i := fun p hp => vSt_vv hd hr hne hq ham hp (by have := hJ.le hi hp; omega)
  refine ⟨fun p hp => ?_, ?_, ?_⟩
  · rw [e p hp]
    have h0 := (hJ.le hi hp).1
    by_cases z1 : p = de ∧ i = se + 1
    · obtain ⟨rfl, rfl⟩ := z1
      unfold tc
      rw [if_neg (by omega), if_pos rfl, if_neg hne, if_pos rfl]
      omega
    · by_cases z2 : p = re ∧ i = 0
      · obtain ⟨rfl, rfl⟩ := z2
        unfold tc
        rw [if_pos rfl, if_neg (fun w => hne w.symm), if_pos rfl]
        omega
      · have := tc_nn (se := se) hq.1 ham.1 z1 z2
        omega
  · rw [vsum_add 16 e, vSt_5 hd hr, tc_sum hd hr, (hJ i hi).2.1]
    omega
  · rw [vSt_5 hd hr, vSt_lo (n := 97) (by omega)]
    exact (hJ i hi).2.2
def tcO (G : hs_G) (p i : Nat) (x : Option Nat) : Int := match x with | some x => tcG G x p i | none => 0
theorem tsum_s {G : hs_G} {f : Nat → Option Nat} {p i n : Nat} : tsum G f p i (n + 1) = tsum G f p i n + tcO G p i (f n) := rfl
theorem tsum_tail {G G1 : hs_G} {f f1 : Nat → Option Nat} {p i : Nat} : ∀ n : Nat, (∀ u, u < n → tcO G1 p i (f1 u) = tcO G p i (f (u + 1))) → tsum G f p i (n + 1) = tcO G p i (f 0) + tsum G1 f1 p i n
  | 0, _ => by
    rw [tsum_s]
    show (0 : Int) + _ = _ + 0
    omega
  | n + 1, h => by
    have h1 := tsum_tail n (fun u hu => h u (by omega))
    have h2 := h n (by omega)
    rw [tsum_s, h1, tsum_s, h2]
    omega
theorem tsum_bd {G : hs_G} {f : Nat → Option Nat} {p i : Nat} : ∀ n : Nat, (∀ u, u < n → -1000000000 ≤ tcO G p i (f u) ∧ tcO G p i (f u) ≤ 1000000000) → -1000000000 * (n : Int) ≤ tsum G f p i n ∧ tsum G f p i n ≤ 1000000000 * (n : Int)
  | 0, _ => by
    show -1000000000 * ((0 : Nat) : Int) ≤ 0 ∧ (0 : Int) ≤ 1000000000 * ((0 : Nat) : Int)
    omega
  | n + 1, h => by
    have h1 := tsum_bd n (fun u hu => h u (by omega))
    have h2 := h n (by omega)
    rw [tsum_s]
    omega
theorem tcO_bd {E : hs_E} {t : cl_t} {cap X : Nat → Nat} {d sz : Nat} {G : hs_G} {f : Nat → Option Nat} (hT : cl_T E t cap X d G) (hel : ∀ j, j < sz → ∃ x : Nat, f j = some x ∧ t x = some (50, 0)) (p i u : Nat) (hu : u < sz) : -1000000000 ≤ tcO G p i (f u) ∧ tcO G p i (f u) ≤ 1000000000 := by
  obtain ⟨y, hf, hy⟩ := hel u hu
  obtain ⟨nu, te, t1, s1, s2, st, du, ql, am, fa, pr, ip, g, hX, ht1, -⟩ := hT.tr hy
  obtain ⟨de, re, se, q0, m0, dy, lg, hTe, hde, hre, hse, -⟩ := hT.te ht1
  have hb9 := hT.b hy _ _ _ _ _ _ _ _ _ _ _ _ _ hX
  rw [hf]
  show -1000000000 ≤ tcG G y p i ∧ tcG G y p i ≤ 1000000000
  rw [tcG_at hX hTe hde hre hse]
  exact tc_bd ⟨hb9.1, hb9.2.1⟩ ⟨hb9.2.2.1, hb9.2.2.2⟩ p i
theorem tcG_fr {E : hs_E} {t : cl_t} {cap X : Nat → Nat} {d x : Nat} {G G1 : hs_G} (hT : cl_T E t cap X d G) (hx : t x = some (50, 0)) (h1 : G1 x = G x) (h2 : ∀ q, t q = some (51, 0) → G1 q = G q) (p i : Nat) : tcG G1 x p i = tcG G x p i := by
  obtain ⟨nu, te, t1, s1, s2, st, du, ql, am, fa, pr, ip, g, hX, ht1, -⟩ := hT.tr hx
  obtain ⟨de, re, se, q0, m0, dy, lg, hTe, hde, hre, hse, -⟩ := hT.te ht1
  rw [tcG_at hX hTe hde hre hse, tcG_at (h1.trans hX) ((h2 t1 ht1).trans hTe) hde hre hse]
/-- Y is X behind the settlement of those of the list f0 that are no longer in f1 -/
def vK (X Y : Nat → Nat) (G0 : hs_G) (f0 : Nat → Option Nat) (n0 : Nat) (G1 : hs_G) (f1 : Nat → Option Nat) (n1 : Nat) : Prop := (∀ n, n < 100 → Y n = X n) ∧ ∀ i, i < 9 → vv Y 5 i = vv X 5 i ∧ vsum Y i 16 = vsum X i 16 ∧ ∀ p, p < 16 → (vv Y (20 + p) i).toInt + tsum G1 f1 p i n1 = (vv X (20 + p) i).toInt + tsum G0 f0 p i n0
theorem vK.rf {X : Nat → Nat} {G : hs_G} {f : Nat → Option Nat} {n : Nat} : vK X X G f n G f n := ⟨fun _ _ => rfl, fun _ _ => ⟨rfl, rfl, fun _ _ => rfl⟩⟩
theorem vK.step {X Y : Nat → Nat} {G0 G1 G2 : hs_G} {f0 f1 f2 : Nat → Option Nat} {n0 n1 de re se : Nat} {q am : Int64} (h : vK X Y G0 f0 n0 G1 f1 (n1 + 1)) (hJ : vJ X) (hB : X 97 ≤ 1152921504606846976) (hd : de < 16) (hr : re < 16) (hne : de ≠ re) (hq : 0 ≤ q.toInt ∧ q.toInt ≤ 1000000000) (ham : 0 ≤ am.toInt ∧ am.toInt ≤ 1000000000) (hn0 : n0 ≤ 6) (hn1 : n1 + 1 ≤ 6) (hb0 : ∀ p i u, u < n0 → -1000000000 ≤ tcO G0 p i (f0 u) ∧ tcO G0 p i (f0 u) ≤ 1000000000) (hb1 : ∀ p i u, u < n1 + 1 → -1000000000 ≤ tcO G1 p i (f1 u) ∧ tcO G1 p i (f1 u) ≤ 1000000000) (h0 : ∀ p i, tcO G1 p i (f1 0) = tc de re se q.toInt am.toInt p i) (hs : ∀ p i u, u < n1 → tcO G2 p i (f2 u) = tcO G1 p i (f1 (u + 1))) : vK X (vSt Y de re se q am) G0 f0 n0 G2 f2 n1 := by
  obtain ⟨a1, a2⟩ := h
  refine ⟨fun n hn => (vSt_lo hn).trans (a1 n hn), fun i hi => ?_⟩
  obtain ⟨b1, b2, b3⟩ := a2 i hi
  have e : ∀ p, p < 16 → (vv (vSt Y de re se q am) (20 + p) i).toInt = (vv Y (20 + p) i).toInt + tc de re se q.toInt am.toInt p i := fun p hp => vSt_vv hd hr hne hq ham hp (by
    have c1 := hJ.le hi hp
    have c2 := b3 p hp
    have c3 := tsum_bd (G := G0) (f := f0) (p := p) (i := i) n0 (hb0 p i)
    have c4 := tsum_bd (G := G1) (f := f1) (p := p) (i := i) (n1 + 1) (hb1 p i)
    omega)
  refine ⟨(vSt_5 hd hr).trans b1, ?_, fun p hp => ?_⟩
  · rw [vsum_add 16 e, tc_sum hd hr, b2]
    omega
  · have c2 := b3 p hp
    rw [tsum_tail (G1 := G2) (f1 := f2) n1 (hs p i), h0] at c2
    rw [e p hp]
    omega
theorem vK.fin {X Y : Nat → Nat} {G0 G1 : hs_G} {f0 f1 : Nat → Option Nat} {n0 : Nat} (h : vK X Y G0 f0 n0 G1 f1 0) (hJ : vJ X) (hc : ∀ p i, p < 16 → i < 9 → 0 ≤ (vv X (20 + p) i).toInt + tsum G0 f0 p i n0) : vJ Y := by
  obtain ⟨a1, a2⟩ := h
  intro i hi
  obtain ⟨b1, b2, b3⟩ := a2 i hi
  obtain ⟨j1, j2, j3⟩ := hJ i hi
  refine ⟨fun p hp => ?_, by rw [b2, b1]; exact j2, by rw [b1, a1 97 (by omega)]; exact j3⟩
  have c1 := b3 p hp
  have c2 := hc p i hp hi
  have c3 : tsum G1 f1 p i 0 = 0 := rfl
  omega
theorem cl_T.l8Y {E : hs_E} {t : cl_t} {cap X Y : Nat → Nat} {d : Nat} {G : hs_G} (h : cl_T E t cap Y d G) (e : ∀ n, n < 100 → Y n = X n) : cl_L E t cap G (X 8) 150 50 := by
  have z := h.l8
  rw [e 8 (by decide)] at z
  exact z
theorem cl_T.l9Y {E : hs_E} {t : cl_t} {cap X Y : Nat → Nat} {d : Nat} {G : hs_G} (h : cl_T E t cap Y d G) (e : ∀ n, n < 100 → Y n = X n) : cl_L E t cap G (X 9) 150 53 := by
  have z := h.l9
  rw [e 9 (by decide)] at z
  exact z
/-- the vault may have changed, but holds as before -/
def cl_Y (E : hs_E) (t : cl_t) (cap X : Nat → Nat) (d : Nat) (G1 : hs_G) : Prop := ∃ Y : Nat → Nat, cl_T E t cap Y d G1 ∧ (∀ n, n < 100 → Y n = X n) ∧ vJ Y
/-- what a method of the class that makes nothing does -/
def cl_0Y (E : hs_E) (t : cl_t) (cap X : Nat → Nat) (d : Nat) (G G1 : hs_G) (k n : Nat) : Prop := k = 0 ∧ n = 0 ∧ cl_Y E t cap X d G1 ∧ cl_F t G t G1
/-- and what one that may make things does -/
def cl_MY (E : hs_E) (t : cl_t) (cap X : Nat → Nat) (d2 : Nat) (G : hs_G) (K N : Nat) (G1 : hs_G) (k n : Nat) : Prop := ∃ (t' : cl_t) (cap' : Nat → Nat), cl_Y E t' cap' X d2 G1 ∧ cl_F t G t' G1 ∧ cap (X 9) ≤ cap' (X 9) ∧ k ≤ K + (cap' (X 9) - cap (X 9)) ∧ n ≤ N + 4 * (cap' (X 9) - cap (X 9))
