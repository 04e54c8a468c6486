/-! bits of the holidays; the first rows are BITS.to-paste's -/
def bt (x : Int32) (i : Nat) : Bool := x.toBitVec.getLsbD i
theorem b_ext {x y : Int32} (h : ∀ i, i < 32 → bt x i = bt y i) : x = y := Int32.toBitVec_inj.mp (BitVec.eq_of_getLsbD_eq (fun i hi => h i hi))
theorem b_or (x y : Int32) (i : Nat) : bt (x ||| y) i = (bt x i || bt y i) := by unfold bt; rw [Int32.toBitVec_or, BitVec.getLsbD_or]
theorem b_and (x y : Int32) (i : Nat) : bt (x &&& y) i = (bt x i && bt y i) := by unfold bt; rw [Int32.toBitVec_and, BitVec.getLsbD_and]
theorem b_xor (x y : Int32) (i : Nat) : bt (x ^^^ y) i = (bt x i ^^ bt y i) := by unfold bt; rw [Int32.toBitVec_xor, BitVec.getLsbD_xor]
theorem b_big {x : Int32} {i : Nat} (h : 32 ≤ i) : bt x i = false := BitVec.getLsbD_of_ge _ _ h
theorem b_m1 : ∀ i, i < 32 → bt (-1) i = true := by decide +kernel
theorem b_0 (i : Nat) : bt 0 i = false := BitVec.getLsbD_zero
theorem s_l : ∀ n, n < 32 → ((nI n &&& 31).toBitVec.smod 32).toNat = n := by decide +kernel
theorem s_u : ∀ n, n < 32 → (((nI n).toUInt32 &&& Int32.toUInt32 31).toBitVec % 32).toNat = n := by decide +kernel
theorem b_shl (n : Nat) (hn : n < 32) (x : Int32) {i : Nat} (hi : i < 32) : bt (x <<< (nI n &&& 31)) i = (decide (n ≤ i) && bt x (i - n)) := by
  unfold bt
  rw [Int32.toBitVec_shiftLeft]
  show (x.toBitVec <<< ((nI n &&& 31).toBitVec.smod 32).toNat).getLsbD i = _
  rw [s_l n hn, BitVec.getLsbD_shiftLeft]
  rcases Nat.lt_or_ge i n with h | h
  · simp [h, Nat.not_le.mpr h]
  · simp [hi, h, Nat.not_lt.mpr h]
theorem b_sshr (n : Nat) (hn : n < 32) (x : Int32) {i : Nat} (hi : i < 32) : bt (x >>> (nI n &&& 31)) i = if n + i < 32 then bt x (n + i) else bt x 31 := by
  unfold bt
  rw [Int32.toBitVec_shiftRight]
  show (x.toBitVec.sshiftRight ((nI n &&& 31).toBitVec.smod 32).toNat).getLsbD i = _
  rw [s_l n hn, BitVec.getLsbD_sshiftRight, BitVec.msb_eq_getLsbD_last]
  simp [hi]
theorem hv_1 : ∀ i, i < 32 → bt 1 i = decide (i = 0) := by decide +kernel
theorem hv_and1 (x : Int32) : x &&& 1 = 1 ↔ bt x 0 = true := by
  refine ⟨fun h => ?_, fun h => b_ext fun i hi => ?_⟩
  · have e := congrArg (fun y => bt y 0) h
    simp only [b_and, hv_1 0 (by decide)] at e
    simpa using e
  · rw [b_and, hv_1 i hi]
    by_cases z : i = 0
    · subst z; simp [h]
    · simp [z]
/-- whether day j is marked in the words of X -/
def hv (X : Nat → Nat) (j : Nat) : Bool := bt (nI (X (100 + 2 * (j / 32)))) (j % 32)
theorem hv_rd (w : Int32) {a : Nat} (ha : a < 32) : (w >>> (nI a &&& 31)) &&& 1 = 1 ↔ bt w a = true := by
  rw [hv_and1, b_sshr a ha w (by decide), if_pos (by omega), Nat.add_zero]
theorem hv_or (w : Int32) {a i : Nat} (ha : a < 32) (hi : i < 32) : bt (w ||| ((1 : Int32) <<< (nI a &&& 31))) i = (bt w i || decide (i = a)) := by
  rw [b_or, b_shl a ha 1 hi]
  congr 1
  by_cases z : a ≤ i
  · rw [hv_1 (i - a) (by omega)]
    by_cases y : i = a
    · subst y; simp
    · simp [z, y, show ¬ i - a = 0 by omega]
  · simp [z, show ¬ i = a by omega]
theorem hv_nI (w : Int32) : nI w.toBitVec.toNat = w := Int32.toBitVec_inj.mp (by show BitVec.ofNat 32 _ = _; simp)
/-- the words with day j marked -/
def hv_mk (X : Nat → Nat) (j : Nat) : Nat → Nat := fun k => if k = 100 + 2 * (j / 32) then (nI (X (100 + 2 * (j / 32))) ||| ((1 : Int32) <<< (nI (j % 32) &&& 31))).toBitVec.toNat else X k
theorem hv_mk_lo2 {X : Nat → Nat} {j k : Nat} (hk : k < 100 ∨ k % 2 = 1) : hv_mk X j k = X k := if_neg (by omega)
theorem hv_mk_lo {X : Nat → Nat} {j k : Nat} (hk : k < 100) : hv_mk X j k = X k := if_neg (by omega)
theorem hv_mk_hb (X : Nat → Nat) (j i : Nat) : hv (hv_mk X j) i = (hv X i || decide (i = j)) := by
  unfold hv hv_mk
  by_cases e : i / 32 = j / 32
  · rw [if_pos (by omega), hv_nI, hv_or _ (Nat.mod_lt _ (by decide)) (Nat.mod_lt _ (by decide)), e]
    congr 1
    by_cases z : i = j
    · subst z; simp
    · simp [z]; omega
  · rw [if_neg (by omega)]
    simp [show ¬ i = j from fun z => e (by rw [z])]
theorem hv_mk_w (X : Nat → Nat) (j : Nat) : (fun i => nI (hv_mk X j (100 + 2 * i))) = upd (fun i => nI (X (100 + 2 * i))) (j / 32) (nI (X (100 + 2 * (j / 32))) ||| ((1 : Int32) <<< (nI (j % 32) &&& 31))) := by
  funext i
  unfold hv_mk
  by_cases e : i = j / 32
  · subst e
    rw [if_pos rfl, hv_nI]
    simp [upd]
  · rw [if_neg (by omega)]
    simp [upd, e]
