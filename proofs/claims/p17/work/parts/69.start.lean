/-! the law's start: the tables, the two old arrays -/
theorem lw_arr {s : State} {args : Array Value} {ty : FieldType} (h : (Cond.arrayClass ty).before args s = true) : ∃ cA : ClassId, ArrOfT s cA ty ∧ s.vm.findClass ("[" ++ ty.toString) = some cA := by
  obtain ⟨c, k, comp, h1, h2, h3⟩ := Cond.arrayClass_spec h
  exact ⟨c, fun n z => ⟨(fun q hq => by cases hq), k, h2, comp, h3⟩, h1⟩
theorem lw_len {s : State} {args : Array Value} {t : Term} {n : Int32} {N : Nat} (h : (Cond.eq (.length t) (.int n)).before args s = true) (hn : n.toInt = (N : Int)) : ∃ (a : Nat) (cell : Cell), t.eval args s none [] s = some (.ref a) ∧ s.arrayAt? a = some cell ∧ cell.slots.size = N := by
  have h2 : (Term.length t).eval args s none [] s = some (.int n) := Cond.eq_int h rfl
  obtain ⟨a, cell, q1, q2, q3⟩ := Term.length_spec h2
  have hsz : cell.slots.size < 2 ^ 31 := by
    simp only [Term.eval, q1, q2, Option.bind_eq_bind, Option.bind_some] at h2
    by_cases hlt : cell.slots.size < 2147483648
    · exact hlt
    · simp [hlt] at h2
  refine ⟨a, cell, q1, q2, ?_⟩
  cases q3
  have e : (cell.slots.size.toInt32).toInt = (cell.slots.size : Int) := Int32.toInt_ofNat_small hsz
  rw [e] at hn
  omega
theorem lw_el {s : State} {args : Array Value} {t : Term} {i n : Int32} {a : Nat} {cell : Cell} (h : (Cond.eq (.elem t (.int i)) (.int n)).before args s = true) (ht : t.eval args s none [] s = some (.ref a)) (hc : s.arrayAt? a = some cell) : cell.slots[i.toNatClampNeg]? = some (.int n) := by
  have h2 : (Term.elem t (.int i)).eval args s none [] s = some (.int n) := Cond.eq_int h rfl
  obtain ⟨a', j, cell', q1, q2, q3, -, q5⟩ := Term.elem_spec h2
  cases Option.some.inj (q1.symm.trans ht)
  cases Option.some.inj (q3.symm.trans hc)
  cases (show (some (Value.int i) : Option Value) = some (.int j) from q2)
  exact q5
theorem lw_ns {v : VmData} (h : v.isStatics = false) : ∀ k, v ≠ .statics k := fun k z => by rw [z] at h; cases h
