/-- an array's length: what it says -/
theorem len_small {args : Array Value} {first : State} {o : Option Outcome} {idx : List Nat} {s : State} {t : Term} {v : Value} (h : (Term.length t).eval args first o idx s = some v) :
    ∃ a cell, t.eval args first o idx s = some (.ref a) ∧ s.arrayAt? a = some cell ∧ v = .int cell.slots.size.toInt32 ∧ cell.slots.size < 2147483648 := by
  simp only [Term.eval, Option.bind_eq_bind] at h
  cases ht : t.eval args first o idx s with
  | none => simp [ht] at h
  | some x =>
    cases x <;> simp [ht] at h
    case ref a =>
      obtain ⟨cell, hcell, h⟩ := Option.bind_eq_some_iff.mp h
      by_cases hn : cell.slots.size < 2147483648
      · rw [if_pos hn] at h; cases h; exact ⟨a, cell, rfl, hcell, rfl, hn⟩
      · rw [if_neg hn] at h; cases h
theorem size_0 {n : Nat} (h : n < 2147483648) (z : Value.int 0 = Value.int n.toInt32) : n = 0 := by
  have e : (0 : Int32) = n.toInt32 := Value.int.inj z
  have e2 : iv (nI n) = (n : Int) := iv_nI h
  have e3 : nI n = 0 := e.symm
  rw [e3, iv_0] at e2
  omega
theorem nest_in : ∀ q ∈ kx_nest, Cond.methodLinkNest q.1 q.2.1 q.2.2.1 q.2.2.2 ∈ lw_tbl := by decide +kernel
theorem inst_0 : Cond.instantiable RJx4a65c 3 ∈ lw_tbl := by decide +kernel
theorem cast_0 : Cond.castable RJx4a65c "java/lang/Object" ∈ lw_tbl := by decide +kernel
theorem inst_1 : Cond.instantiable RX0 11 ∈ lw_tbl := by decide +kernel
theorem cast_1 : Cond.castable RX0 "java/lang/Object" ∈ lw_tbl := by decide +kernel
theorem inst_2 : Cond.instantiable RX1 1 ∈ lw_tbl := by decide +kernel
theorem cast_2 : Cond.castable RX1 "java/lang/Object" ∈ lw_tbl := by decide +kernel
theorem inst_3 : Cond.instantiable RX2 10 ∈ lw_tbl := by decide +kernel
theorem cast_3 : Cond.castable RX2 "java/lang/Object" ∈ lw_tbl := by decide +kernel
theorem inst_4 : Cond.instantiable RX3 7 ∈ lw_tbl := by decide +kernel
theorem cast_4 : Cond.castable RX3 "java/lang/Object" ∈ lw_tbl := by decide +kernel
theorem inst_5 : Cond.instantiable RX4 5 ∈ lw_tbl := by decide +kernel
theorem cast_5 : Cond.castable RX4 "java/lang/Object" ∈ lw_tbl := by decide +kernel
theorem inst_6 : Cond.instantiable RX5 12 ∈ lw_tbl := by decide +kernel
theorem cast_6 : Cond.castable RX5 "java/lang/Object" ∈ lw_tbl := by decide +kernel
theorem inst_7 : Cond.instantiable RX6 8 ∈ lw_tbl := by decide +kernel
theorem cast_7 : Cond.castable RX6 "java/lang/Object" ∈ lw_tbl := by decide +kernel
theorem inst_8 : Cond.instantiable RX7 7 ∈ lw_tbl := by decide +kernel
theorem cast_8 : Cond.castable RX7 "java/lang/Object" ∈ lw_tbl := by decide +kernel
theorem inst_9 : Cond.instantiable RX8 4 ∈ lw_tbl := by decide +kernel
theorem cast_9 : Cond.castable RX8 "java/lang/Object" ∈ lw_tbl := by decide +kernel
theorem inst_10 : Cond.instantiable RX9 18 ∈ lw_tbl := by decide +kernel
theorem cast_10 : Cond.castable RX9 "java/lang/Object" ∈ lw_tbl := by decide +kernel
theorem in_w1 : Cond.arrayClass .int ∈ lw_tbl := by decide +kernel
theorem in_w2 : Cond.arrayOver (.object "java/lang/Object") ∈ lw_tbl := by decide +kernel
theorem in_w3 : Cond.laysStatic "java/util/ArrayList" "DEFAULTCAPACITY_EMPTY_ELEMENTDATA" "[Ljava/lang/Object;" ∈ lw_tbl := by decide +kernel
theorem in_w4 : Cond.initialized "java/util/ArrayList" ∈ lw_tbl := by decide +kernel
theorem in_w5 : Cond.declares ⟨"java/lang/Object", "getClass", "()Ljava/lang/Class;"⟩ ∈ lw_tbl := by decide +kernel
