/-! ===== a number of a sheet ===== -/
section
variable {E : mE} {d : Nat} {h : mH} {b : Nat}
theorem shC (s : Int32) : cal E (d + 1) kX3_isSheet [.int s] h = some (some (.int (if s < 0 ∨ nI 4 ≤ s then 0 else 1)), h) := by
  rw [c_X3_isSheet]
  have e4 : (4 : Int32) = nI 4 := rfl
  rw [e4]
  by_cases c1 : s < 0 <;> by_cases c2 : nI 4 ≤ s <;> simp [c1, c2]
theorem shM (s : Int32) : cal E (d + 2) kX4_isSheet [.int s] h = some (some (.int (if s < 0 ∨ nI 4 ≤ s then 0 else 1)), h) := by
  rw [c_X4_isSheet]
  have j1 : (0 ≤ s) ↔ ¬ s < 0 := by rw [n32_lt]
  have j2 : (s ≤ 3) ↔ ¬ nI 4 ≤ s := by
    rw [n32_le, Int32.le_iff_toInt_le, Int32.lt_iff_toInt_lt]
    have e3 : (3 : Int32).toInt = 3 := rfl
    have e4 : (nI 4).toInt = 4 := rfl
    omega
  by_cases c1 : s < 0 <;> by_cases c2 : nI 4 ≤ s <;> simp [j1, j2, c1, c2]
end
