/-! ===== int rows and long rows ===== -/
section
theorem ad32 {x y : Int32} (q : -2147483648 ≤ x.toInt + y.toInt ∧ x.toInt + y.toInt < 2147483648) : (x + y).toInt = x.toInt + y.toInt := by
  rw [Int32.toInt_add, Int.bmod_def]
  omega
theorem su32 {x y : Int32} (q : -2147483648 ≤ x.toInt - y.toInt ∧ x.toInt - y.toInt < 2147483648) : (x - y).toInt = x.toInt - y.toInt := by
  rw [Int32.toInt_sub, Int.bmod_def]
  omega
theorem mu32 {x y : Int32} (q : -2147483648 ≤ x.toInt * y.toInt ∧ x.toInt * y.toInt < 2147483648) : (x * y).toInt = x.toInt * y.toInt := by
  rw [Int32.toInt_mul, Int.bmod_def]
  omega
theorem ad64 {x y : Int64} (q : -9223372036854775808 ≤ x.toInt + y.toInt ∧ x.toInt + y.toInt < 9223372036854775808) : (x + y).toInt = x.toInt + y.toInt := by
  rw [Int64.toInt_add, Int.bmod_def]
  omega
theorem su64 {x y : Int64} (q : -9223372036854775808 ≤ x.toInt - y.toInt ∧ x.toInt - y.toInt < 9223372036854775808) : (x - y).toInt = x.toInt - y.toInt := by
  rw [Int64.toInt_sub, Int.bmod_def]
  omega
theorem mu64 {x y : Int64} (q : -9223372036854775808 ≤ x.toInt * y.toInt ∧ x.toInt * y.toInt < 9223372036854775808) : (x * y).toInt = x.toInt * y.toInt := by
  rw [Int64.toInt_mul, Int.bmod_def]
  omega
theorem t64 (x : Int32) : x.toInt64.toInt = x.toInt := Int32.toInt_toInt64 x
theorem mulb {a b A B : Int} (ha : -A ≤ a ∧ a ≤ A) (hb : -B ≤ b ∧ b ≤ B) (hA : 0 ≤ A) : -(A * B) ≤ a * b ∧ a * b ≤ A * B := by
  have hB : 0 ≤ B := by omega
  have h1 : a.natAbs ≤ A.natAbs := by omega
  have h2 : b.natAbs ≤ B.natAbs := by omega
  have h3 : (a * b).natAbs ≤ (A * B).natAbs := by
    rw [Int.natAbs_mul, Int.natAbs_mul]
    exact Nat.mul_le_mul h1 h2
  have h4 : 0 ≤ A * B := Int.mul_nonneg hA hB
  omega
theorem ar_scale {f x y : Int32} (hf : -100000 ≤ f.toInt ∧ f.toInt ≤ 100000) (hx : -1000 ≤ x.toInt ∧ x.toInt ≤ 1000) (hy : -1000 ≤ y.toInt ∧ y.toInt ≤ 1000) : x.toInt64 * f.toInt64 + y.toInt64 = (f * x + y).toInt64 := by
  have m1 := mulb hx hf (by decide)
  have c1 : f.toInt * x.toInt = x.toInt * f.toInt := Int.mul_comm _ _
  have e1 : (f * x).toInt = f.toInt * x.toInt := mu32 (by omega)
  have e2 : (f * x + y).toInt = f.toInt * x.toInt + y.toInt := by rw [ad32 (by rw [e1]; omega), e1]
  have e3 : (x.toInt64 * f.toInt64).toInt = x.toInt * f.toInt := by rw [mu64 (by rw [t64, t64]; omega), t64, t64]
  apply Int64.toInt_inj.1
  rw [ad64 (by rw [e3, t64]; omega), e3, t64, t64, e2]
  omega
theorem ar_plus {f g : Int32} (hf : -100000 ≤ f.toInt ∧ f.toInt ≤ 100000) (hg : -100000 ≤ g.toInt ∧ g.toInt ≤ 100000) : f.toInt64 + g.toInt64 = (f + g).toInt64 := by
  apply Int64.toInt_inj.1
  rw [ad64 (by rw [t64, t64]; omega), t64, t64, t64, ad32 (by omega)]
theorem ar_turned {f x y : Int32} (hf : -100000 ≤ f.toInt ∧ f.toInt ≤ 100000) (hx : -100000 ≤ x.toInt ∧ x.toInt ≤ 100000) (hy : -100000 ≤ y.toInt ∧ y.toInt ≤ 100000) : x.toInt64 + y.toInt64 - f.toInt64 = (f * (-1) + (x + y)).toInt64 := by
  have n1 : (-1 : Int32).toInt = -1 := rfl
  have e1 : (f * (-1)).toInt = - f.toInt := by rw [mu32 (by rw [n1]; omega), n1]; omega
  have e2 : (x + y).toInt = x.toInt + y.toInt := ad32 (by omega)
  have e3 : (x.toInt64 + y.toInt64).toInt = x.toInt + y.toInt := by rw [ad64 (by rw [t64, t64]; omega), t64, t64]
  apply Int64.toInt_inj.1
  rw [su64 (by rw [e3, t64]; omega), e3, t64, t64, ad32 (by rw [e1, e2]; omega), e1, e2]
  omega
theorem ar_prod {f g : Int32} {m : Nat} (hm : m ≤ 12) (hf : -100000 ≤ f.toInt ∧ f.toInt ≤ 100000) (hg : -100000 ≤ g.toInt ∧ g.toInt ≤ 100000) : g.toInt64 + (nI (m * m)).toInt64 * (f.toInt64 - 1) = (g + nI (m * m) * (f - 1)).toInt64 := by
  have qm : m * m ≤ 144 := Nat.mul_le_mul hm hm
  have em : 0 ≤ (nI (m * m)).toInt ∧ (nI (m * m)).toInt ≤ 144 := by
    revert qm
    generalize m * m = y
    intro qy
    have : ∀ y, y < 145 → 0 ≤ (nI y).toInt ∧ (nI y).toInt ≤ 144 := by decide +kernel
    exact this y (by omega)
  have o1 : (1 : Int32).toInt = 1 := rfl
  have o2 : (1 : Int64).toInt = 1 := rfl
  have e1 : (f - 1).toInt = f.toInt - 1 := by rw [su32 (by rw [o1]; omega), o1]
  have e2 : (f.toInt64 - 1).toInt = f.toInt - 1 := by rw [su64 (by rw [t64, o2]; omega), t64, o2]
  have mb := mulb (a := (nI (m * m)).toInt) (b := f.toInt - 1) (A := 144) (B := 100001) (by omega) (by omega) (by decide)
  have e3 : (nI (m * m) * (f - 1)).toInt = (nI (m * m)).toInt * (f.toInt - 1) := by rw [mu32 (by rw [e1]; omega), e1]
  have e4 : ((nI (m * m)).toInt64 * (f.toInt64 - 1)).toInt = (nI (m * m)).toInt * (f.toInt - 1) := by rw [mu64 (by rw [t64, e2]; omega), t64, e2]
  apply Int64.toInt_inj.1
  rw [ad64 (by rw [e4, t64]; omega), e4, t64, t64, ad32 (by rw [e3]; omega), e3]
/-- a great number is great on both sides -/
theorem gr_same {f : Nat → Int32} {g : Nat → Int64} {p : Nat} (e : g p = (f p).toInt64) : grl g p = grp f p := by
  unfold grl grp
  rw [e]
  have e1 : (-100000 : Int64) = (-100000 : Int32).toInt64 := rfl
  have e2 : (100000 : Int64) = (100000 : Int32).toInt64 := rfl
  have i1 : ((-100000 : Int64) ≤ (f p).toInt64) ↔ ¬ f p < -100000 := by rw [e1, i64_le, n32_lt]
  have i2 : ((f p).toInt64 ≤ (100000 : Int64)) ↔ ¬ 100000 < f p := by rw [e2, i64_le, n32_lt]
  by_cases c1 : f p < -100000 <;> by_cases c2 : 100000 < f p <;> simp [i1, i2, c1, c2]
theorem t32 (x : Int32) : x.toInt64.toInt32 = x := Int32.toInt32_toInt64 x
end
