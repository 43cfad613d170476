/-! ===== sum, at ===== -/
section
variable {E : mE} {d : Nat} {h : mH} {b : Nat}
theorem nIt {y : Nat} (hy : y < 2 ^ 31) : (nI y).toInt = (y : Int) := by
  have h1 : 0 ≤ nI y := nI_pos' hy
  have h2 := nI_clamp hy
  rw [Int32.le_iff_toInt_le] at h1
  have e0 : (0 : Int32).toInt = 0 := rfl
  have e1 : (nI y).toNatClampNeg = (nI y).toInt.toNat := rfl
  omega
/-- an int is one of N, or none -/
theorem rng {N : Nat} (hN : N < 2 ^ 31) (x : Int32) : (x < 0 ∨ nI N ≤ x) ∨ ∃ k, k < N ∧ x = nI k := by
  by_cases c1 : x < 0
  · exact Or.inl (Or.inl c1)
  · by_cases c2 : nI N ≤ x
    · exact Or.inl (Or.inr c2)
    · right
      rw [n32_lt, Int32.le_iff_toInt_le] at c1
      rw [n32_le, Int32.lt_iff_toInt_lt] at c2
      have e0 : (0 : Int32).toInt = 0 := rfl
      have e1 := nIt hN
      refine ⟨x.toInt.toNat, by omega, ?_⟩
      apply Int32.toInt_inj.1
      rw [nIt (by omega)]
      omega
/-- the reference's test of 0 to N - 1 -/
theorem inI {N : Nat} (h1 : 1 ≤ N) (hN : N < 2 ^ 31) (x : Int32) : cal E (d + 1) kX4_in [.long x.toInt64, .long 0, .long (nI (N - 1)).toInt64] h = some (some (.int (if x < 0 ∨ nI N ≤ x then 0 else 1)), h) := by
  rw [c_X4_in]
  have e0 : (0 : Int64) = (0 : Int32).toInt64 := rfl
  have j1 : ((0 : Int64) ≤ x.toInt64) ↔ ¬ x < 0 := by rw [e0, i64_le, n32_lt]
  have j2 : (x.toInt64 ≤ (nI (N - 1)).toInt64) ↔ ¬ nI N ≤ x := by
    rw [i64_le, n32_le, Int32.le_iff_toInt_le, Int32.lt_iff_toInt_lt, nIt (by omega), nIt hN]
    omega
  by_cases c1 : x < 0 <;> by_cases c2 : nI N ≤ x <;> simp [j1, j2, c1, c2]
theorem rowC {a n : Nat} {x : Int32} (k1 : hK h a = (12, 2)) (f1 : hF h a 1 = .int (nI n)) : cal E (d + 1) kX2_isRow [.ref a, .int x] h = some (some (.int (if x < 0 ∨ nI n ≤ x then 0 else 1)), h) := by
  rw [c_X2_isRow k1 f1]
  by_cases c1 : x < 0 <;> by_cases c2 : nI n ≤ x <;> simp [c1, c2]
theorem t4m (y : Nat) : (4 : Int32) * nI y = nI (4 * y) := by rw [show (4 : Int32) = nI 4 from rfl, pk_mul]
theorem linC {a n : Nat} {x : Int32} (k1 : hK h a = (12, 2)) (f1 : hF h a 1 = .int (nI n)) : cal E (d + 1) kX2_isLine [.ref a, .int x] h = some (some (.int (if x < 0 ∨ nI (4 * n) ≤ x then 0 else 1)), h) := by
  rw [c_X2_isLine k1 f1, t4m]
  by_cases c1 : x < 0 <;> by_cases c2 : nI (4 * n) ≤ x <;> simp [c1, c2]
theorem op_sum {o : Nat → Nat} {z : Nat → Option Nat} {q x w : Int32} (R : Rel b o z h) : Op E (d + 9) b kX3_sum kX4_sum [.int q, .int x, .int w] h h := by
  have R' := R
  obtain ⟨L, ho, hm, _, _, hr, _⟩ := R'
  rcases kn2 R q with ⟨e1, e2⟩ | ⟨k, hk, e, h1, e1, e2⟩
  · refine ⟨.long 0, h, ?_, ?_⟩
    · simp only [e_X3_sum, s_X3_sum_0, s_X3_sum_1, s_X3_sum_2, s_X3_sum_5n, s_X3_sum_7n, s_X3_sum_9n, s_X3_sum_28, s_X3_sum_29, if_true, if_false, and_true, true_and, and_false, false_and, true_or, or_true, or_false, false_or, eq_self, not_true_eq_false, not_false_eq_true, zv_int, zv_ref, zv_null, zv_none, hK_sI, hF_sI, hJ_sI, hN_sI, hZ_sI, hI_sI_same, hK_sJ, hF_sJ, hI_sJ, hN_sJ, hZ_sJ, hJ_sJ_same, hK_sF, hI_sF, hJ_sF, hN_sF, hZ_sF, Option.bind_some, Option.toList_some, Option.toList_none, List.cons_append, List.nil_append, zq_ref, zq_null, L.k0, e1 E (d + 7)]
    · simp (decide := true) only [e_X4_sum, s_X4_sum_0, s_X4_sum_1, s_X4_sum_2, s_X4_sum_5, s_X4_sum_8, s_X4_sum_9, s_X4_sum_10, s_X4_sum_11, s_X4_sum_12, s_X4_sum_13, s_X4_sum_16, s_X4_sum_17, s_X4_sum_18, s_X4_sum_19, s_X4_sum_20, s_X4_sum_21, s_X4_sum_22, s_X4_sum_25, s_X4_sum_28, s_X4_sum_29, s_X4_sum_30, s_X4_sum_31, s_X4_sum_34, s_X4_sum_37, s_X4_sum_40, s_X4_sum_41, s_X4_sum_42, s_X4_sum_43, s_X4_sum_44, s_X4_sum_47, s_X4_sum_50, s_X4_sum_51, if_true, if_false, and_true, true_and, and_false, false_and, true_or, or_true, or_false, false_or, eq_self, not_true_eq_false, not_false_eq_true, zv_int, zv_ref, zv_null, zv_none, hK_sI, hF_sI, hJ_sI, hN_sI, hZ_sI, hI_sI_same, hK_sJ, hF_sJ, hI_sJ, hN_sJ, hZ_sJ, hJ_sJ_same, hK_sF, hI_sF, hJ_sF, hN_sF, hZ_sF, Option.bind_some, Option.toList_some, Option.toList_none, List.cons_append, List.nil_append, zq_ref, zq_null, L.k70, e2 E (d + 6)]
  · have p1 := pwC (E := E) (d := d + 7) (h := h) w
    have p2 := pwI (E := E) (d := d + 7) (h := h) w
    have hn := (ho k hk).2
    have z0 : zR q 24 := by rw [e]; exact zR_to (by decide) hk
    have z1 : q.toNatClampNeg = k := by rw [e]; exact nI_clamp (by omega)
    have l1 := linC (E := E) (d := d + 7) (x := x) (L.kQ hk) (ho k hk).1
    have l2 := inI (E := E) (d := d + 7) (h := h) (N := 4 * o k) (by omega) (by omega) x
    have s1 : nI (4 * o k) - 1 = nI (4 * o k - 1) := by rw [show (1 : Int32) = nI 1 from rfl, pk_sub (by omega)]
    rcases rng (N := 4 * o k) (by omega) x with cx | ⟨ln, hl, ex⟩
    · simp only [cx, if_true] at l1 l2
      refine ⟨.long 0, h, ?_, ?_⟩
      · simp (decide := true) only [e_X3_sum, s_X3_sum_0, s_X3_sum_1, s_X3_sum_2, s_X3_sum_5, s_X3_sum_5n, s_X3_sum_7, s_X3_sum_7n, s_X3_sum_9, s_X3_sum_9n, s_X3_sum_12, s_X3_sum_12n, s_X3_sum_14, s_X3_sum_15, s_X3_sum_18, s_X3_sum_21, s_X3_sum_22, s_X3_sum_25, s_X3_sum_28, s_X3_sum_29, s_X3_sum_30, s_X3_sum_30n, s_X3_sum_32, s_X3_sum_33, s_X3_sum_34, s_X3_sum_37, if_true, if_false, and_true, true_and, and_false, false_and, true_or, or_true, or_false, false_or, eq_self, not_true_eq_false, not_false_eq_true, zv_int, zv_ref, zv_null, zv_none, hK_sI, hF_sI, hJ_sI, hN_sI, hZ_sI, hI_sI_same, hK_sJ, hF_sJ, hI_sJ, hN_sJ, hZ_sJ, hJ_sJ_same, hK_sF, hI_sF, hJ_sF, hN_sF, hZ_sF, Option.bind_some, Option.toList_some, Option.toList_none, List.cons_append, List.nil_append, zq_ref, zq_null, L.k0, L.kQ hk, e1 E (d + 7), l1]
      · simp (decide := true) only [e_X4_sum, s_X4_sum_0, s_X4_sum_1, s_X4_sum_2, s_X4_sum_5, s_X4_sum_8, s_X4_sum_9, s_X4_sum_10, s_X4_sum_11, s_X4_sum_12, s_X4_sum_13, s_X4_sum_16, s_X4_sum_17, s_X4_sum_18, s_X4_sum_19, s_X4_sum_20, s_X4_sum_21, s_X4_sum_22, s_X4_sum_25, s_X4_sum_28, s_X4_sum_29, s_X4_sum_30, s_X4_sum_31, s_X4_sum_34, s_X4_sum_37, s_X4_sum_40, s_X4_sum_41, s_X4_sum_42, s_X4_sum_43, s_X4_sum_44, s_X4_sum_47, s_X4_sum_50, s_X4_sum_51, if_true, if_false, and_true, true_and, and_false, false_and, true_or, or_true, or_false, false_or, eq_self, not_true_eq_false, not_false_eq_true, zv_int, zv_ref, zv_null, zv_none, hK_sI, hF_sI, hJ_sI, hN_sI, hZ_sI, hI_sI_same, hK_sJ, hF_sJ, hI_sJ, hN_sJ, hZ_sJ, hJ_sJ_same, hK_sF, hI_sF, hJ_sF, hN_sF, hZ_sF, Option.bind_some, Option.toList_some, Option.toList_none, List.cons_append, List.nil_append, zq_ref, zq_null, L.k70, L.p70_6, L.k76, e2 E (d + 6), z0, z1, (hm k hk).1, t4m, s1, l2]
    · have cx : ¬ (x < 0 ∨ nI (4 * o k) ≤ x) := by
        rw [ex]
        exact fun c => c.elim (fun c => nI_nlt (b := 0) (by omega) (by omega) c) (fun c => nI_ge hl (by omega) c)
      simp only [cx, if_false] at l1 l2
      rcases pw3 w with cw | ⟨kw, hw, ew⟩
      · simp only [cw, if_true] at p1 p2
        refine ⟨.long 0, h, ?_, ?_⟩
        · simp (decide := true) only [e_X3_sum, s_X3_sum_0, s_X3_sum_1, s_X3_sum_2, s_X3_sum_5, s_X3_sum_5n, s_X3_sum_7, s_X3_sum_7n, s_X3_sum_9, s_X3_sum_9n, s_X3_sum_12, s_X3_sum_12n, s_X3_sum_14, s_X3_sum_15, s_X3_sum_18, s_X3_sum_21, s_X3_sum_22, s_X3_sum_25, s_X3_sum_28, s_X3_sum_29, s_X3_sum_30, s_X3_sum_30n, s_X3_sum_32, s_X3_sum_33, s_X3_sum_34, s_X3_sum_37, if_true, if_false, and_true, true_and, and_false, false_and, true_or, or_true, or_false, false_or, eq_self, not_true_eq_false, not_false_eq_true, zv_int, zv_ref, zv_null, zv_none, hK_sI, hF_sI, hJ_sI, hN_sI, hZ_sI, hI_sI_same, hK_sJ, hF_sJ, hI_sJ, hN_sJ, hZ_sJ, hJ_sJ_same, hK_sF, hI_sF, hJ_sF, hN_sF, hZ_sF, Option.bind_some, Option.toList_some, Option.toList_none, List.cons_append, List.nil_append, zq_ref, zq_null, L.k0, L.kQ hk, e1 E (d + 7), l1, p1]
        · simp (decide := true) only [e_X4_sum, s_X4_sum_0, s_X4_sum_1, s_X4_sum_2, s_X4_sum_5, s_X4_sum_8, s_X4_sum_9, s_X4_sum_10, s_X4_sum_11, s_X4_sum_12, s_X4_sum_13, s_X4_sum_16, s_X4_sum_17, s_X4_sum_18, s_X4_sum_19, s_X4_sum_20, s_X4_sum_21, s_X4_sum_22, s_X4_sum_25, s_X4_sum_28, s_X4_sum_29, s_X4_sum_30, s_X4_sum_31, s_X4_sum_34, s_X4_sum_37, s_X4_sum_40, s_X4_sum_41, s_X4_sum_42, s_X4_sum_43, s_X4_sum_44, s_X4_sum_47, s_X4_sum_50, s_X4_sum_51, if_true, if_false, and_true, true_and, and_false, false_and, true_or, or_true, or_false, false_or, eq_self, not_true_eq_false, not_false_eq_true, zv_int, zv_ref, zv_null, zv_none, hK_sI, hF_sI, hJ_sI, hN_sI, hZ_sI, hI_sI_same, hK_sJ, hF_sJ, hI_sJ, hN_sJ, hZ_sJ, hJ_sJ_same, hK_sF, hI_sF, hJ_sF, hN_sF, hZ_sF, Option.bind_some, Option.toList_some, Option.toList_none, List.cons_append, List.nil_append, zq_ref, zq_null, L.k70, L.p70_6, L.k76, e2 E (d + 6), z0, z1, (hm k hk).1, t4m, s1, l2, p2]
      · have cw : ¬ (w < 1 ∨ 3 < w) := by rw [ew]; rcases hw with c | c | c <;> subst c <;> decide
        simp only [cw, if_false] at p1 p2
        have e3 := c_X2_lineSum (E := E) (d := d + 6) (L.kQ hk) (L.kR hk) (L.pQ hk) (ho k hk).1 hn hl hw
        have e4 := c_X4_lineOf (E := E) (d := d + 6) L hk (hm k hk).1 hn hl hw
        rw [← lnS_cg (hr k hk).1 hl, ← e] at e4
        rw [← ew, ← ex] at e3 e4
        refine ⟨.long (lnS (hI h (aR b k)) (o k) ln kw), h, ?_, ?_⟩
        · simp (decide := true) only [e_X3_sum, s_X3_sum_0, s_X3_sum_1, s_X3_sum_2, s_X3_sum_5, s_X3_sum_5n, s_X3_sum_7, s_X3_sum_7n, s_X3_sum_9, s_X3_sum_9n, s_X3_sum_12, s_X3_sum_12n, s_X3_sum_14, s_X3_sum_15, s_X3_sum_18, s_X3_sum_21, s_X3_sum_22, s_X3_sum_25, s_X3_sum_28, s_X3_sum_29, s_X3_sum_30, s_X3_sum_30n, s_X3_sum_32, s_X3_sum_33, s_X3_sum_34, s_X3_sum_37, if_true, if_false, and_true, true_and, and_false, false_and, true_or, or_true, or_false, false_or, eq_self, not_true_eq_false, not_false_eq_true, zv_int, zv_ref, zv_null, zv_none, hK_sI, hF_sI, hJ_sI, hN_sI, hZ_sI, hI_sI_same, hK_sJ, hF_sJ, hI_sJ, hN_sJ, hZ_sJ, hJ_sJ_same, hK_sF, hI_sF, hJ_sF, hN_sF, hZ_sF, Option.bind_some, Option.toList_some, Option.toList_none, List.cons_append, List.nil_append, zq_ref, zq_null, L.k0, L.kQ hk, e1 E (d + 7), l1, p1, e3]
        · simp (decide := true) only [e_X4_sum, s_X4_sum_0, s_X4_sum_1, s_X4_sum_2, s_X4_sum_5, s_X4_sum_8, s_X4_sum_9, s_X4_sum_10, s_X4_sum_11, s_X4_sum_12, s_X4_sum_13, s_X4_sum_16, s_X4_sum_17, s_X4_sum_18, s_X4_sum_19, s_X4_sum_20, s_X4_sum_21, s_X4_sum_22, s_X4_sum_25, s_X4_sum_28, s_X4_sum_29, s_X4_sum_30, s_X4_sum_31, s_X4_sum_34, s_X4_sum_37, s_X4_sum_40, s_X4_sum_41, s_X4_sum_42, s_X4_sum_43, s_X4_sum_44, s_X4_sum_47, s_X4_sum_50, s_X4_sum_51, if_true, if_false, and_true, true_and, and_false, false_and, true_or, or_true, or_false, false_or, eq_self, not_true_eq_false, not_false_eq_true, zv_int, zv_ref, zv_null, zv_none, hK_sI, hF_sI, hJ_sI, hN_sI, hZ_sI, hI_sI_same, hK_sJ, hF_sJ, hI_sJ, hN_sJ, hZ_sJ, hJ_sJ_same, hK_sF, hI_sF, hJ_sF, hN_sF, hZ_sF, Option.bind_some, Option.toList_some, Option.toList_none, List.cons_append, List.nil_append, zq_ref, zq_null, L.k70, L.p70_6, L.k76, e2 E (d + 6), z0, z1, (hm k hk).1, t4m, s1, l2, p2, e4]
end
