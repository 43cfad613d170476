/-! ===== at ===== -/
section
variable {E : mE} {d : Nat} {h : mH} {b : Nat}
theorem op_at {o : Nat → Nat} {z : Nat → Option Nat} {q x y : Int32} (R : Rel b o z h) : Op E (d + 9) b kX3_at kX4_at [.int q, .int x, .int y] h h := by
  have R' := R
  obtain ⟨L, ho, hm, _, _, hr, _⟩ := R'
  rcases kn2 R q with ⟨e1, e2⟩ | ⟨k, hk, e, h1, e1, e2⟩
  · refine ⟨.int 1000000, h, ?_, ?_⟩
    · simp only [e_X3_at, s_X3_at_0, s_X3_at_1, s_X3_at_2, s_X3_at_5n, s_X3_at_7n, s_X3_at_9n, s_X3_at_30, s_X3_at_32, if_true, if_false, and_true, true_and, and_false, false_and, true_or, or_true, or_false, false_or, eq_self, not_true_eq_false, not_false_eq_true, zv_int, zv_ref, zv_null, zv_none, hK_sI, hF_sI, hJ_sI, hN_sI, hZ_sI, hI_sI_same, hK_sJ, hF_sJ, hI_sJ, hN_sJ, hZ_sJ, hJ_sJ_same, hK_sF, hI_sF, hJ_sF, hN_sF, hZ_sF, Option.bind_some, Option.toList_some, Option.toList_none, List.cons_append, List.nil_append, zq_ref, zq_null, L.k0, e1 E (d + 7)]
    · simp (decide := true) only [e_X4_at, s_X4_at_0, s_X4_at_1, s_X4_at_2, s_X4_at_5, s_X4_at_8, s_X4_at_9, s_X4_at_10, s_X4_at_11, s_X4_at_12, s_X4_at_15, s_X4_at_16, s_X4_at_17, s_X4_at_18, s_X4_at_19, s_X4_at_20, s_X4_at_23, s_X4_at_26, s_X4_at_27, s_X4_at_28, s_X4_at_29, s_X4_at_30, s_X4_at_33, s_X4_at_34, s_X4_at_35, s_X4_at_36, s_X4_at_37, s_X4_at_38, s_X4_at_41, s_X4_at_44, s_X4_at_45, s_X4_at_46, s_X4_at_47, s_X4_at_48, s_X4_at_51, s_X4_at_54, s_X4_at_56, if_true, if_false, and_true, true_and, and_false, false_and, true_or, or_true, or_false, false_or, eq_self, not_true_eq_false, not_false_eq_true, zv_int, zv_ref, zv_null, zv_none, hK_sI, hF_sI, hJ_sI, hN_sI, hZ_sI, hI_sI_same, hK_sJ, hF_sJ, hI_sJ, hN_sJ, hZ_sJ, hJ_sJ_same, hK_sF, hI_sF, hJ_sF, hN_sF, hZ_sF, Option.bind_some, Option.toList_some, Option.toList_none, List.cons_append, List.nil_append, zq_ref, zq_null, L.k70, e2 E (d + 6)]
  · have hn := (ho k hk).2
    have z0 : zR q 24 := by rw [e]; exact zR_to (by decide) hk
    have z1 : q.toNatClampNeg = k := by rw [e]; exact nI_clamp (by omega)
    have l1 := rowC (E := E) (d := d + 7) (x := x) (L.kQ hk) (ho k hk).1
    have l2 := inI (E := E) (d := d + 7) (h := h) (N := o k) (by omega) (by omega) x
    have m1 := rowC (E := E) (d := d + 7) (x := y) (L.kQ hk) (ho k hk).1
    have m2 := inI (E := E) (d := d + 7) (h := h) (N := o k) (by omega) (by omega) y
    have s1 : nI (o k) - 1 = nI (o k - 1) := by rw [show (1 : Int32) = nI 1 from rfl, pk_sub (by omega)]
    have no : ∀ i, i < o k → ¬ (nI i < 0 ∨ nI (o k) ≤ nI i) := fun i hi c => c.elim (fun c => nI_nlt (b := 0) (by omega) (by omega) c) (fun c => nI_ge hi (by omega) c)
    rcases rng (N := o k) (by omega) x with cx | ⟨i, hi, ex⟩
    · simp only [cx, if_true] at l1 l2
      refine ⟨.int 1000000, h, ?_, ?_⟩
      · simp (decide := true) only [e_X3_at, s_X3_at_0, s_X3_at_1, s_X3_at_2, s_X3_at_5, s_X3_at_5n, s_X3_at_7, s_X3_at_7n, s_X3_at_9, s_X3_at_9n, s_X3_at_12, s_X3_at_12n, s_X3_at_14, s_X3_at_15, s_X3_at_18, s_X3_at_21, s_X3_at_21n, s_X3_at_23, s_X3_at_24, s_X3_at_27, s_X3_at_30, s_X3_at_32, s_X3_at_33, s_X3_at_33n, s_X3_at_35, s_X3_at_36, s_X3_at_37, s_X3_at_40, if_true, if_false, and_true, true_and, and_false, false_and, true_or, or_true, or_false, false_or, eq_self, not_true_eq_false, not_false_eq_true, zv_int, zv_ref, zv_null, zv_none, hK_sI, hF_sI, hJ_sI, hN_sI, hZ_sI, hI_sI_same, hK_sJ, hF_sJ, hI_sJ, hN_sJ, hZ_sJ, hJ_sJ_same, hK_sF, hI_sF, hJ_sF, hN_sF, hZ_sF, Option.bind_some, Option.toList_some, Option.toList_none, List.cons_append, List.nil_append, zq_ref, zq_null, L.k0, L.kQ hk, e1 E (d + 7), l1]
      · simp (decide := true) only [e_X4_at, s_X4_at_0, s_X4_at_1, s_X4_at_2, s_X4_at_5, s_X4_at_8, s_X4_at_9, s_X4_at_10, s_X4_at_11, s_X4_at_12, s_X4_at_15, s_X4_at_16, s_X4_at_17, s_X4_at_18, s_X4_at_19, s_X4_at_20, s_X4_at_23, s_X4_at_26, s_X4_at_27, s_X4_at_28, s_X4_at_29, s_X4_at_30, s_X4_at_33, s_X4_at_34, s_X4_at_35, s_X4_at_36, s_X4_at_37, s_X4_at_38, s_X4_at_41, s_X4_at_44, s_X4_at_45, s_X4_at_46, s_X4_at_47, s_X4_at_48, s_X4_at_51, s_X4_at_54, s_X4_at_56, if_true, if_false, and_true, true_and, and_false, false_and, true_or, or_true, or_false, false_or, eq_self, not_true_eq_false, not_false_eq_true, zv_int, zv_ref, zv_null, zv_none, hK_sI, hF_sI, hJ_sI, hN_sI, hZ_sI, hI_sI_same, hK_sJ, hF_sJ, hI_sJ, hN_sJ, hZ_sJ, hJ_sJ_same, hK_sF, hI_sF, hJ_sF, hN_sF, hZ_sF, Option.bind_some, Option.toList_some, Option.toList_none, List.cons_append, List.nil_append, zq_ref, zq_null, L.k70, L.p70_6, L.k76, e2 E (d + 6), z0, z1, (hm k hk).1, s1, l2]
    · have cx : ¬ (x < 0 ∨ nI (o k) ≤ x) := by rw [ex]; exact no i hi
      simp only [cx, if_false] at l1 l2
      rcases rng (N := o k) (by omega) y with cy | ⟨j, hj, ey⟩
      · simp only [cy, if_true] at m1 m2
        refine ⟨.int 1000000, h, ?_, ?_⟩
        · simp (decide := true) only [e_X3_at, s_X3_at_0, s_X3_at_1, s_X3_at_2, s_X3_at_5, s_X3_at_5n, s_X3_at_7, s_X3_at_7n, s_X3_at_9, s_X3_at_9n, s_X3_at_12, s_X3_at_12n, s_X3_at_14, s_X3_at_15, s_X3_at_18, s_X3_at_21, s_X3_at_21n, s_X3_at_23, s_X3_at_24, s_X3_at_27, s_X3_at_30, s_X3_at_32, s_X3_at_33, s_X3_at_33n, s_X3_at_35, s_X3_at_36, s_X3_at_37, s_X3_at_40, if_true, if_false, and_true, true_and, and_false, false_and, true_or, or_true, or_false, false_or, eq_self, not_true_eq_false, not_false_eq_true, zv_int, zv_ref, zv_null, zv_none, hK_sI, hF_sI, hJ_sI, hN_sI, hZ_sI, hI_sI_same, hK_sJ, hF_sJ, hI_sJ, hN_sJ, hZ_sJ, hJ_sJ_same, hK_sF, hI_sF, hJ_sF, hN_sF, hZ_sF, Option.bind_some, Option.toList_some, Option.toList_none, List.cons_append, List.nil_append, zq_ref, zq_null, L.k0, L.kQ hk, e1 E (d + 7), l1, m1]
        · simp (decide := true) only [e_X4_at, s_X4_at_0, s_X4_at_1, s_X4_at_2, s_X4_at_5, s_X4_at_8, s_X4_at_9, s_X4_at_10, s_X4_at_11, s_X4_at_12, s_X4_at_15, s_X4_at_16, s_X4_at_17, s_X4_at_18, s_X4_at_19, s_X4_at_20, s_X4_at_23, s_X4_at_26, s_X4_at_27, s_X4_at_28, s_X4_at_29, s_X4_at_30, s_X4_at_33, s_X4_at_34, s_X4_at_35, s_X4_at_36, s_X4_at_37, s_X4_at_38, s_X4_at_41, s_X4_at_44, s_X4_at_45, s_X4_at_46, s_X4_at_47, s_X4_at_48, s_X4_at_51, s_X4_at_54, s_X4_at_56, if_true, if_false, and_true, true_and, and_false, false_and, true_or, or_true, or_false, false_or, eq_self, not_true_eq_false, not_false_eq_true, zv_int, zv_ref, zv_null, zv_none, hK_sI, hF_sI, hJ_sI, hN_sI, hZ_sI, hI_sI_same, hK_sJ, hF_sJ, hI_sJ, hN_sJ, hZ_sJ, hJ_sJ_same, hK_sF, hI_sF, hJ_sF, hN_sF, hZ_sF, Option.bind_some, Option.toList_some, Option.toList_none, List.cons_append, List.nil_append, zq_ref, zq_null, L.k70, L.p70_6, L.k76, e2 E (d + 6), z0, z1, (hm k hk).1, s1, l2, m2]
      · have cy : ¬ (y < 0 ∨ nI (o k) ≤ y) := by rw [ey]; exact no j hj
        simp only [cy, if_false] at m1 m2
        have e3 := c_X2_numberN (E := E) (d := d + 7) (L.kQ hk) (L.kR hk) (L.pQ hk) (ho k hk).1 hn hi hj
        have e4 := c_X4_of (E := E) (d := d + 7) L hk (hm k hk).1 hi hj hn
        have lt : o k * i + j < o k * o k := by
          have := Nat.mul_le_mul_left (o k) (show i + 1 ≤ o k by omega)
          rw [Nat.mul_add, Nat.mul_one] at this
          omega
        have g1 : hI h (aR b k) (o k * i + j) = hI h (b + 77) (144 * k + (o k * i + j)) := (hr k hk).1 (o k * i + j) lt
        rw [← g1, Nat.mul_comm (o k) i, ← e] at e4
        rw [← ex, ← ey] at e3 e4
        refine ⟨.int (hI h (aR b k) (i * o k + j)), h, ?_, ?_⟩
        · simp (decide := true) only [e_X3_at, s_X3_at_0, s_X3_at_1, s_X3_at_2, s_X3_at_5, s_X3_at_5n, s_X3_at_7, s_X3_at_7n, s_X3_at_9, s_X3_at_9n, s_X3_at_12, s_X3_at_12n, s_X3_at_14, s_X3_at_15, s_X3_at_18, s_X3_at_21, s_X3_at_21n, s_X3_at_23, s_X3_at_24, s_X3_at_27, s_X3_at_30, s_X3_at_32, s_X3_at_33, s_X3_at_33n, s_X3_at_35, s_X3_at_36, s_X3_at_37, s_X3_at_40, if_true, if_false, and_true, true_and, and_false, false_and, true_or, or_true, or_false, false_or, eq_self, not_true_eq_false, not_false_eq_true, zv_int, zv_ref, zv_null, zv_none, hK_sI, hF_sI, hJ_sI, hN_sI, hZ_sI, hI_sI_same, hK_sJ, hF_sJ, hI_sJ, hN_sJ, hZ_sJ, hJ_sJ_same, hK_sF, hI_sF, hJ_sF, hN_sF, hZ_sF, Option.bind_some, Option.toList_some, Option.toList_none, List.cons_append, List.nil_append, zq_ref, zq_null, L.k0, L.kQ hk, e1 E (d + 7), l1, m1, e3]
        · simp (decide := true) only [e_X4_at, s_X4_at_0, s_X4_at_1, s_X4_at_2, s_X4_at_5, s_X4_at_8, s_X4_at_9, s_X4_at_10, s_X4_at_11, s_X4_at_12, s_X4_at_15, s_X4_at_16, s_X4_at_17, s_X4_at_18, s_X4_at_19, s_X4_at_20, s_X4_at_23, s_X4_at_26, s_X4_at_27, s_X4_at_28, s_X4_at_29, s_X4_at_30, s_X4_at_33, s_X4_at_34, s_X4_at_35, s_X4_at_36, s_X4_at_37, s_X4_at_38, s_X4_at_41, s_X4_at_44, s_X4_at_45, s_X4_at_46, s_X4_at_47, s_X4_at_48, s_X4_at_51, s_X4_at_54, s_X4_at_56, if_true, if_false, and_true, true_and, and_false, false_and, true_or, or_true, or_false, false_or, eq_self, not_true_eq_false, not_false_eq_true, zv_int, zv_ref, zv_null, zv_none, hK_sI, hF_sI, hJ_sI, hN_sI, hZ_sI, hI_sI_same, hK_sJ, hF_sJ, hI_sJ, hN_sJ, hZ_sJ, hJ_sJ_same, hK_sF, hI_sF, hJ_sF, hN_sF, hZ_sF, Option.bind_some, Option.toList_some, Option.toList_none, List.cons_append, List.nil_append, zq_ref, zq_null, L.k70, L.p70_6, L.k76, e2 E (d + 6), z0, z1, (hm k hk).1, s1, l2, m2, e4]
end
