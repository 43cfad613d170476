/-! ===== drop ===== -/
section
variable {E : mE} {d : Nat} {h : mH} {b : Nat}
theorem op_drop {o : Nat → Nat} {z : Nat → Option Nat} {q : Int32} (R : Rel b o z h) : ∃ h2, Op E (d + 9) b kX3_drop kX4_drop [.int q] h h2 ∧ (h2 = h ∨ ∃ k, k < 24 ∧ h2 = sI (sF h (aQ b k) 1 (.int 0)) (b + 76) (upd (hI h (b + 76)) k 0)) := by
  have R' := R
  obtain ⟨L, ho, hm, _, _, hr, _⟩ := R'
  rcases kn2 R q with ⟨e1, e2⟩ | ⟨k, hk, e, h1, e1, e2⟩
  · refine ⟨h, ⟨.int (-101), h, ?_, ?_⟩, Or.inl rfl⟩
    · simp only [e_X3_drop, s_X3_drop_0, s_X3_drop_1, s_X3_drop_2, s_X3_drop_5n, s_X3_drop_6n, s_X3_drop_7n, s_X3_drop_10, s_X3_drop_12, if_true, if_false, and_true, true_and, and_false, false_and, true_or, or_true, or_false, false_or, eq_self, not_true_eq_false, not_false_eq_true, zv_int, zv_ref, zv_null, zv_none, hK_sI, hF_sI, hJ_sI, hN_sI, hZ_sI, hI_sI_same, hK_sJ, hF_sJ, hI_sJ, hN_sJ, hZ_sJ, hJ_sJ_same, hK_sF, hI_sF, hJ_sF, hN_sF, hZ_sF, Option.bind_some, Option.toList_some, Option.toList_none, List.cons_append, List.nil_append, zq_ref, zq_null, L.k0, e1 E (d + 7)]
    · simp (decide := true) only [e_X4_drop, s_X4_drop_0, s_X4_drop_1, s_X4_drop_2, s_X4_drop_5, s_X4_drop_8, s_X4_drop_10, s_X4_drop_11, s_X4_drop_12, s_X4_drop_15, s_X4_drop_16, s_X4_drop_17, s_X4_drop_18, s_X4_drop_19, s_X4_drop_22, s_X4_drop_23, s_X4_drop_24, s_X4_drop_25, s_X4_drop_26, if_true, if_false, and_true, true_and, and_false, false_and, true_or, or_true, or_false, false_or, eq_self, not_true_eq_false, not_false_eq_true, zv_int, zv_ref, zv_null, zv_none, hK_sI, hF_sI, hJ_sI, hN_sI, hZ_sI, hI_sI_same, hK_sJ, hF_sJ, hI_sJ, hN_sJ, hZ_sJ, hJ_sJ_same, hK_sF, hI_sF, hJ_sF, hN_sF, hZ_sF, Option.bind_some, Option.toList_some, Option.toList_none, List.cons_append, List.nil_append, zq_ref, zq_null, L.k70, e2 E (d + 6)]
  · have z0 : zR q 24 := by rw [e]; exact zR_to (by decide) hk
    have z1 : q.toNatClampNeg = k := by rw [e]; exact nI_clamp (by omega)
    have L' : Lay b (sF h (aQ b k) 1 (.int 0)) := L.sF (22 + 2 * k) 1 _ (pfQ k hk)
    have e5 := c_X4_isSquare (E := E) (d := d + 6) (h := sF h (aQ b k) 1 (.int 0)) L' hk (hm k hk).1 (hm k hk).2
    have c' : 0 < o k := h1
    simp only [c', if_true] at e5
    rw [← e] at e5
    refine ⟨_, ⟨.int (nI (o k)), sF h (aQ b k) 1 (.int 0), ?_, ?_⟩, Or.inr ⟨k, hk, rfl⟩⟩
    · simp only [e_X3_drop, s_X3_drop_0, s_X3_drop_1, s_X3_drop_2, s_X3_drop_5, s_X3_drop_5n, s_X3_drop_6, s_X3_drop_6n, s_X3_drop_7, s_X3_drop_7n, s_X3_drop_10, s_X3_drop_12, s_X3_drop_13, s_X3_drop_13n, s_X3_drop_14, s_X3_drop_17, s_X3_drop_18, s_X3_drop_18n, s_X3_drop_19, s_X3_drop_20, s_X3_drop_23, s_X3_drop_24, if_true, if_false, and_true, true_and, and_false, false_and, true_or, or_true, or_false, false_or, eq_self, not_true_eq_false, not_false_eq_true, zv_int, zv_ref, zv_null, zv_none, hK_sI, hF_sI, hJ_sI, hN_sI, hZ_sI, hI_sI_same, hK_sJ, hF_sJ, hI_sJ, hN_sJ, hZ_sJ, hJ_sJ_same, hK_sF, hI_sF, hJ_sF, hN_sF, hZ_sF, Option.bind_some, Option.toList_some, Option.toList_none, List.cons_append, List.nil_append, zq_ref, zq_null, L.k0, e1 E (d + 7), L.kQ hk, (ho k hk).1]
    · simp (decide := true) only [e_X4_drop, s_X4_drop_0, s_X4_drop_1, s_X4_drop_2, s_X4_drop_5, s_X4_drop_8, s_X4_drop_10, s_X4_drop_11, s_X4_drop_12, s_X4_drop_15, s_X4_drop_16, s_X4_drop_17, s_X4_drop_18, s_X4_drop_19, s_X4_drop_22, s_X4_drop_23, s_X4_drop_24, s_X4_drop_25, s_X4_drop_26, if_true, if_false, and_true, true_and, and_false, false_and, true_or, or_true, or_false, false_or, eq_self, not_true_eq_false, not_false_eq_true, zv_int, zv_ref, zv_null, zv_none, hK_sI, hF_sI, hJ_sI, hN_sI, hZ_sI, hI_sI_same, hK_sJ, hF_sJ, hI_sJ, hN_sJ, hZ_sJ, hJ_sJ_same, hK_sF, hI_sF, hJ_sF, hN_sF, hZ_sF, Option.bind_some, Option.toList_some, Option.toList_none, List.cons_append, List.nil_append, zq_ref, zq_null, L'.k70, L'.p70_6, L'.k76, L.k70, L.k76, z0, z1, e5, (hm k hk).1]
end
