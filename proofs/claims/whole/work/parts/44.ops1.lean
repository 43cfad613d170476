/-! ===== calls that ask ===== -/
section
variable {E : mE} {d : Nat} {h : mH} {b : Nat}
/-- what both sides say of a number of a square -/
theorem kn2 {o : Nat → Nat} {z : Nat → Option Nat} (R : Rel b o z h) (q : Int32) : ((∀ E d, cal E (d + 1) kX3_known [.ref b, .int q] h = some (some .null, h)) ∧ (∀ E d, cal E (d + 2) kX4_isSquare [.ref (b + 70), .int q] h = some (some (.int 0), h))) ∨ ∃ k, k < 24 ∧ q = nI k ∧ 1 ≤ o k ∧ (∀ E d, cal E (d + 1) kX3_known [.ref b, .int q] h = some (some (.ref (aQ b k)), h)) ∧ (∀ E d, cal E (d + 2) kX4_isSquare [.ref (b + 70), .int q] h = some (some (.int 1), h)) := by
  obtain ⟨L, ho, hm, _⟩ := R
  rcases q24 q with c | ⟨k, hk, e⟩
  · exact Or.inl ⟨fun E d => c_X3_knownN c, fun E d => c_X4_isSquareN L c⟩
  · subst e
    have e1 := fun E d => c_X3_known (E := E) (d := d) L hk (ho k hk).1 (ho k hk).2
    have e2 := fun E d => c_X4_isSquare (E := E) (d := d) L hk (hm k hk).1 (hm k hk).2
    by_cases c : o k = 0
    · have c' : ¬ 0 < o k := by omega
      simp only [eq_true c, if_true] at e1
      simp only [c', if_false] at e2
      exact Or.inl ⟨e1, e2⟩
    · have c' : 0 < o k := by omega
      simp only [eq_false c, if_false] at e1
      simp only [c', if_true] at e2
      exact Or.inr ⟨k, hk, rfl, c', e1, e2⟩
theorem op_form {o : Nat → Nat} {z : Nat → Option Nat} {q : Int32} (R : Rel b o z h) : Op E (d + 9) b kX3_form kX4_form [.int q] h h := by
  have R' := R
  obtain ⟨L, ho, hm, _, _, hr, _⟩ := R'
  rcases kn2 R q with ⟨e1, e2⟩ | ⟨k, hk, e, h1, e1, e2⟩
  · refine ⟨.int (-101), h, ?_, ?_⟩
    · simp only [e_X3_form, s_X3_form_0, s_X3_form_1, s_X3_form_2, s_X3_form_5n, s_X3_form_6n, s_X3_form_7n, s_X3_form_10, s_X3_form_12, s_X3_form_19, if_true, if_false, and_true, true_and, and_false, false_and, true_or, or_true, or_false, false_or, eq_self, not_true_eq_false, not_false_eq_true, zv_int, zv_ref, zv_null, zv_none, hK_sI, hF_sI, hJ_sI, hN_sI, hZ_sI, hI_sI_same, hK_sJ, hF_sJ, hI_sJ, hN_sJ, hZ_sJ, hJ_sJ_same, hK_sF, hI_sF, hJ_sF, hN_sF, hZ_sF, Option.bind_some, Option.toList_some, Option.toList_none, List.cons_append, List.nil_append, zq_ref, zq_null, L.k0, e1 E (d + 7)]
    · simp only [e_X4_form, s_X4_form_0, s_X4_form_1, s_X4_form_2, s_X4_form_5, s_X4_form_8, s_X4_form_9, s_X4_form_10, s_X4_form_13, s_X4_form_16, s_X4_form_18, if_true, if_false, and_true, true_and, and_false, false_and, true_or, or_true, or_false, false_or, eq_self, not_true_eq_false, not_false_eq_true, zv_int, zv_ref, zv_null, zv_none, hK_sI, hF_sI, hJ_sI, hN_sI, hZ_sI, hI_sI_same, hK_sJ, hF_sJ, hI_sJ, hN_sJ, hZ_sJ, hJ_sJ_same, hK_sF, hI_sF, hJ_sF, hN_sF, hZ_sF, Option.bind_some, Option.toList_some, Option.toList_none, List.cons_append, List.nil_append, zq_ref, zq_null, L.k70, e2 E (d + 6)]
  · have e3 := c_X2_leastTurn (E := E) (d := d + 5) (L.kQ hk) (L.kR hk) (L.pQ hk) (ho k hk).1 (ho k hk).2
    have hb : bd (fun p => hI h (b + 77) (144 * k + p)) (o k * o k) := fun p hp => by rw [← (hr k hk).1 p hp]; exact (hr k hk).2 p hp
    have e4 := c_X4_formOf (E := E) (d := d + 5) L hk rfl (hm k hk).1 hb ⟨h1, (ho k hk).2⟩
    rw [← fm_cg (ho k hk).2 (hr k hk).1] at e4
    subst e
    refine ⟨.int (nI (fm (hI h (aR b k)) (o k))), h, ?_, ?_⟩
    · simp only [e_X3_form, s_X3_form_0, s_X3_form_1, s_X3_form_2, s_X3_form_5, s_X3_form_5n, s_X3_form_6, s_X3_form_6n, s_X3_form_7, s_X3_form_7n, s_X3_form_10, s_X3_form_12, s_X3_form_15, s_X3_form_15n, s_X3_form_16, s_X3_form_19, if_true, if_false, and_true, true_and, and_false, false_and, true_or, or_true, or_false, false_or, eq_self, not_true_eq_false, not_false_eq_true, zv_int, zv_ref, zv_null, zv_none, hK_sI, hF_sI, hJ_sI, hN_sI, hZ_sI, hI_sI_same, hK_sJ, hF_sJ, hI_sJ, hN_sJ, hZ_sJ, hJ_sJ_same, hK_sF, hI_sF, hJ_sF, hN_sF, hZ_sF, Option.bind_some, Option.toList_some, Option.toList_none, List.cons_append, List.nil_append, zq_ref, zq_null, L.k0, e1 E (d + 7), L.kQ hk, e3]
    · simp (decide := true) only [e_X4_form, s_X4_form_0, s_X4_form_1, s_X4_form_2, s_X4_form_5, s_X4_form_8, s_X4_form_9, s_X4_form_10, s_X4_form_13, s_X4_form_16, s_X4_form_18, if_true, if_false, and_true, true_and, and_false, false_and, true_or, or_true, or_false, false_or, eq_self, not_true_eq_false, not_false_eq_true, zv_int, zv_ref, zv_null, zv_none, hK_sI, hF_sI, hJ_sI, hN_sI, hZ_sI, hI_sI_same, hK_sJ, hF_sJ, hI_sJ, hN_sJ, hZ_sJ, hJ_sJ_same, hK_sF, hI_sF, hJ_sF, hN_sF, hZ_sF, Option.bind_some, Option.toList_some, Option.toList_none, List.cons_append, List.nil_append, zq_ref, zq_null, L.k70, e2 E (d + 6), e4]
theorem op_unlike {o : Nat → Nat} {z : Nat → Option Nat} {q : Int32} (R : Rel b o z h) : Op E (d + 9) b kX3_unlike kX4_unlike [.int q] h h := by
  have R' := R
  obtain ⟨L, ho, hm, _, _, hr, _⟩ := R'
  rcases kn2 R q with ⟨e1, e2⟩ | ⟨k, hk, e, h1, e1, e2⟩
  · refine ⟨.int (-101), h, ?_, ?_⟩
    · simp only [e_X3_unlike, s_X3_unlike_0, s_X3_unlike_1, s_X3_unlike_2, s_X3_unlike_5n, s_X3_unlike_6n, s_X3_unlike_7n, s_X3_unlike_10, s_X3_unlike_12, s_X3_unlike_19, if_true, if_false, and_true, true_and, and_false, false_and, true_or, or_true, or_false, false_or, eq_self, not_true_eq_false, not_false_eq_true, zv_int, zv_ref, zv_null, zv_none, hK_sI, hF_sI, hJ_sI, hN_sI, hZ_sI, hI_sI_same, hK_sJ, hF_sJ, hI_sJ, hN_sJ, hZ_sJ, hJ_sJ_same, hK_sF, hI_sF, hJ_sF, hN_sF, hZ_sF, Option.bind_some, Option.toList_some, Option.toList_none, List.cons_append, List.nil_append, zq_ref, zq_null, L.k0, e1 E (d + 7)]
    · simp (decide := true) only [e_X4_unlike, s_X4_unlike_0, s_X4_unlike_1, s_X4_unlike_2, s_X4_unlike_5, s_X4_unlike_8, s_X4_unlike_10, s_X4_unlike_11, s_X4_unlike_12, s_X4_unlike_13, s_X4_unlike_14, s_X4_unlike_16, s_X4_unlike_18, s_X4_unlike_21, s_X4_unlike_22, s_X4_unlike_24, s_X4_unlike_25, s_X4_unlike_29, s_X4_unlike_30, s_X4_unlike_33, s_X4_unlike_35, s_X4_unlike_38, s_X4_unlike_39, s_X4_unlike_40, s_X4_unlike_41, s_X4_unlike_43, s_X4_unlike_46, s_X4_unlike_49, s_X4_unlike_50, s_X4_unlike_53, s_X4_unlike_54, s_X4_unlike_56, s_X4_unlike_59, s_X4_unlike_62, s_X4_unlike_63, s_X4_unlike_65, s_X4_unlike_68, s_X4_unlike_69, s_X4_unlike_72, s_X4_unlike_73, s_X4_unlike_74, s_X4_unlike_75, s_X4_unlike_78, s_X4_unlike_81, s_X4_unlike_82, if_true, if_false, and_true, true_and, and_false, false_and, true_or, or_true, or_false, false_or, eq_self, not_true_eq_false, not_false_eq_true, zv_int, zv_ref, zv_null, zv_none, hK_sI, hF_sI, hJ_sI, hN_sI, hZ_sI, hI_sI_same, hK_sJ, hF_sJ, hI_sJ, hN_sJ, hZ_sJ, hJ_sJ_same, hK_sF, hI_sF, hJ_sF, hN_sF, hZ_sF, Option.bind_some, Option.toList_some, Option.toList_none, List.cons_append, List.nil_append, zq_ref, zq_null, L.k70, e2 E (d + 6)]
  · have e3 := c_X2_unlikeTurns (E := E) (d := d + 4) (L.kQ hk) (L.kR hk) (L.pQ hk) (ho k hk).1 (ho k hk).2
    have hb : bd (fun p => hI h (b + 77) (144 * k + p)) (o k * o k) := fun p hp => by rw [← (hr k hk).1 p hp]; exact (hr k hk).2 p hp
    have e4 := lp_munl (E := E) (d := d + 6) L hk rfl (hm k hk).1 hb ⟨h1, (ho k hk).2⟩ 8 0 0 none none (by omega)
    rw [Nat.zero_add, nI_0] at e4
    have e5 : cn (unp (fun p => hI h (b + 77) (144 * k + p)) (o k)) 8 0 = unl (hI h (aR b k)) (o k) := (unl_cg (ho k hk).2 (hr k hk).1).symm
    rw [e5] at e4
    subst e
    refine ⟨.int (nI (unl (hI h (aR b k)) (o k))), h, ?_, ?_⟩
    · simp only [e_X3_unlike, s_X3_unlike_0, s_X3_unlike_1, s_X3_unlike_2, s_X3_unlike_5, s_X3_unlike_5n, s_X3_unlike_6, s_X3_unlike_6n, s_X3_unlike_7, s_X3_unlike_7n, s_X3_unlike_10, s_X3_unlike_12, s_X3_unlike_15, s_X3_unlike_15n, s_X3_unlike_16, s_X3_unlike_19, if_true, if_false, and_true, true_and, and_false, false_and, true_or, or_true, or_false, false_or, eq_self, not_true_eq_false, not_false_eq_true, zv_int, zv_ref, zv_null, zv_none, hK_sI, hF_sI, hJ_sI, hN_sI, hZ_sI, hI_sI_same, hK_sJ, hF_sJ, hI_sJ, hN_sJ, hZ_sJ, hJ_sJ_same, hK_sF, hI_sF, hJ_sF, hN_sF, hZ_sF, Option.bind_some, Option.toList_some, Option.toList_none, List.cons_append, List.nil_append, zq_ref, zq_null, L.k0, e1 E (d + 7), L.kQ hk, e3]
    · simp (decide := true) only [e_X4_unlike, s_X4_unlike_0, s_X4_unlike_1, s_X4_unlike_2, s_X4_unlike_5, s_X4_unlike_8, s_X4_unlike_10, s_X4_unlike_11, s_X4_unlike_12, s_X4_unlike_13, s_X4_unlike_14, s_X4_unlike_16, s_X4_unlike_18, s_X4_unlike_21, s_X4_unlike_22, s_X4_unlike_24, s_X4_unlike_25, s_X4_unlike_29, s_X4_unlike_30, s_X4_unlike_33, s_X4_unlike_35, s_X4_unlike_38, s_X4_unlike_39, s_X4_unlike_40, s_X4_unlike_41, s_X4_unlike_43, s_X4_unlike_46, s_X4_unlike_49, s_X4_unlike_50, s_X4_unlike_53, s_X4_unlike_54, s_X4_unlike_56, s_X4_unlike_59, s_X4_unlike_62, s_X4_unlike_63, s_X4_unlike_65, s_X4_unlike_68, s_X4_unlike_69, s_X4_unlike_72, s_X4_unlike_73, s_X4_unlike_74, s_X4_unlike_75, s_X4_unlike_78, s_X4_unlike_81, s_X4_unlike_82, if_true, if_false, and_true, true_and, and_false, false_and, true_or, or_true, or_false, false_or, eq_self, not_true_eq_false, not_false_eq_true, zv_int, zv_ref, zv_null, zv_none, hK_sI, hF_sI, hJ_sI, hN_sI, hZ_sI, hI_sI_same, hK_sJ, hF_sJ, hI_sJ, hN_sJ, hZ_sJ, hJ_sJ_same, hK_sF, hI_sF, hJ_sF, hN_sF, hZ_sF, Option.bind_some, Option.toList_some, Option.toList_none, List.cons_append, List.nil_append, zq_ref, zq_null, L.k70, e2 E (d + 6)]
      exact e4
end
