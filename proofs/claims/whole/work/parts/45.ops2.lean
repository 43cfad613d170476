/-! ===== more calls that ask ===== -/
section
variable {E : mE} {d : Nat} {h : mH} {b : Nat}
/-- a power is 1, 2, 3, or none -/
theorem pw3 (w : Int32) : (w < 1 ∨ 3 < w) ∨ ∃ k, (k = 1 ∨ k = 2 ∨ k = 3) ∧ w = nI k := by
  by_cases c1 : w < 1
  · exact Or.inl (Or.inl c1)
  · by_cases c2 : 3 < w
    · exact Or.inl (Or.inr c2)
    · right
      have c3 : w ≤ 5 := by
        rw [n32_lt] at c2
        rw [Int32.le_iff_toInt_le] at c2 ⊢
        have e3 : (3 : Int32).toInt = 3 := rfl
        have e5 : (5 : Int32).toInt = 5 := rfl
        omega
      obtain ⟨k, k1, k2, e⟩ := zr16 c1 c3
      refine ⟨k, ?_, e⟩
      match k, k1, k2, e with
      | 1, _, _, _ => exact Or.inl rfl
      | 2, _, _, _ => exact Or.inr (Or.inl rfl)
      | 3, _, _, _ => exact Or.inr (Or.inr rfl)
      | 4, _, _, e => exact absurd (by rw [e]; decide) c2
      | 5, _, _, e => exact absurd (by rw [e]; decide) c2
theorem pwI (w : Int32) : cal E (d + 1) kX4_in [.long w.toInt64, .long 1, .long 3] h = some (some (.int (if w < 1 ∨ 3 < w then 0 else 1)), h) := by
  rw [c_X4_in]
  have e1 : (1 : Int64) = (1 : Int32).toInt64 := rfl
  have e3 : (3 : Int64) = (3 : Int32).toInt64 := rfl
  have j1 : ((1 : Int64) ≤ w.toInt64) ↔ ¬ w < 1 := by rw [e1, i64_le, n32_lt]
  have j2 : (w.toInt64 ≤ (3 : Int64)) ↔ ¬ 3 < w := by rw [e3, i64_le, n32_lt]
  by_cases c1 : w < 1 <;> by_cases c2 : 3 < w <;> simp [j1, j2, c1, c2]
theorem pwC (w : Int32) : cal E (d + 1) kX3_isPower [.int w] h = some (some (.int (if w < 1 ∨ 3 < w then 0 else 1)), h) := by
  rw [c_X3_isPower]
  by_cases c1 : w < 1 <;> by_cases c2 : 3 < w <;> simp [c1, c2]
theorem op_odd {o : Nat → Nat} {z : Nat → Option Nat} {q x w : Int32} (R : Rel b o z h) : Op E (d + 9) b kX3_odd kX4_odd [.int q, .int x, .int w] h h := by
  have R' := R
  obtain ⟨L, ho, hm, _, _, hr, _⟩ := R'
  rcases kn2 R q with ⟨e1, e2⟩ | ⟨k, hk, e, h1, e1, e2⟩
  · refine ⟨.int (-101), h, ?_, ?_⟩
    · simp only [e_X3_odd, s_X3_odd_0, s_X3_odd_1, s_X3_odd_2, s_X3_odd_5n, s_X3_odd_7n, s_X3_odd_9n, s_X3_odd_12, s_X3_odd_14, if_true, if_false, and_true, true_and, and_false, false_and, true_or, or_true, or_false, false_or, eq_self, not_true_eq_false, not_false_eq_true, zv_int, zv_ref, zv_null, zv_none, hK_sI, hF_sI, hJ_sI, hN_sI, hZ_sI, hI_sI_same, hK_sJ, hF_sJ, hI_sJ, hN_sJ, hZ_sJ, hJ_sJ_same, hK_sF, hI_sF, hJ_sF, hN_sF, hZ_sF, Option.bind_some, Option.toList_some, Option.toList_none, List.cons_append, List.nil_append, zq_ref, zq_null, L.k0, e1 E (d + 7)]
    · simp (decide := true) only [e_X4_odd, s_X4_odd_0, s_X4_odd_1, s_X4_odd_2, s_X4_odd_5, s_X4_odd_8, s_X4_odd_10, s_X4_odd_11, s_X4_odd_12, s_X4_odd_13, s_X4_odd_16, s_X4_odd_17, s_X4_odd_18, s_X4_odd_21, s_X4_odd_22, s_X4_odd_23, s_X4_odd_26, s_X4_odd_27, s_X4_odd_28, s_X4_odd_29, s_X4_odd_32, s_X4_odd_35, s_X4_odd_38, s_X4_odd_40, s_X4_odd_41, s_X4_odd_42, s_X4_odd_43, s_X4_odd_44, s_X4_odd_45, s_X4_odd_48, if_true, if_false, and_true, true_and, and_false, false_and, true_or, or_true, or_false, false_or, eq_self, not_true_eq_false, not_false_eq_true, zv_int, zv_ref, zv_null, zv_none, hK_sI, hF_sI, hJ_sI, hN_sI, hZ_sI, hI_sI_same, hK_sJ, hF_sJ, hI_sJ, hN_sJ, hZ_sJ, hJ_sJ_same, hK_sF, hI_sF, hJ_sF, hN_sF, hZ_sF, Option.bind_some, Option.toList_some, Option.toList_none, List.cons_append, List.nil_append, zq_ref, zq_null, L.k70, e2 E (d + 6)]
  · have p1 := pwC (E := E) (d := d + 7) (h := h) w
    have p2 := pwI (E := E) (d := d + 7) (h := h) w
    have n1 : (1 : Int32) = nI 1 := rfl
    by_cases cx : x = 1 ∨ x = 2 ∨ x = 4
    · rcases pw3 w with cw | ⟨kw, hw, ew⟩
      · simp only [cw, if_true] at p1 p2
        refine ⟨.int (-102), h, ?_, ?_⟩
        · rcases cx with c | c | c <;> subst c <;> simp (decide := true) only [e_X3_odd, s_X3_odd_0, s_X3_odd_1, s_X3_odd_2, s_X3_odd_5, s_X3_odd_5n, s_X3_odd_7, s_X3_odd_7n, s_X3_odd_9, s_X3_odd_9n, s_X3_odd_12, s_X3_odd_14, s_X3_odd_15, s_X3_odd_16, s_X3_odd_17, s_X3_odd_20, s_X3_odd_21, s_X3_odd_22, s_X3_odd_25, s_X3_odd_26, s_X3_odd_27, s_X3_odd_30, s_X3_odd_31, s_X3_odd_34, s_X3_odd_37, s_X3_odd_39, s_X3_odd_40, s_X3_odd_40n, s_X3_odd_42, s_X3_odd_43, s_X3_odd_44, s_X3_odd_47, if_true, if_false, and_true, true_and, and_false, false_and, true_or, or_true, or_false, false_or, eq_self, not_true_eq_false, not_false_eq_true, zv_int, zv_ref, zv_null, zv_none, hK_sI, hF_sI, hJ_sI, hN_sI, hZ_sI, hI_sI_same, hK_sJ, hF_sJ, hI_sJ, hN_sJ, hZ_sJ, hJ_sJ_same, hK_sF, hI_sF, hJ_sF, hN_sF, hZ_sF, Option.bind_some, Option.toList_some, Option.toList_none, List.cons_append, List.nil_append, zq_ref, zq_null, L.k0, e1 E (d + 7), p1]
        · rcases cx with c | c | c <;> subst c <;> simp (decide := true) only [e_X4_odd, s_X4_odd_0, s_X4_odd_1, s_X4_odd_2, s_X4_odd_5, s_X4_odd_8, s_X4_odd_10, s_X4_odd_11, s_X4_odd_12, s_X4_odd_13, s_X4_odd_16, s_X4_odd_17, s_X4_odd_18, s_X4_odd_21, s_X4_odd_22, s_X4_odd_23, s_X4_odd_26, s_X4_odd_27, s_X4_odd_28, s_X4_odd_29, s_X4_odd_32, s_X4_odd_35, s_X4_odd_38, s_X4_odd_40, s_X4_odd_41, s_X4_odd_42, s_X4_odd_43, s_X4_odd_44, s_X4_odd_45, s_X4_odd_48, if_true, if_false, and_true, true_and, and_false, false_and, true_or, or_true, or_false, false_or, eq_self, not_true_eq_false, not_false_eq_true, zv_int, zv_ref, zv_null, zv_none, hK_sI, hF_sI, hJ_sI, hN_sI, hZ_sI, hI_sI_same, hK_sJ, hF_sJ, hI_sJ, hN_sJ, hZ_sJ, hJ_sJ_same, hK_sF, hI_sF, hJ_sF, hN_sF, hZ_sF, Option.bind_some, Option.toList_some, Option.toList_none, List.cons_append, List.nil_append, zq_ref, zq_null, L.k70, e2 E (d + 6), p2]
      · have cw : ¬ (w < 1 ∨ 3 < w) := by rw [ew]; rcases hw with c | c | c <;> subst c <;> decide
        simp only [cw, if_false] at p1 p2
        have key : ∀ kd, (kd = 1 ∨ kd = 2 ∨ kd = 4) → x = nI kd → Op E (d + 9) b kX3_odd kX4_odd [.int q, .int x, .int w] h h := by
          intro kd hkd ex
          have e3 := c_X2_oddLine (E := E) (d := d + 5) (L.kQ hk) (L.kR hk) (L.pQ hk) (ho k hk).1 ⟨h1, (ho k hk).2⟩ hkd hw
          have e4 := c_X4_oddOf (E := E) (d := d + 5) L hk (hm k hk).1 ⟨h1, (hm k hk).2⟩ hkd hw
          rw [← odL_cg (hr k hk).1, ← e] at e4
          rw [← ew, ← ex] at e3 e4
          refine ⟨.int (odL (hI h (aR b k)) (o k) kd kw), h, ?_, ?_⟩
          · rcases cx with c | c | c <;> subst c <;> simp (decide := true) only [e_X3_odd, s_X3_odd_0, s_X3_odd_1, s_X3_odd_2, s_X3_odd_5, s_X3_odd_5n, s_X3_odd_7, s_X3_odd_7n, s_X3_odd_9, s_X3_odd_9n, s_X3_odd_12, s_X3_odd_14, s_X3_odd_15, s_X3_odd_16, s_X3_odd_17, s_X3_odd_20, s_X3_odd_21, s_X3_odd_22, s_X3_odd_25, s_X3_odd_26, s_X3_odd_27, s_X3_odd_30, s_X3_odd_31, s_X3_odd_34, s_X3_odd_37, s_X3_odd_39, s_X3_odd_40, s_X3_odd_40n, s_X3_odd_42, s_X3_odd_43, s_X3_odd_44, s_X3_odd_47, if_true, if_false, and_true, true_and, and_false, false_and, true_or, or_true, or_false, false_or, eq_self, not_true_eq_false, not_false_eq_true, zv_int, zv_ref, zv_null, zv_none, hK_sI, hF_sI, hJ_sI, hN_sI, hZ_sI, hI_sI_same, hK_sJ, hF_sJ, hI_sJ, hN_sJ, hZ_sJ, hJ_sJ_same, hK_sF, hI_sF, hJ_sF, hN_sF, hZ_sF, Option.bind_some, Option.toList_some, Option.toList_none, List.cons_append, List.nil_append, zq_ref, zq_null, L.k0, L.kQ hk, e1 E (d + 7), p1, e3]
          · rcases cx with c | c | c <;> subst c <;> simp (decide := true) only [e_X4_odd, s_X4_odd_0, s_X4_odd_1, s_X4_odd_2, s_X4_odd_5, s_X4_odd_8, s_X4_odd_10, s_X4_odd_11, s_X4_odd_12, s_X4_odd_13, s_X4_odd_16, s_X4_odd_17, s_X4_odd_18, s_X4_odd_21, s_X4_odd_22, s_X4_odd_23, s_X4_odd_26, s_X4_odd_27, s_X4_odd_28, s_X4_odd_29, s_X4_odd_32, s_X4_odd_35, s_X4_odd_38, s_X4_odd_40, s_X4_odd_41, s_X4_odd_42, s_X4_odd_43, s_X4_odd_44, s_X4_odd_45, s_X4_odd_48, if_true, if_false, and_true, true_and, and_false, false_and, true_or, or_true, or_false, false_or, eq_self, not_true_eq_false, not_false_eq_true, zv_int, zv_ref, zv_null, zv_none, hK_sI, hF_sI, hJ_sI, hN_sI, hZ_sI, hI_sI_same, hK_sJ, hF_sJ, hI_sJ, hN_sJ, hZ_sJ, hJ_sJ_same, hK_sF, hI_sF, hJ_sF, hN_sF, hZ_sF, Option.bind_some, Option.toList_some, Option.toList_none, List.cons_append, List.nil_append, zq_ref, zq_null, L.k70, e2 E (d + 6), p2, e4]
        rcases cx with c | c | c
        · exact key 1 (Or.inl rfl) c
        · exact key 2 (Or.inr (Or.inl rfl)) c
        · exact key 4 (Or.inr (Or.inr rfl)) c
    · have a1 : ¬ x = 1 := fun c => cx (Or.inl c)
      have a2 : ¬ x = 2 := fun c => cx (Or.inr (Or.inl c))
      have a4 : ¬ x = 4 := fun c => cx (Or.inr (Or.inr c))
      refine ⟨.int (-102), h, ?_, ?_⟩
      · simp (decide := true) only [e_X3_odd, s_X3_odd_0, s_X3_odd_1, s_X3_odd_2, s_X3_odd_5, s_X3_odd_5n, s_X3_odd_7, s_X3_odd_7n, s_X3_odd_9, s_X3_odd_9n, s_X3_odd_12, s_X3_odd_14, s_X3_odd_15, s_X3_odd_16, s_X3_odd_17, s_X3_odd_20, s_X3_odd_21, s_X3_odd_22, s_X3_odd_25, s_X3_odd_26, s_X3_odd_27, s_X3_odd_30, s_X3_odd_31, s_X3_odd_34, s_X3_odd_37, s_X3_odd_39, s_X3_odd_40, s_X3_odd_40n, s_X3_odd_42, s_X3_odd_43, s_X3_odd_44, s_X3_odd_47, if_true, if_false, and_true, true_and, and_false, false_and, true_or, or_true, or_false, false_or, eq_self, not_true_eq_false, not_false_eq_true, zv_int, zv_ref, zv_null, zv_none, hK_sI, hF_sI, hJ_sI, hN_sI, hZ_sI, hI_sI_same, hK_sJ, hF_sJ, hI_sJ, hN_sJ, hZ_sJ, hJ_sJ_same, hK_sF, hI_sF, hJ_sF, hN_sF, hZ_sF, Option.bind_some, Option.toList_some, Option.toList_none, List.cons_append, List.nil_append, zq_ref, zq_null, L.k0, e1 E (d + 7), a1, a2, a4]
      · simp (decide := true) only [e_X4_odd, s_X4_odd_0, s_X4_odd_1, s_X4_odd_2, s_X4_odd_5, s_X4_odd_8, s_X4_odd_10, s_X4_odd_11, s_X4_odd_12, s_X4_odd_13, s_X4_odd_16, s_X4_odd_17, s_X4_odd_18, s_X4_odd_21, s_X4_odd_22, s_X4_odd_23, s_X4_odd_26, s_X4_odd_27, s_X4_odd_28, s_X4_odd_29, s_X4_odd_32, s_X4_odd_35, s_X4_odd_38, s_X4_odd_40, s_X4_odd_41, s_X4_odd_42, s_X4_odd_43, s_X4_odd_44, s_X4_odd_45, s_X4_odd_48, if_true, if_false, and_true, true_and, and_false, false_and, true_or, or_true, or_false, false_or, eq_self, not_true_eq_false, not_false_eq_true, zv_int, zv_ref, zv_null, zv_none, hK_sI, hF_sI, hJ_sI, hN_sI, hZ_sI, hI_sI_same, hK_sJ, hF_sJ, hI_sJ, hN_sJ, hZ_sJ, hJ_sJ_same, hK_sF, hI_sF, hJ_sF, hN_sF, hZ_sF, Option.bind_some, Option.toList_some, Option.toList_none, List.cons_append, List.nil_append, zq_ref, zq_null, L.k70, e2 E (d + 6), a1, a2, a4]
end
