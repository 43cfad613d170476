/-! ===== pairs, plain rows ===== -/
section
variable {E : mE} {d : Nat} {h : mH} {b : Nat}
/-- all of k from i on -/
def al (p : Nat → Bool) : Nat → Nat → Bool
  | 0, _ => true
  | k + 1, i => p i && al p k (i + 1)
def prp (f : Nat → Int32) (N i : Nat) : Bool := decide (f i + f (N - 1 - i) = f 0 + f (N - 1))
/-- pairs: each number and the one across -/
def prB (f : Nat → Int32) (N : Nat) : Bool := al (prp f N) (N - 1) 1
theorem prB_0 {f : Nat → Int32} {N : Nat} (hN : 1 ≤ N) : al (prp f N) N 0 = prB f N := by
  obtain ⟨m, rfl⟩ : ∃ m, N = m + 1 := ⟨N - 1, by omega⟩
  have : prp f (m + 1) 0 = true := by simp [prp]
  show (prp f (m + 1) 0 && al (prp f (m + 1)) m 1) = al (prp f (m + 1)) (m + 1 - 1) 1
  rw [this, Bool.true_and]
  rfl
theorem lp_X2_isPaired {a r N : Nat} (k1 : hK h a = (12, 2)) (k2 : hK h r = (1, 144)) (f0 : hF h a 0 = .ref r) (hN : 1 ≤ N ∧ N ≤ 144) : ∀ k i, i + k = N → zl E d kX2_isPaired 28 [some (.ref a), some (.int (nI (N - 1))), some (.int (hI h r 0 + hI h r (N - 1))), some (.int (nI i))] [] h = some (some (.int (if al (prp (hI h r) N) k i = true then 1 else 0)), h)
  | 0, i, e => by
    have q1 : nI (N - 1) < nI i := nI_lt (by omega) (by omega)
    rw [s_X2_isPaired_28]
    simp only [s_X2_isPaired_0, s_X2_isPaired_1, s_X2_isPaired_4, s_X2_isPaired_5, s_X2_isPaired_8, s_X2_isPaired_9, s_X2_isPaired_10, s_X2_isPaired_11, s_X2_isPaired_12, s_X2_isPaired_13, s_X2_isPaired_16, s_X2_isPaired_17, s_X2_isPaired_18, s_X2_isPaired_19, s_X2_isPaired_22, s_X2_isPaired_23, s_X2_isPaired_24, s_X2_isPaired_25, s_X2_isPaired_26, s_X2_isPaired_27, s_X2_isPaired_29, s_X2_isPaired_30, s_X2_isPaired_33, s_X2_isPaired_34, s_X2_isPaired_37, s_X2_isPaired_38, s_X2_isPaired_39, s_X2_isPaired_40, s_X2_isPaired_43, s_X2_isPaired_44, s_X2_isPaired_45, s_X2_isPaired_46, s_X2_isPaired_47, s_X2_isPaired_48, s_X2_isPaired_49, s_X2_isPaired_52, s_X2_isPaired_53, s_X2_isPaired_54, s_X2_isPaired_57, s_X2_isPaired_60, s_X2_isPaired_61, if_true, if_false, and_true, true_and, and_false, false_and, true_or, or_true, or_false, false_or, eq_self, not_true_eq_false, not_false_eq_true, zv_int, zv_ref, zv_null, zv_none, hK_sI, hF_sI, hJ_sI, hN_sI, hZ_sI, hI_sI_same, hK_sJ, hF_sJ, hI_sJ, hN_sJ, hZ_sJ, hJ_sJ_same, hK_sF, hI_sF, hJ_sF, hN_sF, hZ_sF, Option.bind_some, Option.toList_some, Option.toList_none, List.cons_append, List.nil_append, zq_ref, zq_null, q1, al]
  | k + 1, i, e => by
    have q1 : ¬ nI (N - 1) < nI i := nI_nlt (by omega) (by omega)
    have q2 : zR (nI i) 144 := zR_to (by decide) (by omega)
    have q3 : (nI i).toNatClampNeg = i := nI_clamp (by omega)
    have s1 : nI (N - 1) - nI i = nI (N - 1 - i) := pk_sub (by omega)
    have q4 : zR (nI (N - 1 - i)) 144 := zR_to (by decide) (by omega)
    have q5 : (nI (N - 1 - i)).toNatClampNeg = N - 1 - i := nI_clamp (by omega)
    have ih := lp_X2_isPaired k1 k2 f0 hN k (i + 1) (by omega)
    rw [s_X2_isPaired_28]
    unfold al prp
    by_cases q : hI h r i + hI h r (N - 1 - i) = hI h r 0 + hI h r (N - 1)
    · simp only [s_X2_isPaired_0, s_X2_isPaired_1, s_X2_isPaired_4, s_X2_isPaired_5, s_X2_isPaired_8, s_X2_isPaired_9, s_X2_isPaired_10, s_X2_isPaired_11, s_X2_isPaired_12, s_X2_isPaired_13, s_X2_isPaired_16, s_X2_isPaired_17, s_X2_isPaired_18, s_X2_isPaired_19, s_X2_isPaired_22, s_X2_isPaired_23, s_X2_isPaired_24, s_X2_isPaired_25, s_X2_isPaired_26, s_X2_isPaired_27, s_X2_isPaired_29, s_X2_isPaired_30, s_X2_isPaired_33, s_X2_isPaired_34, s_X2_isPaired_37, s_X2_isPaired_38, s_X2_isPaired_39, s_X2_isPaired_40, s_X2_isPaired_43, s_X2_isPaired_44, s_X2_isPaired_45, s_X2_isPaired_46, s_X2_isPaired_47, s_X2_isPaired_48, s_X2_isPaired_49, s_X2_isPaired_52, s_X2_isPaired_53, s_X2_isPaired_54, s_X2_isPaired_57, s_X2_isPaired_60, s_X2_isPaired_61, if_true, if_false, and_true, true_and, and_false, false_and, true_or, or_true, or_false, false_or, eq_self, not_true_eq_false, not_false_eq_true, zv_int, zv_ref, zv_null, zv_none, hK_sI, hF_sI, hJ_sI, hN_sI, hZ_sI, hI_sI_same, hK_sJ, hF_sJ, hI_sJ, hN_sJ, hZ_sJ, hJ_sJ_same, hK_sF, hI_sF, hJ_sF, hN_sF, hZ_sF, Option.bind_some, Option.toList_some, Option.toList_none, List.cons_append, List.nil_append, zq_ref, zq_null, k1, k2, f0, q1, q2, q3, s1, q4, q5, q, nI_1, decide_true, Bool.true_and]
      exact ih
    · simp (decide := true) only [s_X2_isPaired_0, s_X2_isPaired_1, s_X2_isPaired_4, s_X2_isPaired_5, s_X2_isPaired_8, s_X2_isPaired_9, s_X2_isPaired_10, s_X2_isPaired_11, s_X2_isPaired_12, s_X2_isPaired_13, s_X2_isPaired_16, s_X2_isPaired_17, s_X2_isPaired_18, s_X2_isPaired_19, s_X2_isPaired_22, s_X2_isPaired_23, s_X2_isPaired_24, s_X2_isPaired_25, s_X2_isPaired_26, s_X2_isPaired_27, s_X2_isPaired_29, s_X2_isPaired_30, s_X2_isPaired_33, s_X2_isPaired_34, s_X2_isPaired_37, s_X2_isPaired_38, s_X2_isPaired_39, s_X2_isPaired_40, s_X2_isPaired_43, s_X2_isPaired_44, s_X2_isPaired_45, s_X2_isPaired_46, s_X2_isPaired_47, s_X2_isPaired_48, s_X2_isPaired_49, s_X2_isPaired_52, s_X2_isPaired_53, s_X2_isPaired_54, s_X2_isPaired_57, s_X2_isPaired_60, s_X2_isPaired_61, if_true, if_false, and_true, true_and, and_false, false_and, true_or, or_true, or_false, false_or, eq_self, not_true_eq_false, not_false_eq_true, zv_int, zv_ref, zv_null, zv_none, hK_sI, hF_sI, hJ_sI, hN_sI, hZ_sI, hI_sI_same, hK_sJ, hF_sJ, hI_sJ, hN_sJ, hZ_sJ, hJ_sJ_same, hK_sF, hI_sF, hJ_sF, hN_sF, hZ_sF, Option.bind_some, Option.toList_some, Option.toList_none, List.cons_append, List.nil_append, zq_ref, zq_null, k1, k2, f0, q1, q2, q3, s1, q4, q5, q, nI_1, decide_false, Bool.false_and]
theorem c_X2_isPaired {a r n : Nat} (k1 : hK h a = (12, 2)) (k2 : hK h r = (1, 144)) (f0 : hF h a 0 = .ref r) (f1 : hF h a 1 = .int (nI n)) (hn : 1 ≤ n ∧ n ≤ 12) : cal E (d + 1) kX2_isPaired [.ref a] h = some (some (.int (if prB (hI h r) (n * n) = true then 1 else 0)), h) := by
  have hN : 1 ≤ n * n ∧ n * n ≤ 144 := ⟨Nat.mul_le_mul hn.1 hn.1, Nat.mul_le_mul hn.2 hn.2⟩
  have s1 : nI (n * n) - 1 = nI (n * n - 1) := by rw [show (1 : Int32) = nI 1 from rfl, pk_sub hN.1]
  have z0 : zR (0 : Int32) 144 := zR_to (k := 0) (by decide) (by decide)
  have z1 : (0 : Int32).toNatClampNeg = 0 := rfl
  have q4 : zR (nI (n * n - 1)) 144 := zR_to (by decide) (by omega)
  have q5 : (nI (n * n - 1)).toNatClampNeg = n * n - 1 := nI_clamp (by omega)
  have := lp_X2_isPaired (E := E) (d := d) k1 k2 f0 hN (n * n - 1) 1 (by omega)
  simp only [e_X2_isPaired, s_X2_isPaired_0, s_X2_isPaired_1, s_X2_isPaired_4, s_X2_isPaired_5, s_X2_isPaired_8, s_X2_isPaired_9, s_X2_isPaired_10, s_X2_isPaired_11, s_X2_isPaired_12, s_X2_isPaired_13, s_X2_isPaired_16, s_X2_isPaired_17, s_X2_isPaired_18, s_X2_isPaired_19, s_X2_isPaired_22, s_X2_isPaired_23, s_X2_isPaired_24, s_X2_isPaired_25, s_X2_isPaired_26, s_X2_isPaired_27, s_X2_isPaired_29, s_X2_isPaired_30, s_X2_isPaired_33, s_X2_isPaired_34, s_X2_isPaired_37, s_X2_isPaired_38, s_X2_isPaired_39, s_X2_isPaired_40, s_X2_isPaired_43, s_X2_isPaired_44, s_X2_isPaired_45, s_X2_isPaired_46, s_X2_isPaired_47, s_X2_isPaired_48, s_X2_isPaired_49, s_X2_isPaired_52, s_X2_isPaired_53, s_X2_isPaired_54, s_X2_isPaired_57, s_X2_isPaired_60, s_X2_isPaired_61, if_true, if_false, and_true, true_and, and_false, false_and, true_or, or_true, or_false, false_or, eq_self, not_true_eq_false, not_false_eq_true, zv_int, zv_ref, zv_null, zv_none, hK_sI, hF_sI, hJ_sI, hN_sI, hZ_sI, hI_sI_same, hK_sJ, hF_sJ, hI_sJ, hN_sJ, hZ_sJ, hJ_sJ_same, hK_sF, hI_sF, hJ_sF, hN_sF, hZ_sF, Option.bind_some, Option.toList_some, Option.toList_none, List.cons_append, List.nil_append, zq_ref, zq_null, k1, k2, f0, f1, pk_mul, s1, z0, z1, q4, q5]
  exact this
theorem lp_X4_isPaired {q N : Nat} {f : Nat → Int32} (L : Lay b h) (hq : q < 24) (hf : f = fun p => hI h (b + 77) (144 * q + p)) (hN : 1 ≤ N ∧ N ≤ 144) : ∀ (k i : Nat) (u : Bool), i + k = N → zl E d kX4_isPaired 46 [some (.ref (b + 70)), some (.int (nI q)), some (.int (nI N)), some (.int (f 0 + f (N - 1))), some (.int (if u = true then 1 else 0)), some (.int (nI i))] [] h = some (some (.int (if (u && al (prp f N) k i) = true then 1 else 0)), h)
  | 0, i, u, e => by
    have : i = N := by omega
    subst this
    rw [s_X4_isPaired_46]
    cases u <;> simp (decide := true) only [s_X4_isPaired_0, s_X4_isPaired_1, s_X4_isPaired_4, s_X4_isPaired_5, s_X4_isPaired_6, s_X4_isPaired_7, s_X4_isPaired_10, s_X4_isPaired_11, s_X4_isPaired_12, s_X4_isPaired_13, s_X4_isPaired_14, s_X4_isPaired_15, s_X4_isPaired_18, s_X4_isPaired_21, s_X4_isPaired_22, s_X4_isPaired_23, s_X4_isPaired_24, s_X4_isPaired_25, s_X4_isPaired_28, s_X4_isPaired_31, s_X4_isPaired_32, s_X4_isPaired_33, s_X4_isPaired_34, s_X4_isPaired_35, s_X4_isPaired_36, s_X4_isPaired_37, s_X4_isPaired_38, s_X4_isPaired_39, s_X4_isPaired_40, s_X4_isPaired_41, s_X4_isPaired_43, s_X4_isPaired_44, s_X4_isPaired_48, s_X4_isPaired_49, s_X4_isPaired_52, s_X4_isPaired_54, s_X4_isPaired_57, s_X4_isPaired_58, s_X4_isPaired_61, s_X4_isPaired_64, s_X4_isPaired_65, s_X4_isPaired_66, s_X4_isPaired_68, s_X4_isPaired_69, s_X4_isPaired_70, s_X4_isPaired_71, s_X4_isPaired_74, s_X4_isPaired_77, s_X4_isPaired_78, s_X4_isPaired_79, s_X4_isPaired_80, s_X4_isPaired_81, s_X4_isPaired_82, s_X4_isPaired_83, s_X4_isPaired_85, s_X4_isPaired_86, s_X4_isPaired_87, s_X4_isPaired_88, s_X4_isPaired_89, s_X4_isPaired_92, s_X4_isPaired_93, s_X4_isPaired_96, s_X4_isPaired_97, s_X4_isPaired_99, s_X4_isPaired_102, s_X4_isPaired_105, s_X4_isPaired_107, if_true, if_false, and_true, true_and, and_false, false_and, true_or, or_true, or_false, false_or, eq_self, not_true_eq_false, not_false_eq_true, zv_int, zv_ref, zv_null, zv_none, hK_sI, hF_sI, hJ_sI, hN_sI, hZ_sI, hI_sI_same, hK_sJ, hF_sJ, hI_sJ, hN_sJ, hZ_sJ, hJ_sJ_same, hK_sF, hI_sF, hJ_sF, hN_sF, hZ_sF, Option.bind_some, Option.toList_some, Option.toList_none, List.cons_append, List.nil_append, zq_ref, zq_null, Int32.le_refl, al, Bool.and_true]
  | k + 1, i, u, e => by
    have q1 : ¬ nI N ≤ nI i := nI_ge (by omega) (by omega)
    have e1 : (144 : Int32) * nI q = nI (144 * q) := by rw [show (144 : Int32) = nI 144 from rfl, pk_mul]
    have q2 : zR (nI (144 * q + i)) 3456 := zR_to (by decide) (by omega)
    have q3 : (nI (144 * q + i)).toNatClampNeg = 144 * q + i := nI_clamp (by omega)
    have s1 : nI (144 * q + N) - 1 = nI (144 * q + N - 1) := by rw [show (1 : Int32) = nI 1 from rfl, pk_sub (by omega)]
    have s2 : nI (144 * q + N - 1) - nI i = nI (144 * q + (N - 1 - i)) := by rw [pk_sub (by omega)]; congr 1; omega
    have q4 : zR (nI (144 * q + (N - 1 - i))) 3456 := zR_to (by decide) (by omega)
    have q5 : (nI (144 * q + (N - 1 - i))).toNatClampNeg = 144 * q + (N - 1 - i) := nI_clamp (by omega)
    have ih := fun u => lp_X4_isPaired L hq hf hN k (i + 1) u (by omega)
    have g1 : hI h (b + 77) (144 * q + i) = f i := by rw [hf]
    have g2 : hI h (b + 77) (144 * q + (N - 1 - i)) = f (N - 1 - i) := by rw [hf]
    rw [s_X4_isPaired_46]
    unfold al prp
    cases u with
    | false =>
      simp (decide := true) only [s_X4_isPaired_0, s_X4_isPaired_1, s_X4_isPaired_4, s_X4_isPaired_5, s_X4_isPaired_6, s_X4_isPaired_7, s_X4_isPaired_10, s_X4_isPaired_11, s_X4_isPaired_12, s_X4_isPaired_13, s_X4_isPaired_14, s_X4_isPaired_15, s_X4_isPaired_18, s_X4_isPaired_21, s_X4_isPaired_22, s_X4_isPaired_23, s_X4_isPaired_24, s_X4_isPaired_25, s_X4_isPaired_28, s_X4_isPaired_31, s_X4_isPaired_32, s_X4_isPaired_33, s_X4_isPaired_34, s_X4_isPaired_35, s_X4_isPaired_36, s_X4_isPaired_37, s_X4_isPaired_38, s_X4_isPaired_39, s_X4_isPaired_40, s_X4_isPaired_41, s_X4_isPaired_43, s_X4_isPaired_44, s_X4_isPaired_48, s_X4_isPaired_49, s_X4_isPaired_52, s_X4_isPaired_54, s_X4_isPaired_57, s_X4_isPaired_58, s_X4_isPaired_61, s_X4_isPaired_64, s_X4_isPaired_65, s_X4_isPaired_66, s_X4_isPaired_68, s_X4_isPaired_69, s_X4_isPaired_70, s_X4_isPaired_71, s_X4_isPaired_74, s_X4_isPaired_77, s_X4_isPaired_78, s_X4_isPaired_79, s_X4_isPaired_80, s_X4_isPaired_81, s_X4_isPaired_82, s_X4_isPaired_83, s_X4_isPaired_85, s_X4_isPaired_86, s_X4_isPaired_87, s_X4_isPaired_88, s_X4_isPaired_89, s_X4_isPaired_92, s_X4_isPaired_93, s_X4_isPaired_96, s_X4_isPaired_97, s_X4_isPaired_99, s_X4_isPaired_102, s_X4_isPaired_105, s_X4_isPaired_107, if_true, if_false, and_true, true_and, and_false, false_and, true_or, or_true, or_false, false_or, eq_self, not_true_eq_false, not_false_eq_true, zv_int, zv_ref, zv_null, zv_none, hK_sI, hF_sI, hJ_sI, hN_sI, hZ_sI, hI_sI_same, hK_sJ, hF_sJ, hI_sJ, hN_sJ, hZ_sJ, hJ_sJ_same, hK_sF, hI_sF, hJ_sF, hN_sF, hZ_sF, Option.bind_some, Option.toList_some, Option.toList_none, List.cons_append, List.nil_append, zq_ref, zq_null, q1, nI_1, Bool.false_and]
      exact ih false
    | true =>
      by_cases qq : f i + f (N - 1 - i) = f 0 + f (N - 1)
      · simp (decide := true) only [s_X4_isPaired_0, s_X4_isPaired_1, s_X4_isPaired_4, s_X4_isPaired_5, s_X4_isPaired_6, s_X4_isPaired_7, s_X4_isPaired_10, s_X4_isPaired_11, s_X4_isPaired_12, s_X4_isPaired_13, s_X4_isPaired_14, s_X4_isPaired_15, s_X4_isPaired_18, s_X4_isPaired_21, s_X4_isPaired_22, s_X4_isPaired_23, s_X4_isPaired_24, s_X4_isPaired_25, s_X4_isPaired_28, s_X4_isPaired_31, s_X4_isPaired_32, s_X4_isPaired_33, s_X4_isPaired_34, s_X4_isPaired_35, s_X4_isPaired_36, s_X4_isPaired_37, s_X4_isPaired_38, s_X4_isPaired_39, s_X4_isPaired_40, s_X4_isPaired_41, s_X4_isPaired_43, s_X4_isPaired_44, s_X4_isPaired_48, s_X4_isPaired_49, s_X4_isPaired_52, s_X4_isPaired_54, s_X4_isPaired_57, s_X4_isPaired_58, s_X4_isPaired_61, s_X4_isPaired_64, s_X4_isPaired_65, s_X4_isPaired_66, s_X4_isPaired_68, s_X4_isPaired_69, s_X4_isPaired_70, s_X4_isPaired_71, s_X4_isPaired_74, s_X4_isPaired_77, s_X4_isPaired_78, s_X4_isPaired_79, s_X4_isPaired_80, s_X4_isPaired_81, s_X4_isPaired_82, s_X4_isPaired_83, s_X4_isPaired_85, s_X4_isPaired_86, s_X4_isPaired_87, s_X4_isPaired_88, s_X4_isPaired_89, s_X4_isPaired_92, s_X4_isPaired_93, s_X4_isPaired_96, s_X4_isPaired_97, s_X4_isPaired_99, s_X4_isPaired_102, s_X4_isPaired_105, s_X4_isPaired_107, if_true, if_false, and_true, true_and, and_false, false_and, true_or, or_true, or_false, false_or, eq_self, not_true_eq_false, not_false_eq_true, zv_int, zv_ref, zv_null, zv_none, hK_sI, hF_sI, hJ_sI, hN_sI, hZ_sI, hI_sI_same, hK_sJ, hF_sJ, hI_sJ, hN_sJ, hZ_sJ, hJ_sJ_same, hK_sF, hI_sF, hJ_sF, hN_sF, hZ_sF, Option.bind_some, Option.toList_some, Option.toList_none, List.cons_append, List.nil_append, zq_ref, zq_null, L.k70, L.p70_7, L.k77, q1, e1, nI_add, q2, q3, s1, s2, q4, q5, g1, g2, qq, nI_1, decide_true, Bool.true_and]
        exact ih true
      · simp (decide := true) only [s_X4_isPaired_0, s_X4_isPaired_1, s_X4_isPaired_4, s_X4_isPaired_5, s_X4_isPaired_6, s_X4_isPaired_7, s_X4_isPaired_10, s_X4_isPaired_11, s_X4_isPaired_12, s_X4_isPaired_13, s_X4_isPaired_14, s_X4_isPaired_15, s_X4_isPaired_18, s_X4_isPaired_21, s_X4_isPaired_22, s_X4_isPaired_23, s_X4_isPaired_24, s_X4_isPaired_25, s_X4_isPaired_28, s_X4_isPaired_31, s_X4_isPaired_32, s_X4_isPaired_33, s_X4_isPaired_34, s_X4_isPaired_35, s_X4_isPaired_36, s_X4_isPaired_37, s_X4_isPaired_38, s_X4_isPaired_39, s_X4_isPaired_40, s_X4_isPaired_41, s_X4_isPaired_43, s_X4_isPaired_44, s_X4_isPaired_48, s_X4_isPaired_49, s_X4_isPaired_52, s_X4_isPaired_54, s_X4_isPaired_57, s_X4_isPaired_58, s_X4_isPaired_61, s_X4_isPaired_64, s_X4_isPaired_65, s_X4_isPaired_66, s_X4_isPaired_68, s_X4_isPaired_69, s_X4_isPaired_70, s_X4_isPaired_71, s_X4_isPaired_74, s_X4_isPaired_77, s_X4_isPaired_78, s_X4_isPaired_79, s_X4_isPaired_80, s_X4_isPaired_81, s_X4_isPaired_82, s_X4_isPaired_83, s_X4_isPaired_85, s_X4_isPaired_86, s_X4_isPaired_87, s_X4_isPaired_88, s_X4_isPaired_89, s_X4_isPaired_92, s_X4_isPaired_93, s_X4_isPaired_96, s_X4_isPaired_97, s_X4_isPaired_99, s_X4_isPaired_102, s_X4_isPaired_105, s_X4_isPaired_107, if_true, if_false, and_true, true_and, and_false, false_and, true_or, or_true, or_false, false_or, eq_self, not_true_eq_false, not_false_eq_true, zv_int, zv_ref, zv_null, zv_none, hK_sI, hF_sI, hJ_sI, hN_sI, hZ_sI, hI_sI_same, hK_sJ, hF_sJ, hI_sJ, hN_sJ, hZ_sJ, hJ_sJ_same, hK_sF, hI_sF, hJ_sF, hN_sF, hZ_sF, Option.bind_some, Option.toList_some, Option.toList_none, List.cons_append, List.nil_append, zq_ref, zq_null, L.k70, L.p70_7, L.k77, q1, e1, nI_add, q2, q3, s1, s2, q4, q5, g1, g2, qq, nI_1, decide_false, Bool.true_and, Bool.false_and]
        exact ih false
theorem c_X4_isPaired {q n : Nat} (L : Lay b h) (hq : q < 24) (ho : hI h (b + 76) q = nI n) (hn : 1 ≤ n ∧ n ≤ 12) : cal E (d + 1) kX4_isPaired [.ref (b + 70), .int (nI q)] h = some (some (.int (if prB (fun p => hI h (b + 77) (144 * q + p)) (n * n) = true then 1 else 0)), h) := by
  have hN : 1 ≤ n * n ∧ n * n ≤ 144 := ⟨Nat.mul_le_mul hn.1 hn.1, Nat.mul_le_mul hn.2 hn.2⟩
  have q1 : zR (nI q) 24 := zR_to (by decide) hq
  have q2 : (nI q).toNatClampNeg = q := nI_clamp (by omega)
  have e1 : (144 : Int32) * nI q = nI (144 * q) := by rw [show (144 : Int32) = nI 144 from rfl, pk_mul]
  have q6 : zR (nI (144 * q)) 3456 := zR_to (by decide) (by omega)
  have q7 : (nI (144 * q)).toNatClampNeg = 144 * q + 0 := nI_clamp (by omega)
  have s1 : nI (144 * q + n * n) - 1 = nI (144 * q + (n * n - 1)) := by rw [show (1 : Int32) = nI 1 from rfl, pk_sub (by omega)]; congr 1; omega
  have q4 : zR (nI (144 * q + (n * n - 1))) 3456 := zR_to (by decide) (by omega)
  have q5 : (nI (144 * q + (n * n - 1))).toNatClampNeg = 144 * q + (n * n - 1) := nI_clamp (by omega)
  have := lp_X4_isPaired (E := E) (d := d) L hq rfl hN (n * n) 0 true (by omega)
  rw [Bool.true_and, prB_0 hN.1] at this
  simp only [e_X4_isPaired, s_X4_isPaired_0, s_X4_isPaired_1, s_X4_isPaired_4, s_X4_isPaired_5, s_X4_isPaired_6, s_X4_isPaired_7, s_X4_isPaired_10, s_X4_isPaired_11, s_X4_isPaired_12, s_X4_isPaired_13, s_X4_isPaired_14, s_X4_isPaired_15, s_X4_isPaired_18, s_X4_isPaired_21, s_X4_isPaired_22, s_X4_isPaired_23, s_X4_isPaired_24, s_X4_isPaired_25, s_X4_isPaired_28, s_X4_isPaired_31, s_X4_isPaired_32, s_X4_isPaired_33, s_X4_isPaired_34, s_X4_isPaired_35, s_X4_isPaired_36, s_X4_isPaired_37, s_X4_isPaired_38, s_X4_isPaired_39, s_X4_isPaired_40, s_X4_isPaired_41, s_X4_isPaired_43, s_X4_isPaired_44, s_X4_isPaired_48, s_X4_isPaired_49, s_X4_isPaired_52, s_X4_isPaired_54, s_X4_isPaired_57, s_X4_isPaired_58, s_X4_isPaired_61, s_X4_isPaired_64, s_X4_isPaired_65, s_X4_isPaired_66, s_X4_isPaired_68, s_X4_isPaired_69, s_X4_isPaired_70, s_X4_isPaired_71, s_X4_isPaired_74, s_X4_isPaired_77, s_X4_isPaired_78, s_X4_isPaired_79, s_X4_isPaired_80, s_X4_isPaired_81, s_X4_isPaired_82, s_X4_isPaired_83, s_X4_isPaired_85, s_X4_isPaired_86, s_X4_isPaired_87, s_X4_isPaired_88, s_X4_isPaired_89, s_X4_isPaired_92, s_X4_isPaired_93, s_X4_isPaired_96, s_X4_isPaired_97, s_X4_isPaired_99, s_X4_isPaired_102, s_X4_isPaired_105, s_X4_isPaired_107, if_true, if_false, and_true, true_and, and_false, false_and, true_or, or_true, or_false, false_or, eq_self, not_true_eq_false, not_false_eq_true, zv_int, zv_ref, zv_null, zv_none, hK_sI, hF_sI, hJ_sI, hN_sI, hZ_sI, hI_sI_same, hK_sJ, hF_sJ, hI_sJ, hN_sJ, hZ_sJ, hJ_sJ_same, hK_sF, hI_sF, hJ_sF, hN_sF, hZ_sF, Option.bind_some, Option.toList_some, Option.toList_none, List.cons_append, List.nil_append, zq_ref, zq_null, L.k70, L.p70_6, L.p70_7, L.k76, L.k77, q1, q2, ho, pk_mul, e1, q6, q7, nI_add, s1, q4, q5]
  exact this
/-- plain: the numbers 1 to N, each once -/
def PL (f : Nat → Int32) (N : Nat) : Prop := ∀ j, j < N → (1 ≤ f j ∧ f j ≤ nI N) ∧ ∀ i, i < j → f i ≠ f j
noncomputable def plv (f : Nat → Int32) (N : Nat) : Int32 := @ite _ (PL f N) (Classical.propDecidable _) 1 0
theorem plv_1 {f : Nat → Int32} {N : Nat} (q : PL f N) : plv f N = 1 := if_pos q
theorem plv_0 {f : Nat → Int32} {N : Nat} (q : ¬ PL f N) : plv f N = 0 := if_neg q
def seenOK (B : Nat) (f g : Nat → Int32) (i : Nat) : Prop := ∀ v, 1 ≤ v → v ≤ B → (g v = 0 ↔ ∀ j, j < i → f j ≠ nI v)
theorem seen_s {B : Nat} {f g : Nat → Int32} {i v : Nat} (hB : B ≤ 144) (hs : seenOK B f g i) (hv : v ≤ 144) (hf : f i = nI v) : seenOK B f (upd g v 1) (i + 1) := by
  intro u h1 h2
  unfold upd
  by_cases q : u = v
  · subst q
    rw [if_pos rfl]
    exact ⟨fun x => absurd x (by decide), fun x => absurd hf (x i (by omega))⟩
  · rw [if_neg q, hs u h1 h2]
    constructor
    · intro x j hj
      by_cases r : j = i
      · rw [r, hf]
        exact fun y => q ((nI_eq (by omega) (by omega)).mp y).symm
      · exact x j (by omega)
    · exact fun x j hj => x j (by omega)
theorem lp_X2_isPlain {a r sn N : Nat} (k1 : hK h a = (12, 2)) (k2 : hK h r = (1, 144)) (k3 : hK h sn = (1, 145)) (hne : r ≠ sn) (f0 : hF h a 0 = .ref r) (hN : 1 ≤ N ∧ N ≤ 144) : ∀ (k i : Nat) (g : Nat → Int32) (v4 : Option Value), i + k = N → seenOK 144 (hI h r) g i → (∀ j, j < i → (1 ≤ hI h r j ∧ hI h r j ≤ nI N) ∧ ∀ u, u < j → hI h r u ≠ hI h r j) → ∃ g', zl E d kX2_isPlain 17 [some (.ref a), some (.ref sn), some (.int (nI N)), some (.int (nI i)), v4] [] (sI h sn g) = some (some (.int (plv (hI h r) N)), sI h sn g')
  | 0, i, g, v4, e, hs, ha => by
    have : i = N := by omega
    subst this
    refine ⟨g, ?_⟩
    rw [s_X2_isPlain_17, plv_1 ha]
    simp only [s_X2_isPlain_0, s_X2_isPlain_1, s_X2_isPlain_4, s_X2_isPlain_5, s_X2_isPlain_8, s_X2_isPlain_9, s_X2_isPlain_10, s_X2_isPlain_11, s_X2_isPlain_12, s_X2_isPlain_15, s_X2_isPlain_16, s_X2_isPlain_18, s_X2_isPlain_19, s_X2_isPlain_22, s_X2_isPlain_23, s_X2_isPlain_26, s_X2_isPlain_27, s_X2_isPlain_28, s_X2_isPlain_30, s_X2_isPlain_32, s_X2_isPlain_33, s_X2_isPlain_36, s_X2_isPlain_38, s_X2_isPlain_39, s_X2_isPlain_42, s_X2_isPlain_43, s_X2_isPlain_45, s_X2_isPlain_46, s_X2_isPlain_49, s_X2_isPlain_50, s_X2_isPlain_51, s_X2_isPlain_52, s_X2_isPlain_54, s_X2_isPlain_55, s_X2_isPlain_56, s_X2_isPlain_59, s_X2_isPlain_62, s_X2_isPlain_63, if_true, if_false, and_true, true_and, and_false, false_and, true_or, or_true, or_false, false_or, eq_self, not_true_eq_false, not_false_eq_true, zv_int, zv_ref, zv_null, zv_none, hK_sI, hF_sI, hJ_sI, hN_sI, hZ_sI, hI_sI_same, hK_sJ, hF_sJ, hI_sJ, hN_sJ, hZ_sJ, hJ_sJ_same, hK_sF, hI_sF, hJ_sF, hN_sF, hZ_sF, Option.bind_some, Option.toList_some, Option.toList_none, List.cons_append, List.nil_append, zq_ref, zq_null, Int32.le_refl]
  | k + 1, i, g, v4, e, hs, ha => by
    have q1 : ¬ nI N ≤ nI i := nI_ge (by omega) (by omega)
    have q2 : zR (nI i) 144 := zR_to (by decide) (by omega)
    have q3 : (nI i).toNatClampNeg = i := nI_clamp (by omega)
    have hi : hI (sI h sn g) r = hI h r := hI_sI_ne h g hne
    rw [s_X2_isPlain_17]
    by_cases c1 : hI h r i < 1
    · refine ⟨g, ?_⟩
      rw [plv_0 (fun q => absurd (q i (by omega)).1.1 (n32_le.mpr c1))]
      simp only [s_X2_isPlain_0, s_X2_isPlain_1, s_X2_isPlain_4, s_X2_isPlain_5, s_X2_isPlain_8, s_X2_isPlain_9, s_X2_isPlain_10, s_X2_isPlain_11, s_X2_isPlain_12, s_X2_isPlain_15, s_X2_isPlain_16, s_X2_isPlain_18, s_X2_isPlain_19, s_X2_isPlain_22, s_X2_isPlain_23, s_X2_isPlain_26, s_X2_isPlain_27, s_X2_isPlain_28, s_X2_isPlain_30, s_X2_isPlain_32, s_X2_isPlain_33, s_X2_isPlain_36, s_X2_isPlain_38, s_X2_isPlain_39, s_X2_isPlain_42, s_X2_isPlain_43, s_X2_isPlain_45, s_X2_isPlain_46, s_X2_isPlain_49, s_X2_isPlain_50, s_X2_isPlain_51, s_X2_isPlain_52, s_X2_isPlain_54, s_X2_isPlain_55, s_X2_isPlain_56, s_X2_isPlain_59, s_X2_isPlain_62, s_X2_isPlain_63, if_true, if_false, and_true, true_and, and_false, false_and, true_or, or_true, or_false, false_or, eq_self, not_true_eq_false, not_false_eq_true, zv_int, zv_ref, zv_null, zv_none, hK_sI, hF_sI, hJ_sI, hN_sI, hZ_sI, hI_sI_same, hK_sJ, hF_sJ, hI_sJ, hN_sJ, hZ_sJ, hJ_sJ_same, hK_sF, hI_sF, hJ_sF, hN_sF, hZ_sF, Option.bind_some, Option.toList_some, Option.toList_none, List.cons_append, List.nil_append, zq_ref, zq_null, k1, k2, k3, f0, q1, q2, q3, hi, c1]
    by_cases c2 : nI N < hI h r i
    · refine ⟨g, ?_⟩
      rw [plv_0 (fun q => absurd (q i (by omega)).1.2 (n32_le.mpr c2))]
      simp only [s_X2_isPlain_0, s_X2_isPlain_1, s_X2_isPlain_4, s_X2_isPlain_5, s_X2_isPlain_8, s_X2_isPlain_9, s_X2_isPlain_10, s_X2_isPlain_11, s_X2_isPlain_12, s_X2_isPlain_15, s_X2_isPlain_16, s_X2_isPlain_18, s_X2_isPlain_19, s_X2_isPlain_22, s_X2_isPlain_23, s_X2_isPlain_26, s_X2_isPlain_27, s_X2_isPlain_28, s_X2_isPlain_30, s_X2_isPlain_32, s_X2_isPlain_33, s_X2_isPlain_36, s_X2_isPlain_38, s_X2_isPlain_39, s_X2_isPlain_42, s_X2_isPlain_43, s_X2_isPlain_45, s_X2_isPlain_46, s_X2_isPlain_49, s_X2_isPlain_50, s_X2_isPlain_51, s_X2_isPlain_52, s_X2_isPlain_54, s_X2_isPlain_55, s_X2_isPlain_56, s_X2_isPlain_59, s_X2_isPlain_62, s_X2_isPlain_63, if_true, if_false, and_true, true_and, and_false, false_and, true_or, or_true, or_false, false_or, eq_self, not_true_eq_false, not_false_eq_true, zv_int, zv_ref, zv_null, zv_none, hK_sI, hF_sI, hJ_sI, hN_sI, hZ_sI, hI_sI_same, hK_sJ, hF_sJ, hI_sJ, hN_sJ, hZ_sJ, hJ_sJ_same, hK_sF, hI_sF, hJ_sF, hN_sF, hZ_sF, Option.bind_some, Option.toList_some, Option.toList_none, List.cons_append, List.nil_append, zq_ref, zq_null, k1, k2, k3, f0, q1, q2, q3, hi, c1, c2]
    obtain ⟨v, hv, ev⟩ := nI_of2 (x := hI h r i) (M := nI N) (n := N) (nI_toInt (by omega)) (fun q => c1 (by rw [Int32.lt_iff_toInt_lt] at q ⊢; have : (1 : Int32).toInt = 1 := rfl; have : (0 : Int32).toInt = 0 := rfl; omega)) (n32_lt.mp c2)
    have hv1 : 1 ≤ v := by
      rcases Nat.eq_zero_or_pos v with rfl | q
      · exact absurd (show hI h r i < 1 by rw [ev]; decide) c1
      · exact q
    have q4 : zR (nI v) 145 := zR_to (by decide) (by omega)
    have q5 : (nI v).toNatClampNeg = v := nI_clamp (by omega)
    rw [ev] at c1 c2
    by_cases c3 : g v = 0
    · have hok : ∀ j, j < i + 1 → (1 ≤ hI h r j ∧ hI h r j ≤ nI N) ∧ ∀ u, u < j → hI h r u ≠ hI h r j := by
        intro j hj
        by_cases r : j = i
        · subst r
          rw [ev]
          exact ⟨⟨n32_lt.mp c1, n32_lt.mp c2⟩, fun u hu => (hs v hv1 (by omega)).mp c3 u hu⟩
        · exact ha j (by omega)
      obtain ⟨g', hg'⟩ := lp_X2_isPlain k1 k2 k3 hne f0 hN k (i + 1) (upd g v 1) (some (.int (nI v))) (by omega) (seen_s (by decide) hs (by omega) ev) hok
      refine ⟨g', ?_⟩
      simp only [s_X2_isPlain_0, s_X2_isPlain_1, s_X2_isPlain_4, s_X2_isPlain_5, s_X2_isPlain_8, s_X2_isPlain_9, s_X2_isPlain_10, s_X2_isPlain_11, s_X2_isPlain_12, s_X2_isPlain_15, s_X2_isPlain_16, s_X2_isPlain_18, s_X2_isPlain_19, s_X2_isPlain_22, s_X2_isPlain_23, s_X2_isPlain_26, s_X2_isPlain_27, s_X2_isPlain_28, s_X2_isPlain_30, s_X2_isPlain_32, s_X2_isPlain_33, s_X2_isPlain_36, s_X2_isPlain_38, s_X2_isPlain_39, s_X2_isPlain_42, s_X2_isPlain_43, s_X2_isPlain_45, s_X2_isPlain_46, s_X2_isPlain_49, s_X2_isPlain_50, s_X2_isPlain_51, s_X2_isPlain_52, s_X2_isPlain_54, s_X2_isPlain_55, s_X2_isPlain_56, s_X2_isPlain_59, s_X2_isPlain_62, s_X2_isPlain_63, if_true, if_false, and_true, true_and, and_false, false_and, true_or, or_true, or_false, false_or, eq_self, not_true_eq_false, not_false_eq_true, zv_int, zv_ref, zv_null, zv_none, hK_sI, hF_sI, hJ_sI, hN_sI, hZ_sI, hI_sI_same, hK_sJ, hF_sJ, hI_sJ, hN_sJ, hZ_sJ, hJ_sJ_same, hK_sF, hI_sF, hJ_sF, hN_sF, hZ_sF, Option.bind_some, Option.toList_some, Option.toList_none, List.cons_append, List.nil_append, zq_ref, zq_null, k1, k2, k3, f0, q1, q2, q3, hi, ev, c1, c2, q4, q5, c3, sI_sI, nI_1]
      exact hg'
    · refine ⟨g, ?_⟩
      rw [plv_0 (fun q => c3 ((hs v hv1 (by omega)).mpr (fun j hj => by rw [← ev]; exact (q i (by omega)).2 j hj)))]
      simp only [s_X2_isPlain_0, s_X2_isPlain_1, s_X2_isPlain_4, s_X2_isPlain_5, s_X2_isPlain_8, s_X2_isPlain_9, s_X2_isPlain_10, s_X2_isPlain_11, s_X2_isPlain_12, s_X2_isPlain_15, s_X2_isPlain_16, s_X2_isPlain_18, s_X2_isPlain_19, s_X2_isPlain_22, s_X2_isPlain_23, s_X2_isPlain_26, s_X2_isPlain_27, s_X2_isPlain_28, s_X2_isPlain_30, s_X2_isPlain_32, s_X2_isPlain_33, s_X2_isPlain_36, s_X2_isPlain_38, s_X2_isPlain_39, s_X2_isPlain_42, s_X2_isPlain_43, s_X2_isPlain_45, s_X2_isPlain_46, s_X2_isPlain_49, s_X2_isPlain_50, s_X2_isPlain_51, s_X2_isPlain_52, s_X2_isPlain_54, s_X2_isPlain_55, s_X2_isPlain_56, s_X2_isPlain_59, s_X2_isPlain_62, s_X2_isPlain_63, if_true, if_false, and_true, true_and, and_false, false_and, true_or, or_true, or_false, false_or, eq_self, not_true_eq_false, not_false_eq_true, zv_int, zv_ref, zv_null, zv_none, hK_sI, hF_sI, hJ_sI, hN_sI, hZ_sI, hI_sI_same, hK_sJ, hF_sJ, hI_sJ, hN_sJ, hZ_sJ, hJ_sJ_same, hK_sF, hI_sF, hJ_sF, hN_sF, hZ_sF, Option.bind_some, Option.toList_some, Option.toList_none, List.cons_append, List.nil_append, zq_ref, zq_null, k1, k2, k3, f0, q1, q2, q3, hi, ev, c1, c2, q4, q5, c3]
theorem c_X2_isPlain {a r sn n : Nat} (k1 : hK h a = (12, 2)) (k2 : hK h r = (1, 144)) (k3 : hK h sn = (1, 145)) (hne : r ≠ sn) (f0 : hF h a 0 = .ref r) (f1 : hF h a 1 = .int (nI n)) (hn : 1 ≤ n ∧ n ≤ 12) : ∃ g, cal E (d + 2) kX2_isPlain [.ref a, .ref sn] h = some (some (.int (plv (hI h r) (n * n))), sI h sn g) := by
  have hN : 1 ≤ n * n ∧ n * n ≤ 144 := ⟨Nat.mul_le_mul hn.1 hn.1, Nat.mul_le_mul hn.2 hn.2⟩
  obtain ⟨g, hg⟩ := lp_X2_isPlain (E := E) (d := d + 1) k1 k2 k3 hne f0 hN (n * n) 0 (rw_ (fun _ => 0) (hI h sn) 145) none (by omega) (fun v _ hv => ⟨fun _ j hj => absurd hj (Nat.not_lt_zero j), fun _ => rw_in (by omega)⟩) (fun j hj => absurd hj (Nat.not_lt_zero j))
  refine ⟨g, ?_⟩
  simp (decide := true) only [e_X2_isPlain, s_X2_isPlain_0, s_X2_isPlain_1, s_X2_isPlain_4, s_X2_isPlain_5, s_X2_isPlain_8, s_X2_isPlain_9, s_X2_isPlain_10, s_X2_isPlain_11, s_X2_isPlain_12, s_X2_isPlain_15, s_X2_isPlain_16, s_X2_isPlain_18, s_X2_isPlain_19, s_X2_isPlain_22, s_X2_isPlain_23, s_X2_isPlain_26, s_X2_isPlain_27, s_X2_isPlain_28, s_X2_isPlain_30, s_X2_isPlain_32, s_X2_isPlain_33, s_X2_isPlain_36, s_X2_isPlain_38, s_X2_isPlain_39, s_X2_isPlain_42, s_X2_isPlain_43, s_X2_isPlain_45, s_X2_isPlain_46, s_X2_isPlain_49, s_X2_isPlain_50, s_X2_isPlain_51, s_X2_isPlain_52, s_X2_isPlain_54, s_X2_isPlain_55, s_X2_isPlain_56, s_X2_isPlain_59, s_X2_isPlain_62, s_X2_isPlain_63, if_true, if_false, and_true, true_and, and_false, false_and, true_or, or_true, or_false, false_or, eq_self, not_true_eq_false, not_false_eq_true, zv_int, zv_ref, zv_null, zv_none, hK_sI, hF_sI, hJ_sI, hN_sI, hZ_sI, hI_sI_same, hK_sJ, hF_sJ, hI_sJ, hN_sJ, hZ_sJ, hJ_sJ_same, hK_sF, hI_sF, hJ_sF, hN_sF, hZ_sF, Option.bind_some, Option.toList_some, Option.toList_none, List.cons_append, List.nil_append, zq_ref, zq_null, k1, k3, f1, pk_mul, c_J7_fill (n := 145)]
  exact hg
theorem lp_X4_clear {q N : Nat} (L : Lay b h) (hN : 1 ≤ N ∧ N ≤ 144) : ∀ (k i : Nat) (g : Nat → Int32) (v4 : Option Value), i + k = N + 1 → 1 ≤ i → (∀ v, 1 ≤ v → v < i → g v = 0) → ∃ g', (∀ v, 1 ≤ v → v ≤ N → g' v = 0) ∧ zl E d kX4_isPlain 16 [some (.ref (b + 70)), some (.int (nI q)), some (.int (nI N)), some (.int (nI i)), v4] [] (sI h (b + 79) g) = zl E d kX4_isPlain 36 [some (.ref (b + 70)), some (.int (nI q)), some (.int (nI N)), some (.int 0), v4] [] (sI h (b + 79) g')
  | 0, i, g, v4, e, h1, hg => by
    have q1 : nI N < nI i := nI_lt (by omega) (by omega)
    refine ⟨g, fun v a1 a2 => hg v a1 (by omega), ?_⟩
    rw [s_X4_isPlain_16]
    simp only [s_X4_isPlain_0, s_X4_isPlain_1, s_X4_isPlain_4, s_X4_isPlain_5, s_X4_isPlain_6, s_X4_isPlain_7, s_X4_isPlain_10, s_X4_isPlain_11, s_X4_isPlain_12, s_X4_isPlain_13, s_X4_isPlain_14, s_X4_isPlain_15, s_X4_isPlain_17, s_X4_isPlain_18, s_X4_isPlain_21, s_X4_isPlain_22, s_X4_isPlain_25, s_X4_isPlain_26, s_X4_isPlain_27, s_X4_isPlain_28, s_X4_isPlain_31, s_X4_isPlain_34, s_X4_isPlain_35, s_X4_isPlain_37, s_X4_isPlain_38, s_X4_isPlain_41, s_X4_isPlain_42, s_X4_isPlain_45, s_X4_isPlain_48, s_X4_isPlain_49, s_X4_isPlain_50, s_X4_isPlain_51, s_X4_isPlain_52, s_X4_isPlain_53, s_X4_isPlain_55, s_X4_isPlain_57, s_X4_isPlain_58, s_X4_isPlain_59, s_X4_isPlain_60, s_X4_isPlain_61, s_X4_isPlain_64, s_X4_isPlain_67, s_X4_isPlain_68, s_X4_isPlain_71, s_X4_isPlain_73, s_X4_isPlain_74, s_X4_isPlain_77, s_X4_isPlain_78, s_X4_isPlain_79, s_X4_isPlain_80, s_X4_isPlain_83, s_X4_isPlain_85, s_X4_isPlain_86, s_X4_isPlain_87, s_X4_isPlain_90, s_X4_isPlain_93, s_X4_isPlain_94, if_true, if_false, and_true, true_and, and_false, false_and, true_or, or_true, or_false, false_or, eq_self, not_true_eq_false, not_false_eq_true, zv_int, zv_ref, zv_null, zv_none, hK_sI, hF_sI, hJ_sI, hN_sI, hZ_sI, hI_sI_same, hK_sJ, hF_sJ, hI_sJ, hN_sJ, hZ_sJ, hJ_sJ_same, hK_sF, hI_sF, hJ_sF, hN_sF, hZ_sF, Option.bind_some, Option.toList_some, Option.toList_none, List.cons_append, List.nil_append, zq_ref, zq_null, q1]
  | k + 1, i, g, v4, e, h1, hg => by
    have q1 : ¬ nI N < nI i := nI_nlt (by omega) (by omega)
    have q2 : zR (nI i) 145 := zR_to (by decide) (by omega)
    have q3 : (nI i).toNatClampNeg = i := nI_clamp (by omega)
    have v0 : vp_nar .boolean 0 = 0 := rfl
    obtain ⟨g', a1, a2⟩ := lp_X4_clear (q := q) L hN k (i + 1) (upd g i 0) v4 (by omega) (by omega) (fun v b1 b2 => by
      unfold upd
      split
      · rfl
      · exact hg v b1 (by omega))
    refine ⟨g', a1, ?_⟩
    rw [s_X4_isPlain_16]
    simp only [s_X4_isPlain_0, s_X4_isPlain_1, s_X4_isPlain_4, s_X4_isPlain_5, s_X4_isPlain_6, s_X4_isPlain_7, s_X4_isPlain_10, s_X4_isPlain_11, s_X4_isPlain_12, s_X4_isPlain_13, s_X4_isPlain_14, s_X4_isPlain_15, s_X4_isPlain_17, s_X4_isPlain_18, s_X4_isPlain_21, s_X4_isPlain_22, s_X4_isPlain_25, s_X4_isPlain_26, s_X4_isPlain_27, s_X4_isPlain_28, s_X4_isPlain_31, s_X4_isPlain_34, s_X4_isPlain_35, s_X4_isPlain_37, s_X4_isPlain_38, s_X4_isPlain_41, s_X4_isPlain_42, s_X4_isPlain_45, s_X4_isPlain_48, s_X4_isPlain_49, s_X4_isPlain_50, s_X4_isPlain_51, s_X4_isPlain_52, s_X4_isPlain_53, s_X4_isPlain_55, s_X4_isPlain_57, s_X4_isPlain_58, s_X4_isPlain_59, s_X4_isPlain_60, s_X4_isPlain_61, s_X4_isPlain_64, s_X4_isPlain_67, s_X4_isPlain_68, s_X4_isPlain_71, s_X4_isPlain_73, s_X4_isPlain_74, s_X4_isPlain_77, s_X4_isPlain_78, s_X4_isPlain_79, s_X4_isPlain_80, s_X4_isPlain_83, s_X4_isPlain_85, s_X4_isPlain_86, s_X4_isPlain_87, s_X4_isPlain_90, s_X4_isPlain_93, s_X4_isPlain_94, if_true, if_false, and_true, true_and, and_false, false_and, true_or, or_true, or_false, false_or, eq_self, not_true_eq_false, not_false_eq_true, zv_int, zv_ref, zv_null, zv_none, hK_sI, hF_sI, hJ_sI, hN_sI, hZ_sI, hI_sI_same, hK_sJ, hF_sJ, hI_sJ, hN_sJ, hZ_sJ, hJ_sJ_same, hK_sF, hI_sF, hJ_sF, hN_sF, hZ_sF, Option.bind_some, Option.toList_some, Option.toList_none, List.cons_append, List.nil_append, zq_ref, zq_null, L.k70, L.p70_10, L.k79, q1, q2, q3, v0, sI_sI, nI_1]
    exact a2
theorem lp_X4_isPlain {q N : Nat} {f : Nat → Int32} (L : Lay b h) (hq : q < 24) (hf : f = fun p => hI h (b + 77) (144 * q + p)) (hN : 1 ≤ N ∧ N ≤ 144) : ∀ (k i : Nat) (g : Nat → Int32) (v4 : Option Value), i + k = N → seenOK N f g i → (∀ j, j < i → (1 ≤ f j ∧ f j ≤ nI N) ∧ ∀ u, u < j → f u ≠ f j) → ∃ g', zl E (d + 1) kX4_isPlain 36 [some (.ref (b + 70)), some (.int (nI q)), some (.int (nI N)), some (.int (nI i)), v4] [] (sI h (b + 79) g) = some (some (.int (plv f N)), sI h (b + 79) g')
  | 0, i, g, v4, e, hs, ha => by
    have : i = N := by omega
    subst this
    refine ⟨g, ?_⟩
    rw [s_X4_isPlain_36, plv_1 ha]
    simp only [s_X4_isPlain_0, s_X4_isPlain_1, s_X4_isPlain_4, s_X4_isPlain_5, s_X4_isPlain_6, s_X4_isPlain_7, s_X4_isPlain_10, s_X4_isPlain_11, s_X4_isPlain_12, s_X4_isPlain_13, s_X4_isPlain_14, s_X4_isPlain_15, s_X4_isPlain_17, s_X4_isPlain_18, s_X4_isPlain_21, s_X4_isPlain_22, s_X4_isPlain_25, s_X4_isPlain_26, s_X4_isPlain_27, s_X4_isPlain_28, s_X4_isPlain_31, s_X4_isPlain_34, s_X4_isPlain_35, s_X4_isPlain_37, s_X4_isPlain_38, s_X4_isPlain_41, s_X4_isPlain_42, s_X4_isPlain_45, s_X4_isPlain_48, s_X4_isPlain_49, s_X4_isPlain_50, s_X4_isPlain_51, s_X4_isPlain_52, s_X4_isPlain_53, s_X4_isPlain_55, s_X4_isPlain_57, s_X4_isPlain_58, s_X4_isPlain_59, s_X4_isPlain_60, s_X4_isPlain_61, s_X4_isPlain_64, s_X4_isPlain_67, s_X4_isPlain_68, s_X4_isPlain_71, s_X4_isPlain_73, s_X4_isPlain_74, s_X4_isPlain_77, s_X4_isPlain_78, s_X4_isPlain_79, s_X4_isPlain_80, s_X4_isPlain_83, s_X4_isPlain_85, s_X4_isPlain_86, s_X4_isPlain_87, s_X4_isPlain_90, s_X4_isPlain_93, s_X4_isPlain_94, if_true, if_false, and_true, true_and, and_false, false_and, true_or, or_true, or_false, false_or, eq_self, not_true_eq_false, not_false_eq_true, zv_int, zv_ref, zv_null, zv_none, hK_sI, hF_sI, hJ_sI, hN_sI, hZ_sI, hI_sI_same, hK_sJ, hF_sJ, hI_sJ, hN_sJ, hZ_sJ, hJ_sJ_same, hK_sF, hI_sF, hJ_sF, hN_sF, hZ_sF, Option.bind_some, Option.toList_some, Option.toList_none, List.cons_append, List.nil_append, zq_ref, zq_null, Int32.le_refl]
  | k + 1, i, g, v4, e, hs, ha => by
    have q1 : ¬ nI N ≤ nI i := nI_ge (by omega) (by omega)
    have e1 : (144 : Int32) * nI q = nI (144 * q) := by rw [show (144 : Int32) = nI 144 from rfl, pk_mul]
    have q2 : zR (nI (144 * q + i)) 3456 := zR_to (by decide) (by omega)
    have q3 : (nI (144 * q + i)).toNatClampNeg = 144 * q + i := nI_clamp (by omega)
    have hi : hI (sI h (b + 79) g) (b + 77) = hI h (b + 77) := hI_sI_ne h g (by omega)
    have g1 : hI h (b + 77) (144 * q + i) = f i := by rw [hf]
    have lo : ∀ x : Int32, ((1 : Int64) ≤ x.toInt64 ∧ x.toInt64 ≤ (nI N).toInt64) ↔ (1 ≤ x ∧ x ≤ nI N) := fun x => by
      rw [show (1 : Int64) = (1 : Int32).toInt64 from rfl, i64_le, i64_le]
    have v1 : vp_nar .boolean 1 = 1 := rfl
    rw [s_X4_isPlain_36]
    by_cases c : 1 ≤ f i ∧ f i ≤ nI N
    · obtain ⟨v, hv, ev⟩ := nI_of2 (x := f i) (M := nI N) (n := N) (nI_toInt (by omega)) (fun q => absurd c.1 (by rw [n32_le]; rw [Int32.lt_iff_toInt_lt] at q ⊢; have : (1 : Int32).toInt = 1 := rfl; have : (0 : Int32).toInt = 0 := rfl; omega)) c.2
      have hv1 : 1 ≤ v := by
        rcases Nat.eq_zero_or_pos v with rfl | q
        · exact absurd c.1 (by rw [ev]; decide)
        · exact q
      have q4 : zR (nI v) 145 := zR_to (by decide) (by omega)
      have q5 : (nI v).toNatClampNeg = v := nI_clamp (by omega)
      have c' := c
      rw [ev] at c'
      by_cases c3 : g v = 0
      · have hok : ∀ j, j < i + 1 → (1 ≤ f j ∧ f j ≤ nI N) ∧ ∀ u, u < j → f u ≠ f j := by
          intro j hj
          by_cases r : j = i
          · subst r
            exact ⟨c, fun u hu => by rw [ev]; exact (hs v hv1 hv).mp c3 u hu⟩
          · exact ha j (by omega)
        obtain ⟨g', hg'⟩ := lp_X4_isPlain L hq hf hN k (i + 1) (upd g v 1) (some (.int (nI v))) (by omega) (seen_s (by omega) hs (by omega) ev) hok
        refine ⟨g', ?_⟩
        simp (decide := true) only [s_X4_isPlain_0, s_X4_isPlain_1, s_X4_isPlain_4, s_X4_isPlain_5, s_X4_isPlain_6, s_X4_isPlain_7, s_X4_isPlain_10, s_X4_isPlain_11, s_X4_isPlain_12, s_X4_isPlain_13, s_X4_isPlain_14, s_X4_isPlain_15, s_X4_isPlain_17, s_X4_isPlain_18, s_X4_isPlain_21, s_X4_isPlain_22, s_X4_isPlain_25, s_X4_isPlain_26, s_X4_isPlain_27, s_X4_isPlain_28, s_X4_isPlain_31, s_X4_isPlain_34, s_X4_isPlain_35, s_X4_isPlain_37, s_X4_isPlain_38, s_X4_isPlain_41, s_X4_isPlain_42, s_X4_isPlain_45, s_X4_isPlain_48, s_X4_isPlain_49, s_X4_isPlain_50, s_X4_isPlain_51, s_X4_isPlain_52, s_X4_isPlain_53, s_X4_isPlain_55, s_X4_isPlain_57, s_X4_isPlain_58, s_X4_isPlain_59, s_X4_isPlain_60, s_X4_isPlain_61, s_X4_isPlain_64, s_X4_isPlain_67, s_X4_isPlain_68, s_X4_isPlain_71, s_X4_isPlain_73, s_X4_isPlain_74, s_X4_isPlain_77, s_X4_isPlain_78, s_X4_isPlain_79, s_X4_isPlain_80, s_X4_isPlain_83, s_X4_isPlain_85, s_X4_isPlain_86, s_X4_isPlain_87, s_X4_isPlain_90, s_X4_isPlain_93, s_X4_isPlain_94, if_true, if_false, and_true, true_and, and_false, false_and, true_or, or_true, or_false, false_or, eq_self, not_true_eq_false, not_false_eq_true, zv_int, zv_ref, zv_null, zv_none, hK_sI, hF_sI, hJ_sI, hN_sI, hZ_sI, hI_sI_same, hK_sJ, hF_sJ, hI_sJ, hN_sJ, hZ_sJ, hJ_sJ_same, hK_sF, hI_sF, hJ_sF, hN_sF, hZ_sF, Option.bind_some, Option.toList_some, Option.toList_none, List.cons_append, List.nil_append, zq_ref, zq_null, L.k70, L.p70_7, L.p70_10, L.k77, L.k79, q1, e1, nI_add, q2, q3, hi, g1, ev, c_X4_in, lo, c', q4, q5, c3, v1, sI_sI, nI_1]
        exact hg'
      · refine ⟨g, ?_⟩
        rw [plv_0 (fun q => c3 ((hs v hv1 hv).mpr (fun j hj => by rw [← ev]; exact (q i (by omega)).2 j hj)))]
        simp (decide := true) only [s_X4_isPlain_0, s_X4_isPlain_1, s_X4_isPlain_4, s_X4_isPlain_5, s_X4_isPlain_6, s_X4_isPlain_7, s_X4_isPlain_10, s_X4_isPlain_11, s_X4_isPlain_12, s_X4_isPlain_13, s_X4_isPlain_14, s_X4_isPlain_15, s_X4_isPlain_17, s_X4_isPlain_18, s_X4_isPlain_21, s_X4_isPlain_22, s_X4_isPlain_25, s_X4_isPlain_26, s_X4_isPlain_27, s_X4_isPlain_28, s_X4_isPlain_31, s_X4_isPlain_34, s_X4_isPlain_35, s_X4_isPlain_37, s_X4_isPlain_38, s_X4_isPlain_41, s_X4_isPlain_42, s_X4_isPlain_45, s_X4_isPlain_48, s_X4_isPlain_49, s_X4_isPlain_50, s_X4_isPlain_51, s_X4_isPlain_52, s_X4_isPlain_53, s_X4_isPlain_55, s_X4_isPlain_57, s_X4_isPlain_58, s_X4_isPlain_59, s_X4_isPlain_60, s_X4_isPlain_61, s_X4_isPlain_64, s_X4_isPlain_67, s_X4_isPlain_68, s_X4_isPlain_71, s_X4_isPlain_73, s_X4_isPlain_74, s_X4_isPlain_77, s_X4_isPlain_78, s_X4_isPlain_79, s_X4_isPlain_80, s_X4_isPlain_83, s_X4_isPlain_85, s_X4_isPlain_86, s_X4_isPlain_87, s_X4_isPlain_90, s_X4_isPlain_93, s_X4_isPlain_94, if_true, if_false, and_true, true_and, and_false, false_and, true_or, or_true, or_false, false_or, eq_self, not_true_eq_false, not_false_eq_true, zv_int, zv_ref, zv_null, zv_none, hK_sI, hF_sI, hJ_sI, hN_sI, hZ_sI, hI_sI_same, hK_sJ, hF_sJ, hI_sJ, hN_sJ, hZ_sJ, hJ_sJ_same, hK_sF, hI_sF, hJ_sF, hN_sF, hZ_sF, Option.bind_some, Option.toList_some, Option.toList_none, List.cons_append, List.nil_append, zq_ref, zq_null, L.k70, L.p70_7, L.p70_10, L.k77, L.k79, q1, e1, nI_add, q2, q3, hi, g1, ev, c_X4_in, lo, c', q4, q5, c3]
    · refine ⟨g, ?_⟩
      rw [plv_0 (fun q => c (q i (by omega)).1)]
      simp (decide := true) only [s_X4_isPlain_0, s_X4_isPlain_1, s_X4_isPlain_4, s_X4_isPlain_5, s_X4_isPlain_6, s_X4_isPlain_7, s_X4_isPlain_10, s_X4_isPlain_11, s_X4_isPlain_12, s_X4_isPlain_13, s_X4_isPlain_14, s_X4_isPlain_15, s_X4_isPlain_17, s_X4_isPlain_18, s_X4_isPlain_21, s_X4_isPlain_22, s_X4_isPlain_25, s_X4_isPlain_26, s_X4_isPlain_27, s_X4_isPlain_28, s_X4_isPlain_31, s_X4_isPlain_34, s_X4_isPlain_35, s_X4_isPlain_37, s_X4_isPlain_38, s_X4_isPlain_41, s_X4_isPlain_42, s_X4_isPlain_45, s_X4_isPlain_48, s_X4_isPlain_49, s_X4_isPlain_50, s_X4_isPlain_51, s_X4_isPlain_52, s_X4_isPlain_53, s_X4_isPlain_55, s_X4_isPlain_57, s_X4_isPlain_58, s_X4_isPlain_59, s_X4_isPlain_60, s_X4_isPlain_61, s_X4_isPlain_64, s_X4_isPlain_67, s_X4_isPlain_68, s_X4_isPlain_71, s_X4_isPlain_73, s_X4_isPlain_74, s_X4_isPlain_77, s_X4_isPlain_78, s_X4_isPlain_79, s_X4_isPlain_80, s_X4_isPlain_83, s_X4_isPlain_85, s_X4_isPlain_86, s_X4_isPlain_87, s_X4_isPlain_90, s_X4_isPlain_93, s_X4_isPlain_94, if_true, if_false, and_true, true_and, and_false, false_and, true_or, or_true, or_false, false_or, eq_self, not_true_eq_false, not_false_eq_true, zv_int, zv_ref, zv_null, zv_none, hK_sI, hF_sI, hJ_sI, hN_sI, hZ_sI, hI_sI_same, hK_sJ, hF_sJ, hI_sJ, hN_sJ, hZ_sJ, hJ_sJ_same, hK_sF, hI_sF, hJ_sF, hN_sF, hZ_sF, Option.bind_some, Option.toList_some, Option.toList_none, List.cons_append, List.nil_append, zq_ref, zq_null, L.k70, L.p70_7, L.p70_10, L.k77, L.k79, q1, e1, nI_add, q2, q3, hi, g1, c_X4_in, lo, c]
theorem c_X4_isPlain {q n : Nat} (L : Lay b h) (hq : q < 24) (ho : hI h (b + 76) q = nI n) (hn : 1 ≤ n ∧ n ≤ 12) : ∃ g, cal E (d + 2) kX4_isPlain [.ref (b + 70), .int (nI q)] h = some (some (.int (plv (fun p => hI h (b + 77) (144 * q + p)) (n * n))), sI h (b + 79) g) := by
  have hN : 1 ≤ n * n ∧ n * n ≤ 144 := ⟨Nat.mul_le_mul hn.1 hn.1, Nat.mul_le_mul hn.2 hn.2⟩
  have q1 : zR (nI q) 24 := zR_to (by decide) hq
  have q2 : (nI q).toNatClampNeg = q := nI_clamp (by omega)
  obtain ⟨g1, a1, a2⟩ := lp_X4_clear (E := E) (d := d + 1) (q := q) L hN (n * n) 1 (hI h (b + 79)) none (by omega) (by omega) (fun v b1 b2 => absurd b1 (by omega))
  obtain ⟨g, hg⟩ := lp_X4_isPlain (E := E) (d := d) L hq rfl hN (n * n) 0 g1 none (by omega) (fun v b1 b2 => ⟨fun _ j hj => absurd hj (Nat.not_lt_zero j), fun _ => a1 v b1 b2⟩) (fun j hj => absurd hj (Nat.not_lt_zero j))
  refine ⟨g, ?_⟩
  rw [sI_self] at a2
  simp only [e_X4_isPlain, s_X4_isPlain_0, s_X4_isPlain_1, s_X4_isPlain_4, s_X4_isPlain_5, s_X4_isPlain_6, s_X4_isPlain_7, s_X4_isPlain_10, s_X4_isPlain_11, s_X4_isPlain_12, s_X4_isPlain_13, s_X4_isPlain_14, s_X4_isPlain_15, s_X4_isPlain_17, s_X4_isPlain_18, s_X4_isPlain_21, s_X4_isPlain_22, s_X4_isPlain_25, s_X4_isPlain_26, s_X4_isPlain_27, s_X4_isPlain_28, s_X4_isPlain_31, s_X4_isPlain_34, s_X4_isPlain_35, s_X4_isPlain_37, s_X4_isPlain_38, s_X4_isPlain_41, s_X4_isPlain_42, s_X4_isPlain_45, s_X4_isPlain_48, s_X4_isPlain_49, s_X4_isPlain_50, s_X4_isPlain_51, s_X4_isPlain_52, s_X4_isPlain_53, s_X4_isPlain_55, s_X4_isPlain_57, s_X4_isPlain_58, s_X4_isPlain_59, s_X4_isPlain_60, s_X4_isPlain_61, s_X4_isPlain_64, s_X4_isPlain_67, s_X4_isPlain_68, s_X4_isPlain_71, s_X4_isPlain_73, s_X4_isPlain_74, s_X4_isPlain_77, s_X4_isPlain_78, s_X4_isPlain_79, s_X4_isPlain_80, s_X4_isPlain_83, s_X4_isPlain_85, s_X4_isPlain_86, s_X4_isPlain_87, s_X4_isPlain_90, s_X4_isPlain_93, s_X4_isPlain_94, if_true, if_false, and_true, true_and, and_false, false_and, true_or, or_true, or_false, false_or, eq_self, not_true_eq_false, not_false_eq_true, zv_int, zv_ref, zv_null, zv_none, hK_sI, hF_sI, hJ_sI, hN_sI, hZ_sI, hI_sI_same, hK_sJ, hF_sJ, hI_sJ, hN_sJ, hZ_sJ, hJ_sJ_same, hK_sF, hI_sF, hJ_sF, hN_sF, hZ_sF, Option.bind_some, Option.toList_some, Option.toList_none, List.cons_append, List.nil_append, zq_ref, zq_null, L.k70, L.p70_6, L.k76, q1, q2, ho, pk_mul]
  exact a2.trans hg
end
