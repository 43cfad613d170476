/-! ===== forms ===== -/
section
variable {E : mE} {d : Nat} {h h1 h2 : mH} {b : Nat}
theorem lp_fw {n t j : Nat} {f : Nat → Int32} (L : Lay b h) (hn : 1 ≤ n ∧ n ≤ 4) (ht : t < 8) (hj : j < 7200) (hf : ∀ c, c < n * n → hI h (b + 81) (16 * j + c) = f c) (hb : bd f (n * n)) : ∀ (k p : Nat), p + k = n * n → ∃ w4 D, zl E (d + 1) kX4_isForm 19 [some (.ref (b + 70)), some (.int (nI j)), some (.int (nI n)), some (.int (nI t)), some (.int (nI p)), some (.int 0)] [] h = zl E (d + 1) kX4_isForm 76 [some (.ref (b + 70)), some (.int (nI j)), some (.int (nI n)), some (.int (nI t)), w4, some (.int D)] [] h ∧ (D < 0 ↔ lx (tn f n t) f k p < 0)
  | 0, p, e => by
    have : p = n * n := by omega
    subst this
    refine ⟨some (.int (nI (n * n))), 0, ?_, ⟨fun q => q, fun q => q⟩⟩
    rw [s_X4_isForm_19]
    simp (decide := true) only [s_X4_isForm_0, s_X4_isForm_1, s_X4_isForm_4, s_X4_isForm_5, s_X4_isForm_6, s_X4_isForm_8, s_X4_isForm_10, s_X4_isForm_13, s_X4_isForm_14, s_X4_isForm_16, s_X4_isForm_17, s_X4_isForm_21, s_X4_isForm_22, s_X4_isForm_23, s_X4_isForm_24, s_X4_isForm_27, s_X4_isForm_29, s_X4_isForm_32, s_X4_isForm_33, s_X4_isForm_36, s_X4_isForm_38, s_X4_isForm_39, s_X4_isForm_40, s_X4_isForm_41, s_X4_isForm_42, s_X4_isForm_44, s_X4_isForm_45, s_X4_isForm_46, s_X4_isForm_48, s_X4_isForm_49, s_X4_isForm_50, s_X4_isForm_53, s_X4_isForm_54, s_X4_isForm_55, s_X4_isForm_56, s_X4_isForm_59, s_X4_isForm_61, s_X4_isForm_62, s_X4_isForm_63, s_X4_isForm_65, s_X4_isForm_66, s_X4_isForm_67, s_X4_isForm_68, s_X4_isForm_70, s_X4_isForm_73, s_X4_isForm_78, s_X4_isForm_81, s_X4_isForm_82, s_X4_isForm_83, s_X4_isForm_86, s_X4_isForm_89, s_X4_isForm_90, if_true, if_false, and_true, true_and, and_false, false_and, true_or, or_true, or_false, false_or, eq_self, not_true_eq_false, not_false_eq_true, zv_int, zv_ref, zv_null, zv_none, hK_sI, hF_sI, hJ_sI, hN_sI, hZ_sI, hI_sI_same, hK_sJ, hF_sJ, hI_sJ, hN_sJ, hZ_sJ, hJ_sJ_same, hK_sF, hI_sF, hJ_sF, hN_sF, hZ_sF, Option.bind_some, Option.toList_some, Option.toList_none, List.cons_append, List.nil_append, zq_ref, zq_null, pk_mul, Int32.le_refl]
  | k + 1, p, e => by
    have nn : n * n ≤ 16 := Nat.mul_le_mul hn.2 hn.2
    have hp : p < n * n := by omega
    obtain ⟨n0, d1, d2, d3, d4⟩ := divmod hn.1 (by omega) hp
    have sl := src_lt (t := t) (show n ≤ 12 by omega) d1 d2
    have eS := c_X4_source (E := E) (d := d) (h := h) (show n ≤ 12 by omega) ht d1 d2
    have q1 : ¬ nI (n * n) ≤ nI p := nI_ge (by omega) (by omega)
    have z0 : zR (nI (16 * j + src n t (p / n) (p % n))) 115200 := zR_to (by decide) (by omega)
    have z1 : (nI (16 * j + src n t (p / n) (p % n))).toNatClampNeg = 16 * j + src n t (p / n) (p % n) := nI_clamp (by omega)
    have z2 : zR (nI (16 * j + p)) 115200 := zR_to (by decide) (by omega)
    have z3 : (nI (16 * j + p)).toNatClampNeg = 16 * j + p := nI_clamp (by omega)
    have r1 : hI h (b + 81) (16 * j + src n t (p / n) (p % n)) = tn f n t p := by rw [hf _ sl.1]; rfl
    have r2 := hf p hp
    have b1 : -100000 ≤ (tn f n t p).toInt ∧ (tn f n t p).toInt ≤ 100000 := hb _ sl.1
    have b2 := hb p hp
    have st : zl E (d + 1) kX4_isForm 19 [some (.ref (b + 70)), some (.int (nI j)), some (.int (nI n)), some (.int (nI t)), some (.int (nI p)), some (.int 0)] [] h = zl E (d + 1) kX4_isForm 19 [some (.ref (b + 70)), some (.int (nI j)), some (.int (nI n)), some (.int (nI t)), some (.int (nI (p + 1))), some (.int (tn f n t p - f p))] [] h := by
      rw [s_X4_isForm_19]
      simp (decide := true) only [s_X4_isForm_0, s_X4_isForm_1, s_X4_isForm_4, s_X4_isForm_5, s_X4_isForm_6, s_X4_isForm_8, s_X4_isForm_10, s_X4_isForm_13, s_X4_isForm_14, s_X4_isForm_16, s_X4_isForm_17, s_X4_isForm_21, s_X4_isForm_22, s_X4_isForm_23, s_X4_isForm_24, s_X4_isForm_27, s_X4_isForm_29, s_X4_isForm_32, s_X4_isForm_33, s_X4_isForm_36, s_X4_isForm_38, s_X4_isForm_39, s_X4_isForm_40, s_X4_isForm_41, s_X4_isForm_42, s_X4_isForm_44, s_X4_isForm_45, s_X4_isForm_46, s_X4_isForm_48, s_X4_isForm_49, s_X4_isForm_50, s_X4_isForm_53, s_X4_isForm_54, s_X4_isForm_55, s_X4_isForm_56, s_X4_isForm_59, s_X4_isForm_61, s_X4_isForm_62, s_X4_isForm_63, s_X4_isForm_65, s_X4_isForm_66, s_X4_isForm_67, s_X4_isForm_68, s_X4_isForm_70, s_X4_isForm_73, s_X4_isForm_78, s_X4_isForm_81, s_X4_isForm_82, s_X4_isForm_83, s_X4_isForm_86, s_X4_isForm_89, s_X4_isForm_90, if_true, if_false, and_true, true_and, and_false, false_and, true_or, or_true, or_false, false_or, eq_self, not_true_eq_false, not_false_eq_true, zv_int, zv_ref, zv_null, zv_none, hK_sI, hF_sI, hJ_sI, hN_sI, hZ_sI, hI_sI_same, hK_sJ, hF_sJ, hI_sJ, hN_sJ, hZ_sJ, hJ_sJ_same, hK_sF, hI_sF, hJ_sF, hN_sF, hZ_sF, Option.bind_some, Option.toList_some, Option.toList_none, List.cons_append, List.nil_append, zq_ref, zq_null, L.k70, L.p70_16, L.k81, pk_mul, q1, n0, d3, d4, eS, e16, nI_add, z0, z1, z2, z3, r1, r2, nI_1]
    unfold lx
    by_cases c : tn f n t p = f p
    · obtain ⟨w4, D, e1, e2⟩ := lp_fw L hn ht hj hf hb k (p + 1) (by omega)
      refine ⟨w4, D, ?_, ?_⟩
      · rw [st, sb0.mpr c]
        exact e1
      · rw [if_pos c]
        exact e2
    · have c0 : ¬ tn f n t p - f p = 0 := fun q => c (sb0.mp q)
      refine ⟨some (.int (nI (p + 1))), tn f n t p - f p, ?_, ?_⟩
      · rw [st, s_X4_isForm_19]
        by_cases cq : nI (n * n) ≤ nI (p + 1)
        · simp (decide := true) only [s_X4_isForm_0, s_X4_isForm_1, s_X4_isForm_4, s_X4_isForm_5, s_X4_isForm_6, s_X4_isForm_8, s_X4_isForm_10, s_X4_isForm_13, s_X4_isForm_14, s_X4_isForm_16, s_X4_isForm_17, s_X4_isForm_21, s_X4_isForm_22, s_X4_isForm_23, s_X4_isForm_24, s_X4_isForm_27, s_X4_isForm_29, s_X4_isForm_32, s_X4_isForm_33, s_X4_isForm_36, s_X4_isForm_38, s_X4_isForm_39, s_X4_isForm_40, s_X4_isForm_41, s_X4_isForm_42, s_X4_isForm_44, s_X4_isForm_45, s_X4_isForm_46, s_X4_isForm_48, s_X4_isForm_49, s_X4_isForm_50, s_X4_isForm_53, s_X4_isForm_54, s_X4_isForm_55, s_X4_isForm_56, s_X4_isForm_59, s_X4_isForm_61, s_X4_isForm_62, s_X4_isForm_63, s_X4_isForm_65, s_X4_isForm_66, s_X4_isForm_67, s_X4_isForm_68, s_X4_isForm_70, s_X4_isForm_73, s_X4_isForm_78, s_X4_isForm_81, s_X4_isForm_82, s_X4_isForm_83, s_X4_isForm_86, s_X4_isForm_89, s_X4_isForm_90, if_true, if_false, and_true, true_and, and_false, false_and, true_or, or_true, or_false, false_or, eq_self, not_true_eq_false, not_false_eq_true, zv_int, zv_ref, zv_null, zv_none, hK_sI, hF_sI, hJ_sI, hN_sI, hZ_sI, hI_sI_same, hK_sJ, hF_sJ, hI_sJ, hN_sJ, hZ_sJ, hJ_sJ_same, hK_sF, hI_sF, hJ_sF, hN_sF, hZ_sF, Option.bind_some, Option.toList_some, Option.toList_none, List.cons_append, List.nil_append, zq_ref, zq_null, pk_mul, cq]
        · simp (decide := true) only [s_X4_isForm_0, s_X4_isForm_1, s_X4_isForm_4, s_X4_isForm_5, s_X4_isForm_6, s_X4_isForm_8, s_X4_isForm_10, s_X4_isForm_13, s_X4_isForm_14, s_X4_isForm_16, s_X4_isForm_17, s_X4_isForm_21, s_X4_isForm_22, s_X4_isForm_23, s_X4_isForm_24, s_X4_isForm_27, s_X4_isForm_29, s_X4_isForm_32, s_X4_isForm_33, s_X4_isForm_36, s_X4_isForm_38, s_X4_isForm_39, s_X4_isForm_40, s_X4_isForm_41, s_X4_isForm_42, s_X4_isForm_44, s_X4_isForm_45, s_X4_isForm_46, s_X4_isForm_48, s_X4_isForm_49, s_X4_isForm_50, s_X4_isForm_53, s_X4_isForm_54, s_X4_isForm_55, s_X4_isForm_56, s_X4_isForm_59, s_X4_isForm_61, s_X4_isForm_62, s_X4_isForm_63, s_X4_isForm_65, s_X4_isForm_66, s_X4_isForm_67, s_X4_isForm_68, s_X4_isForm_70, s_X4_isForm_73, s_X4_isForm_78, s_X4_isForm_81, s_X4_isForm_82, s_X4_isForm_83, s_X4_isForm_86, s_X4_isForm_89, s_X4_isForm_90, if_true, if_false, and_true, true_and, and_false, false_and, true_or, or_true, or_false, false_or, eq_self, not_true_eq_false, not_false_eq_true, zv_int, zv_ref, zv_null, zv_none, hK_sI, hF_sI, hJ_sI, hN_sI, hZ_sI, hI_sI_same, hK_sJ, hF_sJ, hI_sJ, hN_sJ, hZ_sJ, hJ_sJ_same, hK_sF, hI_sF, hJ_sF, hN_sF, hZ_sF, Option.bind_some, Option.toList_some, Option.toList_none, List.cons_append, List.nil_append, zq_ref, zq_null, pk_mul, cq, c0]
      · rw [if_neg c]
        have sg_ := sbn b1 b2
        by_cases cl : tn f n t p < f p
        · rw [if_pos cl]
          refine ⟨fun _ => by decide, fun _ => n32_le.mp (fun q => sg_.mp q cl)⟩
        · rw [if_neg cl]
          refine ⟨fun q => absurd (sg_.mpr cl) (n32_le.mpr q), fun q => absurd q (by decide)⟩
theorem lx_tn0 {f : Nat → Int32} {n t : Nat} : lx (tn f n t) f (n * n) 0 = lcm f f n t 0 := by
  unfold lcm
  exact lx_cg fun j _ _ => ⟨rfl, tn0.symm⟩
theorem lp_if {n j : Nat} {f : Nat → Int32} (L : Lay b h) (hn : 1 ≤ n ∧ n ≤ 4) (hj : j < 7200) (hf : ∀ c, c < n * n → hI h (b + 81) (16 * j + c) = f c) (hb : bd f (n * n)) : ∀ (k t : Nat) (w4 w5 : Option Value), t + k = 8 → zl E (d + 1) kX4_isForm 7 [some (.ref (b + 70)), some (.int (nI j)), some (.int (nI n)), some (.int (nI t)), w4, w5] [] h = some (some (.int (if al (fun t => decide (¬ lcm f f n t 0 < 0)) k t = true then 1 else 0)), h)
  | 0, t, w4, w5, e => by
    have : t = 8 := by omega
    subst this
    rw [s_X4_isForm_7]
    simp (decide := true) only [s_X4_isForm_0, s_X4_isForm_1, s_X4_isForm_4, s_X4_isForm_5, s_X4_isForm_6, s_X4_isForm_8, s_X4_isForm_10, s_X4_isForm_13, s_X4_isForm_14, s_X4_isForm_16, s_X4_isForm_17, s_X4_isForm_21, s_X4_isForm_22, s_X4_isForm_23, s_X4_isForm_24, s_X4_isForm_27, s_X4_isForm_29, s_X4_isForm_32, s_X4_isForm_33, s_X4_isForm_36, s_X4_isForm_38, s_X4_isForm_39, s_X4_isForm_40, s_X4_isForm_41, s_X4_isForm_42, s_X4_isForm_44, s_X4_isForm_45, s_X4_isForm_46, s_X4_isForm_48, s_X4_isForm_49, s_X4_isForm_50, s_X4_isForm_53, s_X4_isForm_54, s_X4_isForm_55, s_X4_isForm_56, s_X4_isForm_59, s_X4_isForm_61, s_X4_isForm_62, s_X4_isForm_63, s_X4_isForm_65, s_X4_isForm_66, s_X4_isForm_67, s_X4_isForm_68, s_X4_isForm_70, s_X4_isForm_73, s_X4_isForm_76, s_X4_isForm_78, s_X4_isForm_81, s_X4_isForm_82, s_X4_isForm_83, s_X4_isForm_86, s_X4_isForm_89, s_X4_isForm_90, if_true, if_false, and_true, true_and, and_false, false_and, true_or, or_true, or_false, false_or, eq_self, not_true_eq_false, not_false_eq_true, zv_int, zv_ref, zv_null, zv_none, hK_sI, hF_sI, hJ_sI, hN_sI, hZ_sI, hI_sI_same, hK_sJ, hF_sJ, hI_sJ, hN_sJ, hZ_sJ, hJ_sJ_same, hK_sF, hI_sF, hJ_sF, hN_sF, hZ_sF, Option.bind_some, Option.toList_some, Option.toList_none, List.cons_append, List.nil_append, zq_ref, zq_null, al]
  | k + 1, t, w4, w5, e => by
    have q1 : ¬ 8 ≤ nI t := nI_ge (b := 8) (by omega) (by decide)
    obtain ⟨u4, D, e1, e2⟩ := lp_fw (E := E) (d := d) L hn (show t < 8 by omega) hj hf hb (n * n) 0 (by omega)
    rw [nI_0] at e1
    rw [lx_tn0] at e2
    rw [s_X4_isForm_7]
    simp (decide := true) only [s_X4_isForm_0, s_X4_isForm_1, s_X4_isForm_4, s_X4_isForm_5, s_X4_isForm_6, s_X4_isForm_8, s_X4_isForm_10, s_X4_isForm_13, s_X4_isForm_14, s_X4_isForm_16, s_X4_isForm_17, s_X4_isForm_21, s_X4_isForm_22, s_X4_isForm_23, s_X4_isForm_24, s_X4_isForm_27, s_X4_isForm_29, s_X4_isForm_32, s_X4_isForm_33, s_X4_isForm_36, s_X4_isForm_38, s_X4_isForm_39, s_X4_isForm_40, s_X4_isForm_41, s_X4_isForm_42, s_X4_isForm_44, s_X4_isForm_45, s_X4_isForm_46, s_X4_isForm_48, s_X4_isForm_49, s_X4_isForm_50, s_X4_isForm_53, s_X4_isForm_54, s_X4_isForm_55, s_X4_isForm_56, s_X4_isForm_59, s_X4_isForm_61, s_X4_isForm_62, s_X4_isForm_63, s_X4_isForm_65, s_X4_isForm_66, s_X4_isForm_67, s_X4_isForm_68, s_X4_isForm_70, s_X4_isForm_73, s_X4_isForm_78, s_X4_isForm_81, s_X4_isForm_82, s_X4_isForm_83, s_X4_isForm_86, s_X4_isForm_89, s_X4_isForm_90, if_true, if_false, and_true, true_and, and_false, false_and, true_or, or_true, or_false, false_or, eq_self, not_true_eq_false, not_false_eq_true, zv_int, zv_ref, zv_null, zv_none, hK_sI, hF_sI, hJ_sI, hN_sI, hZ_sI, hI_sI_same, hK_sJ, hF_sJ, hI_sJ, hN_sJ, hZ_sJ, hJ_sJ_same, hK_sF, hI_sF, hJ_sF, hN_sF, hZ_sF, Option.bind_some, Option.toList_some, Option.toList_none, List.cons_append, List.nil_append, zq_ref, zq_null, q1]
    rw [e1]
    unfold al
    by_cases c : lcm f f n t 0 < 0
    · have cD : ¬ 0 ≤ D := n32_le.mpr (e2.mpr c)
      simp (decide := true) only [s_X4_isForm_0, s_X4_isForm_1, s_X4_isForm_4, s_X4_isForm_5, s_X4_isForm_6, s_X4_isForm_8, s_X4_isForm_10, s_X4_isForm_13, s_X4_isForm_14, s_X4_isForm_16, s_X4_isForm_17, s_X4_isForm_21, s_X4_isForm_22, s_X4_isForm_23, s_X4_isForm_24, s_X4_isForm_27, s_X4_isForm_29, s_X4_isForm_32, s_X4_isForm_33, s_X4_isForm_36, s_X4_isForm_38, s_X4_isForm_39, s_X4_isForm_40, s_X4_isForm_41, s_X4_isForm_42, s_X4_isForm_44, s_X4_isForm_45, s_X4_isForm_46, s_X4_isForm_48, s_X4_isForm_49, s_X4_isForm_50, s_X4_isForm_53, s_X4_isForm_54, s_X4_isForm_55, s_X4_isForm_56, s_X4_isForm_59, s_X4_isForm_61, s_X4_isForm_62, s_X4_isForm_63, s_X4_isForm_65, s_X4_isForm_66, s_X4_isForm_67, s_X4_isForm_68, s_X4_isForm_70, s_X4_isForm_73, s_X4_isForm_76, s_X4_isForm_78, s_X4_isForm_81, s_X4_isForm_82, s_X4_isForm_83, s_X4_isForm_86, s_X4_isForm_89, s_X4_isForm_90, if_true, if_false, and_true, true_and, and_false, false_and, true_or, or_true, or_false, false_or, eq_self, not_true_eq_false, not_false_eq_true, zv_int, zv_ref, zv_null, zv_none, hK_sI, hF_sI, hJ_sI, hN_sI, hZ_sI, hI_sI_same, hK_sJ, hF_sJ, hI_sJ, hN_sJ, hZ_sJ, hJ_sJ_same, hK_sF, hI_sF, hJ_sF, hN_sF, hZ_sF, Option.bind_some, Option.toList_some, Option.toList_none, List.cons_append, List.nil_append, zq_ref, zq_null, cD, c, decide_false, Bool.false_and]
    · have cD : 0 ≤ D := n32_lt.mp (fun q => c (e2.mp q))
      have ih := lp_if L hn hj hf hb k (t + 1) u4 (some (.int D)) (by omega)
      simp (decide := true) only [s_X4_isForm_0, s_X4_isForm_1, s_X4_isForm_4, s_X4_isForm_5, s_X4_isForm_6, s_X4_isForm_8, s_X4_isForm_10, s_X4_isForm_13, s_X4_isForm_14, s_X4_isForm_16, s_X4_isForm_17, s_X4_isForm_21, s_X4_isForm_22, s_X4_isForm_23, s_X4_isForm_24, s_X4_isForm_27, s_X4_isForm_29, s_X4_isForm_32, s_X4_isForm_33, s_X4_isForm_36, s_X4_isForm_38, s_X4_isForm_39, s_X4_isForm_40, s_X4_isForm_41, s_X4_isForm_42, s_X4_isForm_44, s_X4_isForm_45, s_X4_isForm_46, s_X4_isForm_48, s_X4_isForm_49, s_X4_isForm_50, s_X4_isForm_53, s_X4_isForm_54, s_X4_isForm_55, s_X4_isForm_56, s_X4_isForm_59, s_X4_isForm_61, s_X4_isForm_62, s_X4_isForm_63, s_X4_isForm_65, s_X4_isForm_66, s_X4_isForm_67, s_X4_isForm_68, s_X4_isForm_70, s_X4_isForm_73, s_X4_isForm_76, s_X4_isForm_78, s_X4_isForm_81, s_X4_isForm_82, s_X4_isForm_83, s_X4_isForm_86, s_X4_isForm_89, s_X4_isForm_90, if_true, if_false, and_true, true_and, and_false, false_and, true_or, or_true, or_false, false_or, eq_self, not_true_eq_false, not_false_eq_true, zv_int, zv_ref, zv_null, zv_none, hK_sI, hF_sI, hJ_sI, hN_sI, hZ_sI, hI_sI_same, hK_sJ, hF_sJ, hI_sJ, hN_sJ, hZ_sJ, hJ_sJ_same, hK_sF, hI_sF, hJ_sF, hN_sF, hZ_sF, Option.bind_some, Option.toList_some, Option.toList_none, List.cons_append, List.nil_append, zq_ref, zq_null, cD, c, decide_true, Bool.true_and, nI_1]
      exact ih
theorem lsT_n0 {c : Nat → Nat → Int32} : ∀ (k t m : Nat), 1 ≤ t → m ≠ 0 → lsT c k t m ≠ 0
  | 0, _, _, _, hm => hm
  | k + 1, t, m, ht, hm => by
    unfold lsT
    refine lsT_n0 k (t + 1) _ (by omega) ?_
    split <;> omega
theorem lsT_0 {c : Nat → Nat → Int32} : ∀ (k t : Nat), 1 ≤ t → (lsT c k t 0 = 0 ↔ al (fun t => decide (¬ c t 0 < 0)) k t = true)
  | 0, _, _ => ⟨fun _ => rfl, fun _ => rfl⟩
  | k + 1, t, ht => by
    unfold lsT al
    by_cases q : c t 0 < 0
    · rw [if_pos q]
      refine ⟨fun e => absurd e (lsT_n0 k (t + 1) t (by omega) (by omega)), fun e => ?_⟩
      rw [Bool.and_eq_true, decide_eq_true_iff] at e
      exact absurd q e.1
    · rw [if_neg q, lsT_0 k (t + 1) (by omega), Bool.and_eq_true, decide_eq_true_iff]
      exact ⟨fun e => ⟨q, e⟩, fun e => e.2⟩
theorem c_X4_isForm {n j : Nat} {f : Nat → Int32} (L : Lay b h) (hn : 1 ≤ n ∧ n ≤ 4) (hj : j < 7200) (f15 : hF h (b + 70) 15 = .int (nI n)) (hf : ∀ c, c < n * n → hI h (b + 81) (16 * j + c) = f c) (hb : bd f (n * n)) : cal E (d + 2) kX4_isForm [.ref (b + 70), .int (nI j)] h = some (some (.int (if fm f n = 0 then 1 else 0)), h) := by
  have e1 := lp_if (E := E) (d := d) L hn hj hf hb 7 1 none none (by omega)
  have n1 : nI 1 = 1 := rfl
  rw [n1] at e1
  have e2 := lsT_0 (c := lcm f f n) 7 1 (by decide)
  simp (decide := true) only [e_X4_isForm, s_X4_isForm_0, s_X4_isForm_1, s_X4_isForm_4, s_X4_isForm_5, s_X4_isForm_6, s_X4_isForm_8, s_X4_isForm_10, s_X4_isForm_13, s_X4_isForm_14, s_X4_isForm_16, s_X4_isForm_17, s_X4_isForm_21, s_X4_isForm_22, s_X4_isForm_23, s_X4_isForm_24, s_X4_isForm_27, s_X4_isForm_29, s_X4_isForm_32, s_X4_isForm_33, s_X4_isForm_36, s_X4_isForm_38, s_X4_isForm_39, s_X4_isForm_40, s_X4_isForm_41, s_X4_isForm_42, s_X4_isForm_44, s_X4_isForm_45, s_X4_isForm_46, s_X4_isForm_48, s_X4_isForm_49, s_X4_isForm_50, s_X4_isForm_53, s_X4_isForm_54, s_X4_isForm_55, s_X4_isForm_56, s_X4_isForm_59, s_X4_isForm_61, s_X4_isForm_62, s_X4_isForm_63, s_X4_isForm_65, s_X4_isForm_66, s_X4_isForm_67, s_X4_isForm_68, s_X4_isForm_70, s_X4_isForm_73, s_X4_isForm_76, s_X4_isForm_78, s_X4_isForm_81, s_X4_isForm_82, s_X4_isForm_83, s_X4_isForm_86, s_X4_isForm_89, s_X4_isForm_90, if_true, if_false, and_true, true_and, and_false, false_and, true_or, or_true, or_false, false_or, eq_self, not_true_eq_false, not_false_eq_true, zv_int, zv_ref, zv_null, zv_none, hK_sI, hF_sI, hJ_sI, hN_sI, hZ_sI, hI_sI_same, hK_sJ, hF_sJ, hI_sJ, hN_sJ, hZ_sJ, hJ_sJ_same, hK_sF, hI_sF, hJ_sF, hN_sF, hZ_sF, Option.bind_some, Option.toList_some, Option.toList_none, List.cons_append, List.nil_append, zq_ref, zq_null, L.k70, f15]
  rw [e1]
  by_cases q : fm f n = 0
  · rw [if_pos q, if_pos (e2.mp q)]
  · rw [if_neg q, if_neg (fun x => q (e2.mpr x))]
theorem cn_shift {p : Nat → Bool} : ∀ (k i : Nat), cn p k (i + 1) = cn (fun j => p (j + 1)) k i
  | 0, _ => rfl
  | k + 1, i => by
    unfold cn
    rw [cn_shift k (i + 1)]
theorem countP_cn {p : Nat → Bool} : ∀ (K : List Nat), K.countP p = cn (fun j => p (K.getD j 0)) K.length 0
  | [] => rfl
  | x :: K => by
    rw [List.countP_cons, List.length_cons]
    show _ = (bif p x then 1 else 0) + cn (fun j => p ((x :: K).getD j 0)) K.length (0 + 1)
    rw [cn_shift, countP_cn K]
    have e : (fun j => p ((x :: K).getD (j + 1) 0)) = fun j => p (K.getD j 0) := rfl
    rw [e]
    cases p x <;> simp only [cond_true, cond_false, if_true, if_false] <;> simp <;> omega
theorem lp_forms {n : Nat} {K : List Nat} (L : Lay b h) (hn : 1 ≤ n ∧ n ≤ 4) (hK : K.length ≤ 7200) (f12 : hF h (b + 70) 12 = .int (nI K.length)) (f15 : hF h (b + 70) 15 = .int (nI n)) (rows : ∀ j, j < K.length → ∀ c, c < n * n → hI h (b + 81) (16 * j + c) = nI (kdg (K.getD j 0) (n * n) c + 1)) : ∀ (k i c : Nat), i + k = K.length → zl E (d + 2) kX4_forms 14 [some (.ref (b + 70)), some (.int (nI c)), some (.int (nI i))] [] h = some (some (.int (nI (c + cn (fun j => decide (fm (rowOf n (K.getD j 0)) n = 0)) k i))), h)
  | 0, i, c, e => by
    have : i = K.length := by omega
    subst this
    rw [s_X4_forms_14]
    simp (decide := true) only [s_X4_forms_0, s_X4_forms_1, s_X4_forms_4, s_X4_forms_7, s_X4_forms_9, s_X4_forms_10, s_X4_forms_11, s_X4_forms_12, s_X4_forms_13, s_X4_forms_15, s_X4_forms_16, s_X4_forms_19, s_X4_forms_22, s_X4_forms_23, s_X4_forms_24, s_X4_forms_25, s_X4_forms_28, s_X4_forms_31, s_X4_forms_32, s_X4_forms_35, s_X4_forms_36, s_X4_forms_37, s_X4_forms_38, s_X4_forms_41, s_X4_forms_44, s_X4_forms_45, if_true, if_false, and_true, true_and, and_false, false_and, true_or, or_true, or_false, false_or, eq_self, not_true_eq_false, not_false_eq_true, zv_int, zv_ref, zv_null, zv_none, hK_sI, hF_sI, hJ_sI, hN_sI, hZ_sI, hI_sI_same, hK_sJ, hF_sJ, hI_sJ, hN_sJ, hZ_sJ, hJ_sJ_same, hK_sF, hI_sF, hJ_sF, hN_sF, hZ_sF, Option.bind_some, Option.toList_some, Option.toList_none, List.cons_append, List.nil_append, zq_ref, zq_null, L.k70, f12, Int32.le_refl, cn, Nat.add_zero]
  | k + 1, i, c, e => by
    have q1 : ¬ nI K.length ≤ nI i := nI_ge (by omega) (by omega)
    have eF := c_X4_isForm (E := E) (d := d) (j := i) (f := rowOf n (K.getD i 0)) L hn (by omega) f15 (rows i (by omega)) (fun p hp => by
      unfold rowOf
      have : kdg (K.getD i 0) (n * n) p < 16 := Nat.mod_lt _ (by decide)
      rw [nIt (by omega)]
      omega)
    rw [s_X4_forms_14]
    unfold cn
    by_cases q : fm (rowOf n (K.getD i 0)) n = 0
    · rw [if_pos q] at eF
      have ih := lp_forms L hn hK f12 f15 rows k (i + 1) (c + 1) (by omega)
      simp (decide := true) only [s_X4_forms_0, s_X4_forms_1, s_X4_forms_4, s_X4_forms_7, s_X4_forms_9, s_X4_forms_10, s_X4_forms_11, s_X4_forms_12, s_X4_forms_13, s_X4_forms_15, s_X4_forms_16, s_X4_forms_19, s_X4_forms_22, s_X4_forms_23, s_X4_forms_24, s_X4_forms_25, s_X4_forms_28, s_X4_forms_31, s_X4_forms_32, s_X4_forms_35, s_X4_forms_36, s_X4_forms_37, s_X4_forms_38, s_X4_forms_41, s_X4_forms_44, s_X4_forms_45, if_true, if_false, and_true, true_and, and_false, false_and, true_or, or_true, or_false, false_or, eq_self, not_true_eq_false, not_false_eq_true, zv_int, zv_ref, zv_null, zv_none, hK_sI, hF_sI, hJ_sI, hN_sI, hZ_sI, hI_sI_same, hK_sJ, hF_sJ, hI_sJ, hN_sJ, hZ_sJ, hJ_sJ_same, hK_sF, hI_sF, hJ_sF, hN_sF, hZ_sF, Option.bind_some, Option.toList_some, Option.toList_none, List.cons_append, List.nil_append, zq_ref, zq_null, L.k70, f12, q1, eF, nI_1, eq_true q, decide_true, cond_true]
      rw [show c + (1 + cn (fun j => decide (fm (rowOf n (K.getD j 0)) n = 0)) k (i + 1)) = c + 1 + cn (fun j => decide (fm (rowOf n (K.getD j 0)) n = 0)) k (i + 1) by omega]
      exact ih
    · rw [if_neg q] at eF
      have ih := lp_forms L hn hK f12 f15 rows k (i + 1) c (by omega)
      simp (decide := true) only [s_X4_forms_0, s_X4_forms_1, s_X4_forms_4, s_X4_forms_7, s_X4_forms_9, s_X4_forms_10, s_X4_forms_11, s_X4_forms_12, s_X4_forms_13, s_X4_forms_15, s_X4_forms_16, s_X4_forms_19, s_X4_forms_22, s_X4_forms_23, s_X4_forms_24, s_X4_forms_25, s_X4_forms_28, s_X4_forms_31, s_X4_forms_32, s_X4_forms_35, s_X4_forms_36, s_X4_forms_37, s_X4_forms_38, s_X4_forms_41, s_X4_forms_44, s_X4_forms_45, if_true, if_false, and_true, true_and, and_false, false_and, true_or, or_true, or_false, false_or, eq_self, not_true_eq_false, not_false_eq_true, zv_int, zv_ref, zv_null, zv_none, hK_sI, hF_sI, hJ_sI, hN_sI, hZ_sI, hI_sI_same, hK_sJ, hF_sJ, hI_sJ, hN_sJ, hZ_sJ, hJ_sJ_same, hK_sF, hI_sF, hJ_sF, hN_sF, hZ_sF, Option.bind_some, Option.toList_some, Option.toList_none, List.cons_append, List.nil_append, zq_ref, zq_null, L.k70, f12, q1, eF, nI_1, eq_false q, decide_false, cond_false, Nat.zero_add]
      rw [show nI c + 0 = nI c by rw [show (0 : Int32) = nI 0 from rfl, nI_add, Nat.add_zero]]
      exact ih
theorem op_forms {Z : Nat} {o : Nat → Nat} {z : Nat → Option Nat} (R : Rel b o z h) (F : FI b Z h) : Good E (d + 9) b kX3_forms kX4_forms [] h := by
  have L := R.1
  obtain ⟨_, _, fd⟩ := F
  rcases fd with ⟨x3, x12⟩ | ⟨n, K, hn, ⟨_, _, _, _, _, _, _, _, _, _, _, f3, f4⟩, _, _, l72, _, _, x12, x15, rows⟩
  · have eF := c_X0_isFresh (E := E) (d := d + 7) L.k8 x3
    refine good0 R ⟨.int (-103), h, ?_, ?_⟩
    · simp (decide := true) only [e_X3_forms, s_X3_forms_0, s_X3_forms_1, s_X3_forms_4, s_X3_forms_7, s_X3_forms_10, s_X3_forms_12, s_X3_forms_15, s_X3_forms_16, s_X3_forms_19, s_X3_forms_22, if_true, if_false, and_true, true_and, and_false, false_and, true_or, or_true, or_false, false_or, eq_self, not_true_eq_false, not_false_eq_true, zv_int, zv_ref, zv_null, zv_none, hK_sI, hF_sI, hJ_sI, hN_sI, hZ_sI, hI_sI_same, hK_sJ, hF_sJ, hI_sJ, hN_sJ, hZ_sJ, hJ_sJ_same, hK_sF, hI_sF, hJ_sF, hN_sF, hZ_sF, Option.bind_some, Option.toList_some, Option.toList_none, List.cons_append, List.nil_append, zq_ref, zq_null, L.k0, L.p0_5, L.k8, eF]
    · simp (decide := true) only [e_X4_forms, s_X4_forms_0, s_X4_forms_1, s_X4_forms_4, s_X4_forms_7, s_X4_forms_9, s_X4_forms_10, s_X4_forms_11, s_X4_forms_12, s_X4_forms_13, s_X4_forms_15, s_X4_forms_16, s_X4_forms_19, s_X4_forms_22, s_X4_forms_23, s_X4_forms_24, s_X4_forms_25, s_X4_forms_28, s_X4_forms_31, s_X4_forms_32, s_X4_forms_35, s_X4_forms_36, s_X4_forms_37, s_X4_forms_38, s_X4_forms_41, s_X4_forms_44, s_X4_forms_45, if_true, if_false, and_true, true_and, and_false, false_and, true_or, or_true, or_false, false_or, eq_self, not_true_eq_false, not_false_eq_true, zv_int, zv_ref, zv_null, zv_none, hK_sI, hF_sI, hJ_sI, hN_sI, hZ_sI, hI_sI_same, hK_sJ, hF_sJ, hI_sJ, hN_sJ, hZ_sJ, hJ_sJ_same, hK_sF, hI_sF, hJ_sF, hN_sF, hZ_sF, Option.bind_some, Option.toList_some, Option.toList_none, List.cons_append, List.nil_append, zq_ref, zq_null, L.k70, x12]
  · have p0 : (0 : Int32) ≤ nI K.length := nI_pos' (by omega)
    have eF := c_X0_isFresh (E := E) (d := d + 7) L.k8 f3
    rw [if_pos p0] at eF
    have lp := lp_forms (E := E) (d := d + 6) L hn l72 x12 x15 rows K.length 0 0 (by omega)
    have ec : fcn n K = cn (fun j => decide (fm (rowOf n (K.getD j 0)) n = 0)) K.length 0 := countP_cn (p := fun κ => decide (fm (rowOf n κ) n = 0)) K
    rw [Nat.zero_add, ← ec, nI_0] at lp
    refine good0 R ⟨.int (nI (fcn n K)), h, ?_, ?_⟩
    · simp (decide := true) only [e_X3_forms, s_X3_forms_0, s_X3_forms_1, s_X3_forms_4, s_X3_forms_7, s_X3_forms_10, s_X3_forms_12, s_X3_forms_15, s_X3_forms_16, s_X3_forms_19, s_X3_forms_22, if_true, if_false, and_true, true_and, and_false, false_and, true_or, or_true, or_false, false_or, eq_self, not_true_eq_false, not_false_eq_true, zv_int, zv_ref, zv_null, zv_none, hK_sI, hF_sI, hJ_sI, hN_sI, hZ_sI, hI_sI_same, hK_sJ, hF_sJ, hI_sJ, hN_sJ, hZ_sJ, hJ_sJ_same, hK_sF, hI_sF, hJ_sF, hN_sF, hZ_sF, Option.bind_some, Option.toList_some, Option.toList_none, List.cons_append, List.nil_append, zq_ref, zq_null, L.k0, L.p0_5, L.k8, eF, f4]
    · simp (decide := true) only [e_X4_forms, s_X4_forms_0, s_X4_forms_1, s_X4_forms_4, s_X4_forms_7, s_X4_forms_9, s_X4_forms_10, s_X4_forms_11, s_X4_forms_12, s_X4_forms_13, s_X4_forms_15, s_X4_forms_16, s_X4_forms_19, s_X4_forms_22, s_X4_forms_23, s_X4_forms_24, s_X4_forms_25, s_X4_forms_28, s_X4_forms_31, s_X4_forms_32, s_X4_forms_35, s_X4_forms_36, s_X4_forms_37, s_X4_forms_38, s_X4_forms_41, s_X4_forms_44, s_X4_forms_45, if_true, if_false, and_true, true_and, and_false, false_and, true_or, or_true, or_false, false_or, eq_self, not_true_eq_false, not_false_eq_true, zv_int, zv_ref, zv_null, zv_none, hK_sI, hF_sI, hJ_sI, hN_sI, hZ_sI, hI_sI_same, hK_sJ, hF_sJ, hI_sJ, hN_sJ, hZ_sJ, hJ_sJ_same, hK_sF, hI_sF, hJ_sF, hN_sF, hZ_sF, Option.bind_some, Option.toList_some, Option.toList_none, List.cons_append, List.nil_append, zq_ref, zq_null, L.k70, x12, p0]
      exact lp
end
