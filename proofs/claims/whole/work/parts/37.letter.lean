/-! ===== the letters of orders 6, 10 ===== -/
section
variable {E : mE} {d : Nat} {h : mH} {b : Nat}
/-- which letter -/
def ltr (mid i j : Nat) : Nat := if j = mid ∧ i = mid then 1 else if j = mid ∧ i = mid + 1 then 0 else if i ≤ mid then 0 else if i = mid + 1 then 1 else 2
theorem c_X2_letterAt {m mid i j : Nat} (hm : m = 2 * mid + 1) (hm2 : m ≤ 12) (hi : i < m) (hj : j < m) : cal E (d + 1) kX2_letterAt [.int (nI m), .int (nI i), .int (nI j)] h = some (some (.ref (E.1 (4 + ltr mid i j))), h) := by
  have s1 : nI m - 1 = nI (2 * mid) := by
    rw [show (1 : Int32) = nI 1 from rfl, pk_sub (by omega)]; congr 1; omega
  have s2 : nI (2 * mid) / 2 = nI mid := by
    rw [show (2 : Int32) = nI 2 from rfl, pk_div (by omega) (by omega) (by omega)]; congr 1; omega
  have n2 : ¬ (2 : Int32) = 0 := by decide
  have i1 : nI j = nI mid ↔ j = mid := nI_eq (by omega) (by omega)
  have i2 : nI i = nI mid ↔ i = mid := nI_eq (by omega) (by omega)
  have i3 : nI i = nI (mid + 1) ↔ i = mid + 1 := nI_eq (by omega) (by omega)
  have i4 : nI mid < nI i ↔ mid < i := by
    by_cases c : mid < i
    · exact ⟨fun _ => c, fun _ => nI_lt c (by omega)⟩
    · exact ⟨fun x => absurd x (nI_nlt (by omega) (by omega)), fun x => absurd x c⟩
  have i5 : nI mid < nI (mid + 1) := nI_lt (by omega) (by omega)
  have i6 : ¬ nI mid < nI mid := nI_nlt (by omega) (by omega)
  unfold ltr
  by_cases c1 : j = mid
  · by_cases c2 : i = mid
    · simp only [e_X2_letterAt, s_X2_letterAt_0, s_X2_letterAt_1, s_X2_letterAt_2, s_X2_letterAt_3, s_X2_letterAt_4, s_X2_letterAt_5, s_X2_letterAt_6, s_X2_letterAt_7, s_X2_letterAt_9, s_X2_letterAt_10, s_X2_letterAt_11, s_X2_letterAt_14, s_X2_letterAt_15, s_X2_letterAt_16, s_X2_letterAt_19, s_X2_letterAt_20, s_X2_letterAt_21, s_X2_letterAt_22, s_X2_letterAt_24, s_X2_letterAt_27, s_X2_letterAt_28, s_X2_letterAt_29, s_X2_letterAt_32, s_X2_letterAt_33, s_X2_letterAt_34, s_X2_letterAt_35, s_X2_letterAt_36, s_X2_letterAt_39, s_X2_letterAt_40, s_X2_letterAt_42, s_X2_letterAt_44, s_X2_letterAt_45, s_X2_letterAt_48, s_X2_letterAt_51, s_X2_letterAt_52, s_X2_letterAt_54, s_X2_letterAt_55, s_X2_letterAt_56, s_X2_letterAt_57, s_X2_letterAt_60, s_X2_letterAt_63, s_X2_letterAt_66, s_X2_letterAt_69, if_true, if_false, and_true, true_and, and_false, false_and, true_or, or_true, or_false, false_or, eq_self, not_true_eq_false, not_false_eq_true, zv_int, zv_ref, zv_null, zv_none, hK_sI, hF_sI, hJ_sI, hN_sI, hZ_sI, hI_sI_same, hK_sJ, hF_sJ, hI_sJ, hN_sJ, hZ_sJ, hJ_sJ_same, hK_sF, hI_sF, hJ_sF, hN_sF, hZ_sF, Option.bind_some, Option.toList_some, Option.toList_none, List.cons_append, List.nil_append, zq_ref, zq_null, s1, s2, n2, i1, i2, eq_true c1, eq_true c2, nI_1, i5]
    · by_cases c3 : i = mid + 1
      · simp only [e_X2_letterAt, s_X2_letterAt_0, s_X2_letterAt_1, s_X2_letterAt_2, s_X2_letterAt_3, s_X2_letterAt_4, s_X2_letterAt_5, s_X2_letterAt_6, s_X2_letterAt_7, s_X2_letterAt_9, s_X2_letterAt_10, s_X2_letterAt_11, s_X2_letterAt_14, s_X2_letterAt_15, s_X2_letterAt_16, s_X2_letterAt_19, s_X2_letterAt_20, s_X2_letterAt_21, s_X2_letterAt_22, s_X2_letterAt_24, s_X2_letterAt_27, s_X2_letterAt_28, s_X2_letterAt_29, s_X2_letterAt_32, s_X2_letterAt_33, s_X2_letterAt_34, s_X2_letterAt_35, s_X2_letterAt_36, s_X2_letterAt_39, s_X2_letterAt_40, s_X2_letterAt_42, s_X2_letterAt_44, s_X2_letterAt_45, s_X2_letterAt_48, s_X2_letterAt_51, s_X2_letterAt_52, s_X2_letterAt_54, s_X2_letterAt_55, s_X2_letterAt_56, s_X2_letterAt_57, s_X2_letterAt_60, s_X2_letterAt_63, s_X2_letterAt_66, s_X2_letterAt_69, if_true, if_false, and_true, true_and, and_false, false_and, true_or, or_true, or_false, false_or, eq_self, not_true_eq_false, not_false_eq_true, zv_int, zv_ref, zv_null, zv_none, hK_sI, hF_sI, hJ_sI, hN_sI, hZ_sI, hI_sI_same, hK_sJ, hF_sJ, hI_sJ, hN_sJ, hZ_sJ, hJ_sJ_same, hK_sF, hI_sF, hJ_sF, hN_sF, hZ_sF, Option.bind_some, Option.toList_some, Option.toList_none, List.cons_append, List.nil_append, zq_ref, zq_null, s1, s2, n2, i1, i2, i3, eq_true c1, eq_false c2, eq_true c3, nI_1, i6, Nat.add_zero]
      · by_cases c4 : i ≤ mid
        · have c5 : ¬ mid < i := by omega
          simp only [e_X2_letterAt, s_X2_letterAt_0, s_X2_letterAt_1, s_X2_letterAt_2, s_X2_letterAt_3, s_X2_letterAt_4, s_X2_letterAt_5, s_X2_letterAt_6, s_X2_letterAt_7, s_X2_letterAt_9, s_X2_letterAt_10, s_X2_letterAt_11, s_X2_letterAt_14, s_X2_letterAt_15, s_X2_letterAt_16, s_X2_letterAt_19, s_X2_letterAt_20, s_X2_letterAt_21, s_X2_letterAt_22, s_X2_letterAt_24, s_X2_letterAt_27, s_X2_letterAt_28, s_X2_letterAt_29, s_X2_letterAt_32, s_X2_letterAt_33, s_X2_letterAt_34, s_X2_letterAt_35, s_X2_letterAt_36, s_X2_letterAt_39, s_X2_letterAt_40, s_X2_letterAt_42, s_X2_letterAt_44, s_X2_letterAt_45, s_X2_letterAt_48, s_X2_letterAt_51, s_X2_letterAt_52, s_X2_letterAt_54, s_X2_letterAt_55, s_X2_letterAt_56, s_X2_letterAt_57, s_X2_letterAt_60, s_X2_letterAt_63, s_X2_letterAt_66, s_X2_letterAt_69, if_true, if_false, and_true, true_and, and_false, false_and, true_or, or_true, or_false, false_or, eq_self, not_true_eq_false, not_false_eq_true, zv_int, zv_ref, zv_null, zv_none, hK_sI, hF_sI, hJ_sI, hN_sI, hZ_sI, hI_sI_same, hK_sJ, hF_sJ, hI_sJ, hN_sJ, hZ_sJ, hJ_sJ_same, hK_sF, hI_sF, hJ_sF, hN_sF, hZ_sF, Option.bind_some, Option.toList_some, Option.toList_none, List.cons_append, List.nil_append, zq_ref, zq_null, s1, s2, n2, i1, i2, i3, i4, eq_true c1, eq_false c2, eq_false c3, c4, c5, nI_1, Nat.add_zero]
        · have c5 : mid < i := by omega
          simp only [e_X2_letterAt, s_X2_letterAt_0, s_X2_letterAt_1, s_X2_letterAt_2, s_X2_letterAt_3, s_X2_letterAt_4, s_X2_letterAt_5, s_X2_letterAt_6, s_X2_letterAt_7, s_X2_letterAt_9, s_X2_letterAt_10, s_X2_letterAt_11, s_X2_letterAt_14, s_X2_letterAt_15, s_X2_letterAt_16, s_X2_letterAt_19, s_X2_letterAt_20, s_X2_letterAt_21, s_X2_letterAt_22, s_X2_letterAt_24, s_X2_letterAt_27, s_X2_letterAt_28, s_X2_letterAt_29, s_X2_letterAt_32, s_X2_letterAt_33, s_X2_letterAt_34, s_X2_letterAt_35, s_X2_letterAt_36, s_X2_letterAt_39, s_X2_letterAt_40, s_X2_letterAt_42, s_X2_letterAt_44, s_X2_letterAt_45, s_X2_letterAt_48, s_X2_letterAt_51, s_X2_letterAt_52, s_X2_letterAt_54, s_X2_letterAt_55, s_X2_letterAt_56, s_X2_letterAt_57, s_X2_letterAt_60, s_X2_letterAt_63, s_X2_letterAt_66, s_X2_letterAt_69, if_true, if_false, and_true, true_and, and_false, false_and, true_or, or_true, or_false, false_or, eq_self, not_true_eq_false, not_false_eq_true, zv_int, zv_ref, zv_null, zv_none, hK_sI, hF_sI, hJ_sI, hN_sI, hZ_sI, hI_sI_same, hK_sJ, hF_sJ, hI_sJ, hN_sJ, hZ_sJ, hJ_sJ_same, hK_sF, hI_sF, hJ_sF, hN_sF, hZ_sF, Option.bind_some, Option.toList_some, Option.toList_none, List.cons_append, List.nil_append, zq_ref, zq_null, s1, s2, n2, i1, i2, i3, i4, eq_true c1, eq_false c2, eq_false c3, c4, c5, nI_1]
  · by_cases c4 : i ≤ mid
    · have c5 : ¬ mid < i := by omega
      simp only [e_X2_letterAt, s_X2_letterAt_0, s_X2_letterAt_1, s_X2_letterAt_2, s_X2_letterAt_3, s_X2_letterAt_4, s_X2_letterAt_5, s_X2_letterAt_6, s_X2_letterAt_7, s_X2_letterAt_9, s_X2_letterAt_10, s_X2_letterAt_11, s_X2_letterAt_14, s_X2_letterAt_15, s_X2_letterAt_16, s_X2_letterAt_19, s_X2_letterAt_20, s_X2_letterAt_21, s_X2_letterAt_22, s_X2_letterAt_24, s_X2_letterAt_27, s_X2_letterAt_28, s_X2_letterAt_29, s_X2_letterAt_32, s_X2_letterAt_33, s_X2_letterAt_34, s_X2_letterAt_35, s_X2_letterAt_36, s_X2_letterAt_39, s_X2_letterAt_40, s_X2_letterAt_42, s_X2_letterAt_44, s_X2_letterAt_45, s_X2_letterAt_48, s_X2_letterAt_51, s_X2_letterAt_52, s_X2_letterAt_54, s_X2_letterAt_55, s_X2_letterAt_56, s_X2_letterAt_57, s_X2_letterAt_60, s_X2_letterAt_63, s_X2_letterAt_66, s_X2_letterAt_69, if_true, if_false, and_true, true_and, and_false, false_and, true_or, or_true, or_false, false_or, eq_self, not_true_eq_false, not_false_eq_true, zv_int, zv_ref, zv_null, zv_none, hK_sI, hF_sI, hJ_sI, hN_sI, hZ_sI, hI_sI_same, hK_sJ, hF_sJ, hI_sJ, hN_sJ, hZ_sJ, hJ_sJ_same, hK_sF, hI_sF, hJ_sF, hN_sF, hZ_sF, Option.bind_some, Option.toList_some, Option.toList_none, List.cons_append, List.nil_append, zq_ref, zq_null, s1, s2, n2, i1, i2, i3, i4, eq_false c1, c4, c5, nI_1, Nat.add_zero]
    · have c5 : mid < i := by omega
      by_cases c3 : i = mid + 1
      · simp only [e_X2_letterAt, s_X2_letterAt_0, s_X2_letterAt_1, s_X2_letterAt_2, s_X2_letterAt_3, s_X2_letterAt_4, s_X2_letterAt_5, s_X2_letterAt_6, s_X2_letterAt_7, s_X2_letterAt_9, s_X2_letterAt_10, s_X2_letterAt_11, s_X2_letterAt_14, s_X2_letterAt_15, s_X2_letterAt_16, s_X2_letterAt_19, s_X2_letterAt_20, s_X2_letterAt_21, s_X2_letterAt_22, s_X2_letterAt_24, s_X2_letterAt_27, s_X2_letterAt_28, s_X2_letterAt_29, s_X2_letterAt_32, s_X2_letterAt_33, s_X2_letterAt_34, s_X2_letterAt_35, s_X2_letterAt_36, s_X2_letterAt_39, s_X2_letterAt_40, s_X2_letterAt_42, s_X2_letterAt_44, s_X2_letterAt_45, s_X2_letterAt_48, s_X2_letterAt_51, s_X2_letterAt_52, s_X2_letterAt_54, s_X2_letterAt_55, s_X2_letterAt_56, s_X2_letterAt_57, s_X2_letterAt_60, s_X2_letterAt_63, s_X2_letterAt_66, s_X2_letterAt_69, if_true, if_false, and_true, true_and, and_false, false_and, true_or, or_true, or_false, false_or, eq_self, not_true_eq_false, not_false_eq_true, zv_int, zv_ref, zv_null, zv_none, hK_sI, hF_sI, hJ_sI, hN_sI, hZ_sI, hI_sI_same, hK_sJ, hF_sJ, hI_sJ, hN_sJ, hZ_sJ, hJ_sJ_same, hK_sF, hI_sF, hJ_sF, hN_sF, hZ_sF, Option.bind_some, Option.toList_some, Option.toList_none, List.cons_append, List.nil_append, zq_ref, zq_null, s1, s2, n2, i1, i2, i3, i4, eq_false c1, c4, c5, eq_true c3, nI_1]
      · simp only [e_X2_letterAt, s_X2_letterAt_0, s_X2_letterAt_1, s_X2_letterAt_2, s_X2_letterAt_3, s_X2_letterAt_4, s_X2_letterAt_5, s_X2_letterAt_6, s_X2_letterAt_7, s_X2_letterAt_9, s_X2_letterAt_10, s_X2_letterAt_11, s_X2_letterAt_14, s_X2_letterAt_15, s_X2_letterAt_16, s_X2_letterAt_19, s_X2_letterAt_20, s_X2_letterAt_21, s_X2_letterAt_22, s_X2_letterAt_24, s_X2_letterAt_27, s_X2_letterAt_28, s_X2_letterAt_29, s_X2_letterAt_32, s_X2_letterAt_33, s_X2_letterAt_34, s_X2_letterAt_35, s_X2_letterAt_36, s_X2_letterAt_39, s_X2_letterAt_40, s_X2_letterAt_42, s_X2_letterAt_44, s_X2_letterAt_45, s_X2_letterAt_48, s_X2_letterAt_51, s_X2_letterAt_52, s_X2_letterAt_54, s_X2_letterAt_55, s_X2_letterAt_56, s_X2_letterAt_57, s_X2_letterAt_60, s_X2_letterAt_63, s_X2_letterAt_66, s_X2_letterAt_69, if_true, if_false, and_true, true_and, and_false, false_and, true_or, or_true, or_false, false_or, eq_self, not_true_eq_false, not_false_eq_true, zv_int, zv_ref, zv_null, zv_none, hK_sI, hF_sI, hJ_sI, hN_sI, hZ_sI, hI_sI_same, hK_sJ, hF_sJ, hI_sJ, hN_sJ, hZ_sJ, hJ_sJ_same, hK_sF, hI_sF, hJ_sF, hN_sF, hZ_sF, Option.bind_some, Option.toList_some, Option.toList_none, List.cons_append, List.nil_append, zq_ref, zq_null, s1, s2, n2, i1, i2, i3, i4, eq_false c1, c4, c5, eq_false c3, nI_1]
theorem c_X2_layLetter {a r la m I J : Nat} {w : Int32} {z f : Nat → Int32} (k1 : hK h a = (12, 2)) (k2 : hK h r = (1, 144)) (f0 : hF h a 0 = .ref r) (f1 : hF h a 1 = .int (nI (m * 2))) (kl : (hK h la).1 = 0) (hf : E.2 la = some (4, f)) (hI_ : I < m) (hJ_ : J < m) (hN : m * 2 ≤ 12) : cal E (d + 1) kX2_layLetter [.ref a, .int (nI (2 * I)), .int (nI (2 * J)), .ref la, .int w] (sI h r z) = some (none, sI h r (bk (bG f w (m * 2) 2) z (m * 2) 2 I J 2 0)) := by
  have q0 : zR (0 : Int32) 4 := zR_to (k := 0) (by decide) (by decide)
  have r0 := fun (h' : mH) (v0 v1 v2 v3 v4 v5 v6 : Option Value) (w2 w3 w4 : Value) (hk : (hK h' la).1 = 0) => s_X2_layLetter_29r (E := E) (d := d) (h := h') (v0 := v0) (v1 := v1) (v2 := v2) (v3 := v3) (v4 := v4) (v5 := v5) (v6 := v6) (w2 := w2) (w3 := w3) (w4 := w4) (x := 0) hk hf q0
  have t0 : (0 : Int32).toNatClampNeg = 0 := by decide
  have q1 : zR (1 : Int32) 4 := zR_to (k := 1) (by decide) (by decide)
  have r1 := fun (h' : mH) (v0 v1 v2 v3 v4 v5 v6 : Option Value) (w2 w3 w4 : Value) (hk : (hK h' la).1 = 0) => s_X2_layLetter_44r (E := E) (d := d) (h := h') (v0 := v0) (v1 := v1) (v2 := v2) (v3 := v3) (v4 := v4) (v5 := v5) (v6 := v6) (w2 := w2) (w3 := w3) (w4 := w4) (x := 1) hk hf q1
  have t1 : (1 : Int32).toNatClampNeg = 1 := by decide
  have q2 : zR (2 : Int32) 4 := zR_to (k := 2) (by decide) (by decide)
  have r2 := fun (h' : mH) (v0 v1 v2 v3 v4 v5 v6 : Option Value) (w2 w3 w4 : Value) (hk : (hK h' la).1 = 0) => s_X2_layLetter_57r (E := E) (d := d) (h := h') (v0 := v0) (v1 := v1) (v2 := v2) (v3 := v3) (v4 := v4) (v5 := v5) (v6 := v6) (w2 := w2) (w3 := w3) (w4 := w4) (x := 2) hk hf q2
  have t2 : (2 : Int32).toNatClampNeg = 2 := by decide
  have q3 : zR (3 : Int32) 4 := zR_to (k := 3) (by decide) (by decide)
  have r3 := fun (h' : mH) (v0 v1 v2 v3 v4 v5 v6 : Option Value) (w2 w3 w4 : Value) (hk : (hK h' la).1 = 0) => s_X2_layLetter_72r (E := E) (d := d) (h := h') (v0 := v0) (v1 := v1) (v2 := v2) (v3 := v3) (v4 := v4) (v5 := v5) (v6 := v6) (w2 := w2) (w3 := w3) (w4 := w4) (x := 3) hk hf q3
  have t3 : (3 : Int32).toNatClampNeg = 3 := by decide
  obtain ⟨_, a1, a2⟩ := blk_lt hI_ hJ_ (show 0 < 2 by omega) (show 0 < 2 by omega) hN
  obtain ⟨_, b1, b2⟩ := blk_lt hI_ hJ_ (show 0 < 2 by omega) (show 1 < 2 by omega) hN
  obtain ⟨_, c1, c2⟩ := blk_lt hI_ hJ_ (show 1 < 2 by omega) (show 0 < 2 by omega) hN
  obtain ⟨_, d1, d2⟩ := blk_lt hI_ hJ_ (show 1 < 2 by omega) (show 1 < 2 by omega) hN
  have m1 : (2 * I + 1) * (m * 2) = 2 * I * (m * 2) + m * 2 := by rw [Nat.add_mul, Nat.one_mul]
  have m0 : (2 * I + 0) * (m * 2) = 2 * I * (m * 2) := by rw [Nat.add_zero]
  rw [m0] at a2 b2
  rw [m1] at c2 d2
  have za : zR (nI (2 * I * (m * 2) + 2 * J)) 144 := zR_to (by decide) (by omega)
  have zb : zR (nI (2 * I * (m * 2) + 2 * J + 1)) 144 := zR_to (by decide) (by omega)
  have zc : zR (nI (2 * I * (m * 2) + 2 * J + m * 2)) 144 := zR_to (by decide) (by omega)
  have zd : zR (nI (2 * I * (m * 2) + 2 * J + m * 2 + 1)) 144 := zR_to (by decide) (by omega)
  have ya : (nI (2 * I * (m * 2) + 2 * J)).toNatClampNeg = (2 * I + 0) * (m * 2) + (2 * J + 0) := by rw [nI_clamp (by omega), m0, Nat.add_zero]
  have yb : (nI (2 * I * (m * 2) + 2 * J + 1)).toNatClampNeg = (2 * I + 0) * (m * 2) + (2 * J + 1) := by rw [nI_clamp (by omega), m0]; omega
  have yc : (nI (2 * I * (m * 2) + 2 * J + m * 2)).toNatClampNeg = (2 * I + 1) * (m * 2) + (2 * J + 0) := by rw [nI_clamp (by omega), m1]; omega
  have yd : (nI (2 * I * (m * 2) + 2 * J + m * 2 + 1)).toNatClampNeg = (2 * I + 1) * (m * 2) + (2 * J + 1) := by rw [nI_clamp (by omega), m1]; omega
  have e1 := bk_s (G := bG f w (m * 2) 2) (z := z) (I := I) (show 0 < 2 by omega) (show 0 < 2 by omega) a1
  have e2 := bk_s (G := bG f w (m * 2) 2) (z := z) (I := I) (show 0 < 2 by omega) (show 1 < 2 by omega) b1
  have e3 := bk_s (G := bG f w (m * 2) 2) (z := z) (I := I) (show 1 < 2 by omega) (show 0 < 2 by omega) c1
  have e4 := bk_s (G := bG f w (m * 2) 2) (z := z) (I := I) (show 1 < 2 by omega) (show 1 < 2 by omega) d1
  rw [bG_at (by omega) (by omega) a1, bk_0, Int32.add_comm] at e1
  rw [bG_at (by omega) (by omega) b1, bk_r (k := 0) (by omega), Int32.add_comm] at e2
  rw [bG_at (by omega) (by omega) c1, Int32.add_comm] at e3
  rw [bG_at (by omega) (by omega) d1, bk_r (k := 1) (by omega), Int32.add_comm] at e4
  simp only [e_X2_layLetter, s_X2_layLetter_0, s_X2_layLetter_1, s_X2_layLetter_2, s_X2_layLetter_5, s_X2_layLetter_6, s_X2_layLetter_7, s_X2_layLetter_8, s_X2_layLetter_10, s_X2_layLetter_12, s_X2_layLetter_13, s_X2_layLetter_16, s_X2_layLetter_17, s_X2_layLetter_19, s_X2_layLetter_20, s_X2_layLetter_23, s_X2_layLetter_25, s_X2_layLetter_27, s_X2_layLetter_28, s_X2_layLetter_30, s_X2_layLetter_31, s_X2_layLetter_32, s_X2_layLetter_33, s_X2_layLetter_36, s_X2_layLetter_38, s_X2_layLetter_39, s_X2_layLetter_40, s_X2_layLetter_42, s_X2_layLetter_43, s_X2_layLetter_45, s_X2_layLetter_46, s_X2_layLetter_47, s_X2_layLetter_48, s_X2_layLetter_51, s_X2_layLetter_53, s_X2_layLetter_55, s_X2_layLetter_56, s_X2_layLetter_58, s_X2_layLetter_59, s_X2_layLetter_60, s_X2_layLetter_61, s_X2_layLetter_64, s_X2_layLetter_66, s_X2_layLetter_67, s_X2_layLetter_68, s_X2_layLetter_70, s_X2_layLetter_71, s_X2_layLetter_73, s_X2_layLetter_74, s_X2_layLetter_75, r0, r1, r2, r3, if_true, if_false, and_true, true_and, and_false, false_and, true_or, or_true, or_false, false_or, eq_self, not_true_eq_false, not_false_eq_true, zv_int, zv_ref, zv_null, zv_none, hK_sI, hF_sI, hJ_sI, hN_sI, hZ_sI, hI_sI_same, hK_sJ, hF_sJ, hI_sJ, hN_sJ, hZ_sJ, hJ_sJ_same, hK_sF, hI_sF, hJ_sF, hN_sF, hZ_sF, Option.bind_some, Option.toList_some, Option.toList_none, List.cons_append, List.nil_append, zq_ref, zq_null, k1, k2, f0, f1, kl, t0, t1, t2, t3, pk_mul, nI_add, nI_1, za, zb, zc, zd, ya, yb, yc, yd, sI_sI]
  simp only [Nat.zero_mul, Nat.one_mul, Nat.add_zero, Nat.zero_add] at e1 e2 e3 e4
  simp only [Nat.add_zero]
  rw [e1, e2, e3, e4]
/-- a row where the blocks before (I, J) are laid, whatever they are -/
def pgq (H z : Nat → Int32) (N m I J p : Nat) : Int32 := if p / N / m < I ∨ (p / N / m = I ∧ p % N / m < J) then H p else z p
theorem pgq_0 (H z : Nat → Int32) (N m : Nat) : pgq H z N m 0 0 = z := by
  funext p
  unfold pgq
  rw [if_neg (fun q => q.elim (fun x => absurd x (Nat.not_lt_zero _)) (fun x => absurd x.2 (Nat.not_lt_zero _)))]
theorem pgq_r {H z : Nat → Int32} {n N m I : Nat} (hN : N = n * m) (hn : 0 < n) (hm : 0 < m) : pgq H z N m I n = pgq H z N m (I + 1) 0 := by
  funext p
  unfold pgq
  have h1 : p % N < N := Nat.mod_lt _ (by rw [hN]; exact Nat.mul_pos hn hm)
  have h2 : p % N / m < n := Nat.div_lt_of_lt_mul (Nat.lt_of_lt_of_eq h1 (by rw [hN]; exact Nat.mul_comm n m))
  exact if_cg (by
    clear h1
    revert h2
    generalize p / N / m = A
    generalize p % N / m = B
    omega)
theorem pgq_s {G H z : Nat → Int32} {N m I J : Nat} (hm : 0 < m) (e : ∀ p, p / N / m = I → p % N / m = J → G p = H p) : bk G (pgq H z N m I J) N m I J m 0 = pgq H z N m I (J + 1) := by
  funext p
  unfold bk
  have h1 := Nat.mod_lt (p / N) hm
  by_cases c : p / N / m = I ∧ p % N / m = J
  · rw [if_pos ⟨c.1, c.2, Or.inl h1⟩]
    unfold pgq
    rw [if_pos (Or.inr ⟨c.1, Nat.lt_of_le_of_lt (Nat.le_of_eq c.2) (Nat.lt_succ_self J)⟩), e p c.1 c.2]
  · rw [if_neg (fun q => c ⟨q.1, q.2.1⟩)]
    unfold pgq
    exact if_cg (by
      clear h1
      revert c
      generalize p / N / m = A
      generalize p % N / m = B
      omega)
theorem pgq_in {H z : Nat → Int32} {n N m p : Nat} (hN : N = n * m) (hp : p < N * N) : pgq H z N m n 0 p = H p := by
  unfold pgq
  rw [if_pos]
  left
  have h1 : p / N < N := Nat.div_lt_of_lt_mul hp
  exact Nat.div_lt_of_lt_mul (Nat.lt_of_lt_of_eq h1 (by rw [hN]; exact Nat.mul_comm n m))
/-- the numbers of a letter's row -/
def lvl (k x : Nat) : Int32 := (zsv (4 + k)).getD x 0
/-- what the letters lay -/
def lH (f : Nat → Int32) (m mid p : Nat) : Int32 := lvl (ltr mid (p / (m * 2) / 2) (p % (m * 2) / 2)) (p / (m * 2) % 2 * 2 + p % (m * 2) % 2) + (4 * f (p / (m * 2) / 2 * m + p % (m * 2) / 2) - 4)
theorem ltr_lt {mid i j : Nat} : ltr mid i j < 3 := by
  unfold ltr
  repeat' split
  all_goals omega
theorem lvl_len {k : Nat} (hk : k < 3) : (zsv (4 + k)).length = 4 := by
  match k, hk with
  | 0, _ => rfl
  | 1, _ => rfl
  | 2, _ => rfl
theorem lp_bl_in {a r c r2 m mid I : Nat} {z : Nat → Int32} (hE : zES E) (hS : ∀ k, k < 7 → (hK h (E.1 k)).1 = 0) (k1 : hK h a = (12, 2)) (k2 : hK h r = (1, 144)) (f0 : hF h a 0 = .ref r) (f1 : hF h a 1 = .int (nI (m * 2))) (k3 : hK h c = (12, 2)) (k4 : hK h r2 = (1, 144)) (f2 : hF h c 0 = .ref r2) (f3 : hF h c 1 = .int (nI m)) (hne : r2 ≠ r) (hm : m = 2 * mid + 1) (hN : m * 2 ≤ 12) (hI_ : I < m) : ∀ (x J : Nat), J + x = m → zl E (d + 1) kX2_becomeLettered 22 [some (.ref a), some (.ref c), some (.int (nI m)), some (.int (nI I)), some (.int (nI J))] [] (sI h r (pgq (lH (hI h r2) m mid) z (m * 2) 2 I J)) = zl E (d + 1) kX2_becomeLettered 14 [some (.ref a), some (.ref c), some (.int (nI m)), some (.int (nI (I + 1))), some (.int (nI m))] [] (sI h r (pgq (lH (hI h r2) m mid) z (m * 2) 2 (I + 1) 0))
  | 0, J, e => by
    have : J = m := by omega
    subst this
    rw [s_X2_becomeLettered_22]
    simp only [s_X2_becomeLettered_0, s_X2_becomeLettered_1, s_X2_becomeLettered_4, s_X2_becomeLettered_5, s_X2_becomeLettered_6, s_X2_becomeLettered_7, s_X2_becomeLettered_8, s_X2_becomeLettered_9, s_X2_becomeLettered_12, s_X2_becomeLettered_13, s_X2_becomeLettered_15, s_X2_becomeLettered_16, s_X2_becomeLettered_19, s_X2_becomeLettered_20, s_X2_becomeLettered_24, s_X2_becomeLettered_25, s_X2_becomeLettered_28, s_X2_becomeLettered_29, s_X2_becomeLettered_30, s_X2_becomeLettered_31, s_X2_becomeLettered_32, s_X2_becomeLettered_33, s_X2_becomeLettered_35, s_X2_becomeLettered_36, s_X2_becomeLettered_37, s_X2_becomeLettered_38, s_X2_becomeLettered_40, s_X2_becomeLettered_43, s_X2_becomeLettered_44, s_X2_becomeLettered_45, s_X2_becomeLettered_46, s_X2_becomeLettered_48, s_X2_becomeLettered_51, s_X2_becomeLettered_52, s_X2_becomeLettered_53, s_X2_becomeLettered_54, s_X2_becomeLettered_57, s_X2_becomeLettered_60, s_X2_becomeLettered_63, s_X2_becomeLettered_66, s_X2_becomeLettered_69, if_true, if_false, and_true, true_and, and_false, false_and, true_or, or_true, or_false, false_or, eq_self, not_true_eq_false, not_false_eq_true, zv_int, zv_ref, zv_null, zv_none, hK_sI, hF_sI, hJ_sI, hN_sI, hZ_sI, hI_sI_same, hK_sJ, hF_sJ, hI_sJ, hN_sJ, hZ_sJ, hJ_sJ_same, hK_sF, hI_sF, hJ_sF, hN_sF, hZ_sF, Option.bind_some, Option.toList_some, Option.toList_none, List.cons_append, List.nil_append, zq_ref, zq_null, Int32.le_refl, nI_1]
    rw [pgq_r (n := J) rfl (by omega) (by omega)]
  | x + 1, J, e => by
    have hJ_ : J < m := by omega
    have q1 : ¬ nI m ≤ nI J := nI_ge (by omega) (by omega)
    have hi2 : hI (sI h r (pgq (lH (hI h r2) m mid) z (m * 2) 2 I J)) r2 = hI h r2 := hI_sI_ne h _ hne
    have e1 := c_X2_numberN (E := E) (d := d) (h := sI h r (pgq (lH (hI h r2) m mid) z (m * 2) 2 I J)) k3 k4 f2 f3 (by omega) hI_ hJ_
    rw [hi2] at e1
    have e2 := c_X2_letterAt (E := E) (d := d) (h := sI h r (pgq (lH (hI h r2) m mid) z (m * 2) 2 I J)) hm (by omega) hI_ hJ_
    have hl := ltr_lt (mid := mid) (i := I) (j := J)
    obtain ⟨f, g1, g2⟩ := hE (4 + ltr mid I J) (by omega)
    rw [lvl_len hl] at g1 g2
    have e3 := c_X2_layLetter (E := E) (d := d) (w := 4 * hI h r2 (I * m + J) - 4) (z := pgq (lH (hI h r2) m mid) z (m * 2) 2 I J) k1 k2 f0 f1 (hS _ (by omega)) g1 hI_ hJ_ hN
    rw [pgq_s (by omega) (fun p p1 p2 => by
      unfold bG lH
      rw [p1, p2]
      have u1 := Nat.mod_lt (p / (m * 2)) (show 0 < 2 by omega)
      have u2 := Nat.mod_lt (p % (m * 2)) (show 0 < 2 by omega)
      rw [g2 _ (by omega)]
      rfl)] at e3
    have t2 : ∀ y : Nat, (2 : Int32) * nI y = nI (2 * y) := fun y => by rw [show (2 : Int32) = nI 2 from rfl, pk_mul]
    rw [s_X2_becomeLettered_22]
    simp only [s_X2_becomeLettered_0, s_X2_becomeLettered_1, s_X2_becomeLettered_4, s_X2_becomeLettered_5, s_X2_becomeLettered_6, s_X2_becomeLettered_7, s_X2_becomeLettered_8, s_X2_becomeLettered_9, s_X2_becomeLettered_12, s_X2_becomeLettered_13, s_X2_becomeLettered_15, s_X2_becomeLettered_16, s_X2_becomeLettered_19, s_X2_becomeLettered_20, s_X2_becomeLettered_24, s_X2_becomeLettered_25, s_X2_becomeLettered_28, s_X2_becomeLettered_29, s_X2_becomeLettered_30, s_X2_becomeLettered_31, s_X2_becomeLettered_32, s_X2_becomeLettered_33, s_X2_becomeLettered_35, s_X2_becomeLettered_36, s_X2_becomeLettered_37, s_X2_becomeLettered_38, s_X2_becomeLettered_40, s_X2_becomeLettered_43, s_X2_becomeLettered_44, s_X2_becomeLettered_45, s_X2_becomeLettered_46, s_X2_becomeLettered_48, s_X2_becomeLettered_51, s_X2_becomeLettered_52, s_X2_becomeLettered_53, s_X2_becomeLettered_54, s_X2_becomeLettered_57, s_X2_becomeLettered_60, s_X2_becomeLettered_63, s_X2_becomeLettered_66, s_X2_becomeLettered_69, if_true, if_false, and_true, true_and, and_false, false_and, true_or, or_true, or_false, false_or, eq_self, not_true_eq_false, not_false_eq_true, zv_int, zv_ref, zv_null, zv_none, hK_sI, hF_sI, hJ_sI, hN_sI, hZ_sI, hI_sI_same, hK_sJ, hF_sJ, hI_sJ, hN_sJ, hZ_sJ, hJ_sJ_same, hK_sF, hI_sF, hJ_sF, hN_sF, hZ_sF, Option.bind_some, Option.toList_some, Option.toList_none, List.cons_append, List.nil_append, zq_ref, zq_null, k1, k3, q1, t2, e1, e2, e3, nI_1]
    exact lp_bl_in hE hS k1 k2 f0 f1 k3 k4 f2 f3 hne hm hN hI_ x (J + 1) (by omega)
theorem lp_bl {a r c r2 m mid : Nat} {z : Nat → Int32} (hE : zES E) (hS : ∀ k, k < 7 → (hK h (E.1 k)).1 = 0) (k1 : hK h a = (12, 2)) (k2 : hK h r = (1, 144)) (f0 : hF h a 0 = .ref r) (f1 : hF h a 1 = .int (nI (m * 2))) (k3 : hK h c = (12, 2)) (k4 : hK h r2 = (1, 144)) (f2 : hF h c 0 = .ref r2) (f3 : hF h c 1 = .int (nI m)) (hne : r2 ≠ r) (hm : m = 2 * mid + 1) (hN : m * 2 ≤ 12) : ∀ (x I : Nat) (v4 : Option Value), I + x = m → zl E (d + 1) kX2_becomeLettered 14 [some (.ref a), some (.ref c), some (.int (nI m)), some (.int (nI I)), v4] [] (sI h r (pgq (lH (hI h r2) m mid) z (m * 2) 2 I 0)) = some (none, sI h r (pgq (lH (hI h r2) m mid) z (m * 2) 2 m 0))
  | 0, I, v4, e => by
    have : I = m := by omega
    subst this
    rw [s_X2_becomeLettered_14]
    simp only [s_X2_becomeLettered_0, s_X2_becomeLettered_1, s_X2_becomeLettered_4, s_X2_becomeLettered_5, s_X2_becomeLettered_6, s_X2_becomeLettered_7, s_X2_becomeLettered_8, s_X2_becomeLettered_9, s_X2_becomeLettered_12, s_X2_becomeLettered_13, s_X2_becomeLettered_15, s_X2_becomeLettered_16, s_X2_becomeLettered_19, s_X2_becomeLettered_20, s_X2_becomeLettered_24, s_X2_becomeLettered_25, s_X2_becomeLettered_28, s_X2_becomeLettered_29, s_X2_becomeLettered_30, s_X2_becomeLettered_31, s_X2_becomeLettered_32, s_X2_becomeLettered_33, s_X2_becomeLettered_35, s_X2_becomeLettered_36, s_X2_becomeLettered_37, s_X2_becomeLettered_38, s_X2_becomeLettered_40, s_X2_becomeLettered_43, s_X2_becomeLettered_44, s_X2_becomeLettered_45, s_X2_becomeLettered_46, s_X2_becomeLettered_48, s_X2_becomeLettered_51, s_X2_becomeLettered_52, s_X2_becomeLettered_53, s_X2_becomeLettered_54, s_X2_becomeLettered_57, s_X2_becomeLettered_60, s_X2_becomeLettered_63, s_X2_becomeLettered_66, s_X2_becomeLettered_69, if_true, if_false, and_true, true_and, and_false, false_and, true_or, or_true, or_false, false_or, eq_self, not_true_eq_false, not_false_eq_true, zv_int, zv_ref, zv_null, zv_none, hK_sI, hF_sI, hJ_sI, hN_sI, hZ_sI, hI_sI_same, hK_sJ, hF_sJ, hI_sJ, hN_sJ, hZ_sJ, hJ_sJ_same, hK_sF, hI_sF, hJ_sF, hN_sF, hZ_sF, Option.bind_some, Option.toList_some, Option.toList_none, List.cons_append, List.nil_append, zq_ref, zq_null, Int32.le_refl]
  | x + 1, I, v4, e => by
    have q1 : ¬ nI m ≤ nI I := nI_ge (by omega) (by omega)
    have e1 := lp_bl_in (E := E) (d := d) (z := z) hE hS k1 k2 f0 f1 k3 k4 f2 f3 hne hm hN (show I < m by omega) m 0 (by omega)
    rw [nI_0] at e1
    rw [s_X2_becomeLettered_14]
    simp only [s_X2_becomeLettered_0, s_X2_becomeLettered_1, s_X2_becomeLettered_4, s_X2_becomeLettered_5, s_X2_becomeLettered_6, s_X2_becomeLettered_7, s_X2_becomeLettered_8, s_X2_becomeLettered_9, s_X2_becomeLettered_12, s_X2_becomeLettered_13, s_X2_becomeLettered_15, s_X2_becomeLettered_16, s_X2_becomeLettered_19, s_X2_becomeLettered_20, s_X2_becomeLettered_24, s_X2_becomeLettered_25, s_X2_becomeLettered_28, s_X2_becomeLettered_29, s_X2_becomeLettered_30, s_X2_becomeLettered_31, s_X2_becomeLettered_32, s_X2_becomeLettered_33, s_X2_becomeLettered_35, s_X2_becomeLettered_36, s_X2_becomeLettered_37, s_X2_becomeLettered_38, s_X2_becomeLettered_40, s_X2_becomeLettered_43, s_X2_becomeLettered_44, s_X2_becomeLettered_45, s_X2_becomeLettered_46, s_X2_becomeLettered_48, s_X2_becomeLettered_51, s_X2_becomeLettered_52, s_X2_becomeLettered_53, s_X2_becomeLettered_54, s_X2_becomeLettered_57, s_X2_becomeLettered_60, s_X2_becomeLettered_63, s_X2_becomeLettered_66, s_X2_becomeLettered_69, if_true, if_false, and_true, true_and, and_false, false_and, true_or, or_true, or_false, false_or, eq_self, not_true_eq_false, not_false_eq_true, zv_int, zv_ref, zv_null, zv_none, hK_sI, hF_sI, hJ_sI, hN_sI, hZ_sI, hI_sI_same, hK_sJ, hF_sJ, hI_sJ, hN_sJ, hZ_sJ, hJ_sJ_same, hK_sF, hI_sF, hJ_sF, hN_sF, hZ_sF, Option.bind_some, Option.toList_some, Option.toList_none, List.cons_append, List.nil_append, zq_ref, zq_null, q1]
    rw [e1]
    exact lp_bl hE hS k1 k2 f0 f1 k3 k4 f2 f3 hne hm hN x (I + 1) _ (by omega)
theorem c_X2_becomeLettered {a r c r2 m mid : Nat} (hE : zES E) (hS : ∀ k, k < 7 → (hK h (E.1 k)).1 = 0) (k1 : hK h a = (12, 2)) (k2 : hK h r = (1, 144)) (f0 : hF h a 0 = .ref r) (k3 : hK h c = (12, 2)) (k4 : hK h r2 = (1, 144)) (f2 : hF h c 0 = .ref r2) (f3 : hF h c 1 = .int (nI m)) (hne : r2 ≠ r) (hca : c ≠ a) (hm : m = 2 * mid + 1) (hN : m * 2 ≤ 12) : cal E (d + 3) kX2_becomeLettered [.ref a, .ref c] h = some (none, sI (sF h a 1 (.int (nI (m * 2)))) r (pgq (lH (hI h r2) m mid) (zr (hI h r)) (m * 2) 2 m 0)) := by
  have g0 : hF (sF h a 1 (.int (nI (m * 2)))) a 0 = .ref r := by rw [hF_sF, if_neg (fun q => absurd q.2 (by decide))]; exact f0
  have g1 : hF (sF h a 1 (.int (nI (m * 2)))) a 1 = .int (nI (m * 2)) := by rw [hF_sF, if_pos ⟨rfl, rfl⟩]
  have g2 : ∀ k, hF (sF h a 1 (.int (nI (m * 2)))) c k = hF h c k := fun k => by rw [hF_sF, if_neg (fun q => hca q.1)]
  have e1 := lp_bl (E := E) (d := d + 1) (h := sF h a 1 (.int (nI (m * 2)))) (z := zr (hI h r)) hE hS k1 k2 g0 g1 k3 k4 (by rw [g2]; exact f2) (by rw [g2]; exact f3) hne hm hN m 0 none (by omega)
  simp only [hI_sF, pgq_0] at e1
  have t2 : (2 : Int32) * nI m = nI (m * 2) := by rw [show (2 : Int32) = nI 2 from rfl, pk_mul, Nat.mul_comm]
  have e0 := c_X2_clear (E := E) (d := d) (n := nI (m * 2)) k1 k2 f0
  simp only [e_X2_becomeLettered, s_X2_becomeLettered_0, s_X2_becomeLettered_1, s_X2_becomeLettered_4, s_X2_becomeLettered_5, s_X2_becomeLettered_6, s_X2_becomeLettered_7, s_X2_becomeLettered_8, s_X2_becomeLettered_9, s_X2_becomeLettered_12, s_X2_becomeLettered_13, s_X2_becomeLettered_15, s_X2_becomeLettered_16, s_X2_becomeLettered_19, s_X2_becomeLettered_20, s_X2_becomeLettered_24, s_X2_becomeLettered_25, s_X2_becomeLettered_28, s_X2_becomeLettered_29, s_X2_becomeLettered_30, s_X2_becomeLettered_31, s_X2_becomeLettered_32, s_X2_becomeLettered_33, s_X2_becomeLettered_35, s_X2_becomeLettered_36, s_X2_becomeLettered_37, s_X2_becomeLettered_38, s_X2_becomeLettered_40, s_X2_becomeLettered_43, s_X2_becomeLettered_44, s_X2_becomeLettered_45, s_X2_becomeLettered_46, s_X2_becomeLettered_48, s_X2_becomeLettered_51, s_X2_becomeLettered_52, s_X2_becomeLettered_53, s_X2_becomeLettered_54, s_X2_becomeLettered_57, s_X2_becomeLettered_60, s_X2_becomeLettered_63, s_X2_becomeLettered_66, s_X2_becomeLettered_69, if_true, if_false, and_true, true_and, and_false, false_and, true_or, or_true, or_false, false_or, eq_self, not_true_eq_false, not_false_eq_true, zv_int, zv_ref, zv_null, zv_none, hK_sI, hF_sI, hJ_sI, hN_sI, hZ_sI, hI_sI_same, hK_sJ, hF_sJ, hI_sJ, hN_sJ, hZ_sJ, hJ_sJ_same, hK_sF, hI_sF, hJ_sF, hN_sF, hZ_sF, Option.bind_some, Option.toList_some, Option.toList_none, List.cons_append, List.nil_append, zq_ref, zq_null, k1, k3, f3, t2, e0]
  exact e1
end
