/-! ===== turns of the reference ===== -/
section
variable {E : mE} {d : Nat} {h : mH} {b : Nat}
/-- numbers no greater than 100000 either way -/
def bd (f : Nat → Int32) (N : Nat) : Prop := ∀ p, p < N → -100000 ≤ (f p).toInt ∧ (f p).toInt ≤ 100000
theorem sb0 {x y : Int32} : x - y = 0 ↔ x = y := by
  constructor
  · intro q
    have : x - y + y = 0 + y := by rw [q]
    rwa [Int32.sub_add_cancel, Int32.zero_add] at this
  · intro q
    rw [q, Int32.sub_self]
theorem sbI {x y : Int32} (hx : -100000 ≤ x.toInt ∧ x.toInt ≤ 100000) (hy : -100000 ≤ y.toInt ∧ y.toInt ≤ 100000) : (x - y).toInt = x.toInt - y.toInt := by
  rw [Int32.toInt_sub, Int.bmod_def]
  omega
theorem sbn {x y : Int32} (hx : -100000 ≤ x.toInt ∧ x.toInt ≤ 100000) (hy : -100000 ≤ y.toInt ∧ y.toInt ≤ 100000) : 0 ≤ x - y ↔ ¬ x < y := by
  rw [Int32.le_iff_toInt_le, sbI hx hy, Int32.lt_iff_toInt_lt]
  have : (0 : Int32).toInt = 0 := rfl
  omega
theorem lp_compared {q n t u : Nat} {f : Nat → Int32} (L : Lay b h) (hq : q < 24) (hf : f = fun p => hI h (b + 77) (144 * q + p)) (hb : bd f (n * n)) (hn : 1 ≤ n ∧ n ≤ 12) (ht : t < 8) (hu : u < 8) : ∀ (k p : Nat) (v6 : Option Value), p + k = n * n → zl E (d + 1) kX4_compared 11 [some (.ref (b + 70)), some (.int (nI q)), some (.int (nI t)), some (.int (nI u)), some (.int (nI n)), some (.int (nI p)), v6] [] h = some (some (.int (lx (tn f n t) (tn f n u) k p)), h)
  | 0, p, v6, e => by
    have : p = n * n := by omega
    subst this
    rw [s_X4_compared_11]
    simp only [s_X4_compared_0, s_X4_compared_1, s_X4_compared_4, s_X4_compared_5, s_X4_compared_6, s_X4_compared_8, s_X4_compared_9, s_X4_compared_13, s_X4_compared_15, s_X4_compared_17, s_X4_compared_18, s_X4_compared_21, s_X4_compared_22, s_X4_compared_25, s_X4_compared_28, s_X4_compared_29, s_X4_compared_30, s_X4_compared_32, s_X4_compared_33, s_X4_compared_35, s_X4_compared_37, s_X4_compared_38, s_X4_compared_40, s_X4_compared_42, s_X4_compared_43, s_X4_compared_46, s_X4_compared_47, s_X4_compared_48, s_X4_compared_49, s_X4_compared_52, s_X4_compared_55, s_X4_compared_56, s_X4_compared_57, s_X4_compared_59, s_X4_compared_60, s_X4_compared_62, s_X4_compared_64, s_X4_compared_65, s_X4_compared_67, s_X4_compared_69, s_X4_compared_70, s_X4_compared_73, s_X4_compared_74, s_X4_compared_75, s_X4_compared_76, s_X4_compared_78, s_X4_compared_80, s_X4_compared_83, s_X4_compared_85, s_X4_compared_88, s_X4_compared_89, s_X4_compared_92, s_X4_compared_93, s_X4_compared_94, s_X4_compared_97, s_X4_compared_100, s_X4_compared_101, if_true, if_false, and_true, true_and, and_false, false_and, true_or, or_true, or_false, false_or, eq_self, not_true_eq_false, not_false_eq_true, zv_int, zv_ref, zv_null, zv_none, hK_sI, hF_sI, hJ_sI, hN_sI, hZ_sI, hI_sI_same, hK_sJ, hF_sJ, hI_sJ, hN_sJ, hZ_sJ, hJ_sJ_same, hK_sF, hI_sF, hJ_sF, hN_sF, hZ_sF, Option.bind_some, Option.toList_some, Option.toList_none, List.cons_append, List.nil_append, zq_ref, zq_null, pk_mul, Int32.le_refl, lx]
  | k + 1, p, v6, e => by
    have qn : n * n ≤ 144 := Nat.mul_le_mul hn.2 hn.2
    have q1 : ¬ nI (n * n) ≤ nI p := nI_ge (by omega) (by omega)
    have n0 : ¬ nI n = 0 := nI_ne0 (by omega) (by omega)
    have hi : p / n < n := Nat.div_lt_of_lt_mul (by omega)
    have hj : p % n < n := Nat.mod_lt _ (by omega)
    have d1 : nI p / nI n = nI (p / n) := pk_div (by omega) (by omega) (by omega)
    have r1 : nI p - nI (p / n * n) = nI (p % n) := by
      rw [pk_sub (Nat.div_mul_le_self p n)]
      congr 1
      have := Nat.div_add_mod p n
      rw [Nat.mul_comm] at this
      omega
    have e1 : (144 : Int32) * nI q = nI (144 * q) := by rw [show (144 : Int32) = nI 144 from rfl, pk_mul]
    have lt1 := src_lt (t := t) hn.2 hi hj
    have lt2 := src_lt (t := u) hn.2 hi hj
    have z1 : zR (nI (144 * q + src n t (p / n) (p % n))) 3456 := zR_to (by decide) (by omega)
    have y1 : (nI (144 * q + src n t (p / n) (p % n))).toNatClampNeg = 144 * q + src n t (p / n) (p % n) := nI_clamp (by omega)
    have z2 : zR (nI (144 * q + src n u (p / n) (p % n))) 3456 := zR_to (by decide) (by omega)
    have y2 : (nI (144 * q + src n u (p / n) (p % n))).toNatClampNeg = 144 * q + src n u (p / n) (p % n) := nI_clamp (by omega)
    have g1 : hI h (b + 77) (144 * q + src n t (p / n) (p % n)) = tn f n t p := by rw [hf]; rfl
    have g2 : hI h (b + 77) (144 * q + src n u (p / n) (p % n)) = tn f n u p := by rw [hf]; rfl
    have b1 : -100000 ≤ (tn f n t p).toInt ∧ (tn f n t p).toInt ≤ 100000 := hb _ lt1.1
    have b2 : -100000 ≤ (tn f n u p).toInt ∧ (tn f n u p).toInt ≤ 100000 := hb _ lt2.1
    have c1 := c_X4_source (E := E) (d := d) (h := h) hn.2 ht hi hj
    have c2 := c_X4_source (E := E) (d := d) (h := h) hn.2 hu hi hj
    have ih := lp_compared L hq hf hb hn ht hu k (p + 1)
    rw [s_X4_compared_11]
    unfold lx
    by_cases qq : tn f n t p = tn f n u p
    · simp (decide := true) only [s_X4_compared_0, s_X4_compared_1, s_X4_compared_4, s_X4_compared_5, s_X4_compared_6, s_X4_compared_8, s_X4_compared_9, s_X4_compared_13, s_X4_compared_15, s_X4_compared_17, s_X4_compared_18, s_X4_compared_21, s_X4_compared_22, s_X4_compared_25, s_X4_compared_28, s_X4_compared_29, s_X4_compared_30, s_X4_compared_32, s_X4_compared_33, s_X4_compared_35, s_X4_compared_37, s_X4_compared_38, s_X4_compared_40, s_X4_compared_42, s_X4_compared_43, s_X4_compared_46, s_X4_compared_47, s_X4_compared_48, s_X4_compared_49, s_X4_compared_52, s_X4_compared_55, s_X4_compared_56, s_X4_compared_57, s_X4_compared_59, s_X4_compared_60, s_X4_compared_62, s_X4_compared_64, s_X4_compared_65, s_X4_compared_67, s_X4_compared_69, s_X4_compared_70, s_X4_compared_73, s_X4_compared_74, s_X4_compared_75, s_X4_compared_76, s_X4_compared_78, s_X4_compared_80, s_X4_compared_83, s_X4_compared_85, s_X4_compared_88, s_X4_compared_89, s_X4_compared_92, s_X4_compared_93, s_X4_compared_94, s_X4_compared_97, s_X4_compared_100, s_X4_compared_101, if_true, if_false, and_true, true_and, and_false, false_and, true_or, or_true, or_false, false_or, eq_self, not_true_eq_false, not_false_eq_true, zv_int, zv_ref, zv_null, zv_none, hK_sI, hF_sI, hJ_sI, hN_sI, hZ_sI, hI_sI_same, hK_sJ, hF_sJ, hI_sJ, hN_sJ, hZ_sJ, hJ_sJ_same, hK_sF, hI_sF, hJ_sF, hN_sF, hZ_sF, Option.bind_some, Option.toList_some, Option.toList_none, List.cons_append, List.nil_append, zq_ref, zq_null, L.k70, L.p70_7, L.k77, pk_mul, q1, n0, d1, r1, e1, nI_add, c1, c2, z1, y1, z2, y2, g1, g2, sb0, eq_true qq, nI_1]
      exact ih _ (by omega)
    · by_cases q2 : tn f n t p < tn f n u p
      · simp (decide := true) only [s_X4_compared_0, s_X4_compared_1, s_X4_compared_4, s_X4_compared_5, s_X4_compared_6, s_X4_compared_8, s_X4_compared_9, s_X4_compared_13, s_X4_compared_15, s_X4_compared_17, s_X4_compared_18, s_X4_compared_21, s_X4_compared_22, s_X4_compared_25, s_X4_compared_28, s_X4_compared_29, s_X4_compared_30, s_X4_compared_32, s_X4_compared_33, s_X4_compared_35, s_X4_compared_37, s_X4_compared_38, s_X4_compared_40, s_X4_compared_42, s_X4_compared_43, s_X4_compared_46, s_X4_compared_47, s_X4_compared_48, s_X4_compared_49, s_X4_compared_52, s_X4_compared_55, s_X4_compared_56, s_X4_compared_57, s_X4_compared_59, s_X4_compared_60, s_X4_compared_62, s_X4_compared_64, s_X4_compared_65, s_X4_compared_67, s_X4_compared_69, s_X4_compared_70, s_X4_compared_73, s_X4_compared_74, s_X4_compared_75, s_X4_compared_76, s_X4_compared_78, s_X4_compared_80, s_X4_compared_83, s_X4_compared_85, s_X4_compared_88, s_X4_compared_89, s_X4_compared_92, s_X4_compared_93, s_X4_compared_94, s_X4_compared_97, s_X4_compared_100, s_X4_compared_101, if_true, if_false, and_true, true_and, and_false, false_and, true_or, or_true, or_false, false_or, eq_self, not_true_eq_false, not_false_eq_true, zv_int, zv_ref, zv_null, zv_none, hK_sI, hF_sI, hJ_sI, hN_sI, hZ_sI, hI_sI_same, hK_sJ, hF_sJ, hI_sJ, hN_sJ, hZ_sJ, hJ_sJ_same, hK_sF, hI_sF, hJ_sF, hN_sF, hZ_sF, Option.bind_some, Option.toList_some, Option.toList_none, List.cons_append, List.nil_append, zq_ref, zq_null, L.k70, L.p70_7, L.k77, pk_mul, q1, n0, d1, r1, e1, nI_add, c1, c2, z1, y1, z2, y2, g1, g2, sb0, qq, sbn b1 b2, q2]
      · simp (decide := true) only [s_X4_compared_0, s_X4_compared_1, s_X4_compared_4, s_X4_compared_5, s_X4_compared_6, s_X4_compared_8, s_X4_compared_9, s_X4_compared_13, s_X4_compared_15, s_X4_compared_17, s_X4_compared_18, s_X4_compared_21, s_X4_compared_22, s_X4_compared_25, s_X4_compared_28, s_X4_compared_29, s_X4_compared_30, s_X4_compared_32, s_X4_compared_33, s_X4_compared_35, s_X4_compared_37, s_X4_compared_38, s_X4_compared_40, s_X4_compared_42, s_X4_compared_43, s_X4_compared_46, s_X4_compared_47, s_X4_compared_48, s_X4_compared_49, s_X4_compared_52, s_X4_compared_55, s_X4_compared_56, s_X4_compared_57, s_X4_compared_59, s_X4_compared_60, s_X4_compared_62, s_X4_compared_64, s_X4_compared_65, s_X4_compared_67, s_X4_compared_69, s_X4_compared_70, s_X4_compared_73, s_X4_compared_74, s_X4_compared_75, s_X4_compared_76, s_X4_compared_78, s_X4_compared_80, s_X4_compared_83, s_X4_compared_85, s_X4_compared_88, s_X4_compared_89, s_X4_compared_92, s_X4_compared_93, s_X4_compared_94, s_X4_compared_97, s_X4_compared_100, s_X4_compared_101, if_true, if_false, and_true, true_and, and_false, false_and, true_or, or_true, or_false, false_or, eq_self, not_true_eq_false, not_false_eq_true, zv_int, zv_ref, zv_null, zv_none, hK_sI, hF_sI, hJ_sI, hN_sI, hZ_sI, hI_sI_same, hK_sJ, hF_sJ, hI_sJ, hN_sJ, hZ_sJ, hJ_sJ_same, hK_sF, hI_sF, hJ_sF, hN_sF, hZ_sF, Option.bind_some, Option.toList_some, Option.toList_none, List.cons_append, List.nil_append, zq_ref, zq_null, L.k70, L.p70_7, L.k77, pk_mul, q1, n0, d1, r1, e1, nI_add, c1, c2, z1, y1, z2, y2, g1, g2, sb0, qq, sbn b1 b2, q2]
theorem c_X4_compared {q n t u : Nat} {f : Nat → Int32} (L : Lay b h) (hq : q < 24) (hf : f = fun p => hI h (b + 77) (144 * q + p)) (ho : hI h (b + 76) q = nI n) (hb : bd f (n * n)) (hn : 1 ≤ n ∧ n ≤ 12) (ht : t < 8) (hu : u < 8) : cal E (d + 2) kX4_compared [.ref (b + 70), .int (nI q), .int (nI t), .int (nI u)] h = some (some (.int (lcm f f n t u)), h) := by
  have := lp_compared (E := E) (d := d) L hq hf hb hn ht hu (n * n) 0 none (by omega)
  have q1 : zR (nI q) 24 := zR_to (by decide) hq
  have q2 : (nI q).toNatClampNeg = q := nI_clamp (by omega)
  simp only [e_X4_compared, s_X4_compared_0, s_X4_compared_1, s_X4_compared_4, s_X4_compared_5, s_X4_compared_6, s_X4_compared_8, s_X4_compared_9, s_X4_compared_13, s_X4_compared_15, s_X4_compared_17, s_X4_compared_18, s_X4_compared_21, s_X4_compared_22, s_X4_compared_25, s_X4_compared_28, s_X4_compared_29, s_X4_compared_30, s_X4_compared_32, s_X4_compared_33, s_X4_compared_35, s_X4_compared_37, s_X4_compared_38, s_X4_compared_40, s_X4_compared_42, s_X4_compared_43, s_X4_compared_46, s_X4_compared_47, s_X4_compared_48, s_X4_compared_49, s_X4_compared_52, s_X4_compared_55, s_X4_compared_56, s_X4_compared_57, s_X4_compared_59, s_X4_compared_60, s_X4_compared_62, s_X4_compared_64, s_X4_compared_65, s_X4_compared_67, s_X4_compared_69, s_X4_compared_70, s_X4_compared_73, s_X4_compared_74, s_X4_compared_75, s_X4_compared_76, s_X4_compared_78, s_X4_compared_80, s_X4_compared_83, s_X4_compared_85, s_X4_compared_88, s_X4_compared_89, s_X4_compared_92, s_X4_compared_93, s_X4_compared_94, s_X4_compared_97, s_X4_compared_100, s_X4_compared_101, if_true, if_false, and_true, true_and, and_false, false_and, true_or, or_true, or_false, false_or, eq_self, not_true_eq_false, not_false_eq_true, zv_int, zv_ref, zv_null, zv_none, hK_sI, hF_sI, hJ_sI, hN_sI, hZ_sI, hI_sI_same, hK_sJ, hF_sJ, hI_sJ, hN_sJ, hZ_sJ, hJ_sJ_same, hK_sF, hI_sF, hJ_sF, hN_sF, hZ_sF, Option.bind_some, Option.toList_some, Option.toList_none, List.cons_append, List.nil_append, zq_ref, zq_null, L.k70, L.p70_6, L.k76, q1, q2, ho]
  exact this
theorem lp_formOf {q n : Nat} {f : Nat → Int32} (L : Lay b h) (hq : q < 24) (hf : f = fun p => hI h (b + 77) (144 * q + p)) (ho : hI h (b + 76) q = nI n) (hb : bd f (n * n)) (hn : 1 ≤ n ∧ n ≤ 12) : ∀ (k t m : Nat), t + k = 8 → m < 8 → zl E (d + 2) kX4_formOf 4 [some (.ref (b + 70)), some (.int (nI q)), some (.int (nI m)), some (.int (nI t))] [] h = some (some (.int (nI (lsT (lcm f f n) k t m))), h)
  | 0, t, m, e, hm => by
    have : t = 8 := by omega
    subst this
    rw [s_X4_formOf_4]
    simp (decide := true) only [s_X4_formOf_0, s_X4_formOf_1, s_X4_formOf_2, s_X4_formOf_3, s_X4_formOf_5, s_X4_formOf_7, s_X4_formOf_10, s_X4_formOf_11, s_X4_formOf_12, s_X4_formOf_13, s_X4_formOf_14, s_X4_formOf_17, s_X4_formOf_20, s_X4_formOf_21, s_X4_formOf_24, s_X4_formOf_25, s_X4_formOf_26, s_X4_formOf_29, s_X4_formOf_32, s_X4_formOf_33, if_true, if_false, and_true, true_and, and_false, false_and, true_or, or_true, or_false, false_or, eq_self, not_true_eq_false, not_false_eq_true, zv_int, zv_ref, zv_null, zv_none, hK_sI, hF_sI, hJ_sI, hN_sI, hZ_sI, hI_sI_same, hK_sJ, hF_sJ, hI_sJ, hN_sJ, hZ_sJ, hJ_sJ_same, hK_sF, hI_sF, hJ_sF, hN_sF, hZ_sF, Option.bind_some, Option.toList_some, Option.toList_none, List.cons_append, List.nil_append, zq_ref, zq_null, lsT]
  | k + 1, t, m, e, hm => by
    have q1 : ¬ 8 ≤ nI t := nI_ge (b := 8) (by omega) (by decide)
    have e1 := c_X4_compared (E := E) (d := d) L hq hf ho hb hn (show t < 8 by omega) hm
    rw [s_X4_formOf_4]
    unfold lsT
    by_cases qq : lcm f f n t m < 0
    · simp only [s_X4_formOf_0, s_X4_formOf_1, s_X4_formOf_2, s_X4_formOf_3, s_X4_formOf_5, s_X4_formOf_7, s_X4_formOf_10, s_X4_formOf_11, s_X4_formOf_12, s_X4_formOf_13, s_X4_formOf_14, s_X4_formOf_17, s_X4_formOf_20, s_X4_formOf_21, s_X4_formOf_24, s_X4_formOf_25, s_X4_formOf_26, s_X4_formOf_29, s_X4_formOf_32, s_X4_formOf_33, if_true, if_false, and_true, true_and, and_false, false_and, true_or, or_true, or_false, false_or, eq_self, not_true_eq_false, not_false_eq_true, zv_int, zv_ref, zv_null, zv_none, hK_sI, hF_sI, hJ_sI, hN_sI, hZ_sI, hI_sI_same, hK_sJ, hF_sJ, hI_sJ, hN_sJ, hZ_sJ, hJ_sJ_same, hK_sF, hI_sF, hJ_sF, hN_sF, hZ_sF, Option.bind_some, Option.toList_some, Option.toList_none, List.cons_append, List.nil_append, zq_ref, zq_null, L.k70, q1, e1, n32_le.mpr qq, nI_1, qq]
      exact lp_formOf L hq hf ho hb hn k (t + 1) t (by omega) (by omega)
    · simp only [s_X4_formOf_0, s_X4_formOf_1, s_X4_formOf_2, s_X4_formOf_3, s_X4_formOf_5, s_X4_formOf_7, s_X4_formOf_10, s_X4_formOf_11, s_X4_formOf_12, s_X4_formOf_13, s_X4_formOf_14, s_X4_formOf_17, s_X4_formOf_20, s_X4_formOf_21, s_X4_formOf_24, s_X4_formOf_25, s_X4_formOf_26, s_X4_formOf_29, s_X4_formOf_32, s_X4_formOf_33, if_true, if_false, and_true, true_and, and_false, false_and, true_or, or_true, or_false, false_or, eq_self, not_true_eq_false, not_false_eq_true, zv_int, zv_ref, zv_null, zv_none, hK_sI, hF_sI, hJ_sI, hN_sI, hZ_sI, hI_sI_same, hK_sJ, hF_sJ, hI_sJ, hN_sJ, hZ_sJ, hJ_sJ_same, hK_sF, hI_sF, hJ_sF, hN_sF, hZ_sF, Option.bind_some, Option.toList_some, Option.toList_none, List.cons_append, List.nil_append, zq_ref, zq_null, L.k70, q1, e1, n32_lt.mp qq, nI_1, qq]
      exact lp_formOf L hq hf ho hb hn k (t + 1) m (by omega) hm
theorem c_X4_formOf {q n : Nat} {f : Nat → Int32} (L : Lay b h) (hq : q < 24) (hf : f = fun p => hI h (b + 77) (144 * q + p)) (ho : hI h (b + 76) q = nI n) (hb : bd f (n * n)) (hn : 1 ≤ n ∧ n ≤ 12) : cal E (d + 3) kX4_formOf [.ref (b + 70), .int (nI q)] h = some (some (.int (nI (fm f n))), h) := by
  have := lp_formOf (E := E) (d := d) L hq hf ho hb hn 7 1 0 (by omega) (by omega)
  simp only [e_X4_formOf, s_X4_formOf_0, s_X4_formOf_1, s_X4_formOf_2, s_X4_formOf_3, s_X4_formOf_5, s_X4_formOf_7, s_X4_formOf_10, s_X4_formOf_11, s_X4_formOf_12, s_X4_formOf_13, s_X4_formOf_14, s_X4_formOf_17, s_X4_formOf_20, s_X4_formOf_21, s_X4_formOf_24, s_X4_formOf_25, s_X4_formOf_26, s_X4_formOf_29, s_X4_formOf_32, s_X4_formOf_33, if_true, if_false, and_true, true_and, and_false, false_and, true_or, or_true, or_false, false_or, eq_self, not_true_eq_false, not_false_eq_true, zv_int, zv_ref, zv_null, zv_none, hK_sI, hF_sI, hJ_sI, hN_sI, hZ_sI, hI_sI_same, hK_sJ, hF_sJ, hI_sJ, hN_sJ, hZ_sJ, hJ_sJ_same, hK_sF, hI_sF, hJ_sF, hN_sF, hZ_sF, Option.bind_some, Option.toList_some, Option.toList_none, List.cons_append, List.nil_append, zq_ref, zq_null]
  exact this
end
