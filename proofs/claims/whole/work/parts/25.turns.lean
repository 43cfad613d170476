/-! ===== turns ===== -/
section
variable {E : mE} {d : Nat} {h : mH} {b : Nat}
/-- the row and the column from which turn t takes what comes to (i, j) -/
def tr (n t i j : Nat) : Nat := if t % 4 = 0 then i else if t % 4 = 1 then n - 1 - j else if t % 4 = 2 then n - 1 - i else j
def tc (n t i j : Nat) : Nat := if t % 4 = 0 then j else if t % 4 = 1 then i else if t % 4 = 2 then n - 1 - j else n - 1 - i
def src (n t i j : Nat) : Nat := if t < 4 then n * tr n t i j + tc n t i j else n * tc n t i j + tr n t i j
theorem tr_lt {n t i j : Nat} (hi : i < n) (hj : j < n) : tr n t i j < n ∧ tc n t i j < n := by
  unfold tr tc
  constructor <;> (repeat' split) <;> omega
theorem src_lt {n t i j : Nat} (hn : n ≤ 12) (hi : i < n) (hj : j < n) : src n t i j < n * n ∧ n * n ≤ 144 := by
  obtain ⟨a, c⟩ := tr_lt (t := t) hi hj
  unfold src
  split
  · exact nij hn a c
  · exact nij hn c a
theorem c_X4_source {n t i j : Nat} (hn : n ≤ 12) (ht : t < 8) (hi : i < n) (hj : j < n) : cal E (d + 1) kX4_source [.int (nI n), .int (nI t), .int (nI i), .int (nI j)] h = some (some (.int (nI (src n t i j))), h) := by
  have s1 : nI n - 1 = nI (n - 1) := by rw [show (1 : Int32) = nI 1 from rfl, pk_sub (by omega)]
  have s2 : nI (n - 1) - nI j = nI (n - 1 - j) := pk_sub (by omega)
  have s3 : nI (n - 1) - nI i = nI (n - 1 - i) := pk_sub (by omega)
  have ht' : t = 0 ∨ t = 1 ∨ t = 2 ∨ t = 3 ∨ t = 4 ∨ t = 5 ∨ t = 6 ∨ t = 7 := by omega
  unfold src tr tc
  rcases ht' with rfl | rfl | rfl | rfl | rfl | rfl | rfl | rfl <;> simp (decide := true) only [e_X4_source, s_X4_source_0, s_X4_source_1, s_X4_source_2, s_X4_source_3, s_X4_source_6, s_X4_source_7, s_X4_source_10, s_X4_source_11, s_X4_source_12, s_X4_source_13, s_X4_source_14, s_X4_source_17, s_X4_source_18, s_X4_source_19, s_X4_source_20, s_X4_source_21, s_X4_source_22, s_X4_source_25, s_X4_source_26, s_X4_source_27, s_X4_source_28, s_X4_source_29, s_X4_source_32, s_X4_source_33, s_X4_source_34, s_X4_source_35, s_X4_source_36, s_X4_source_37, s_X4_source_40, s_X4_source_41, s_X4_source_43, s_X4_source_44, s_X4_source_45, s_X4_source_46, s_X4_source_49, s_X4_source_50, s_X4_source_53, s_X4_source_54, s_X4_source_55, s_X4_source_56, s_X4_source_57, s_X4_source_60, s_X4_source_61, s_X4_source_64, s_X4_source_65, s_X4_source_66, s_X4_source_67, s_X4_source_68, s_X4_source_71, s_X4_source_72, s_X4_source_73, s_X4_source_74, s_X4_source_75, s_X4_source_76, s_X4_source_79, s_X4_source_80, s_X4_source_81, s_X4_source_82, s_X4_source_83, s_X4_source_84, s_X4_source_86, s_X4_source_87, s_X4_source_88, s_X4_source_91, s_X4_source_92, s_X4_source_94, s_X4_source_95, s_X4_source_97, s_X4_source_98, s_X4_source_101, s_X4_source_102, s_X4_source_104, s_X4_source_105, s_X4_source_107, s_X4_source_108, if_true, if_false, and_true, true_and, and_false, false_and, true_or, or_true, or_false, false_or, eq_self, not_true_eq_false, not_false_eq_true, zv_int, zv_ref, zv_null, zv_none, hK_sI, hF_sI, hJ_sI, hN_sI, hZ_sI, hI_sI_same, hK_sJ, hF_sJ, hI_sJ, hN_sJ, hZ_sJ, hJ_sJ_same, hK_sF, hI_sF, hJ_sF, hN_sF, hZ_sF, Option.bind_some, Option.toList_some, Option.toList_none, List.cons_append, List.nil_append, zq_ref, zq_null, s1, s2, s3, pk_mul, nI_add]
theorem c_X2_afterTurn {a r n t i j : Nat} (k1 : hK h a = (12, 2)) (k2 : hK h r = (1, 144)) (f0 : hF h a 0 = .ref r) (f1 : hF h a 1 = .int (nI n)) (hn : n ≤ 12) (ht : t < 8) (hi : i < n) (hj : j < n) : cal E (d + 1) kX2_afterTurn [.ref a, .int (nI t), .int (nI i), .int (nI j)] h = some (some (.int (hI h r (src n t i j))), h) := by
  have s1 : nI n - 1 = nI (n - 1) := by rw [show (1 : Int32) = nI 1 from rfl, pk_sub (by omega)]
  have s2 : nI (n - 1) - nI j = nI (n - 1 - j) := pk_sub (by omega)
  have s3 : nI (n - 1) - nI i = nI (n - 1 - i) := pk_sub (by omega)
  have ht' : t = 0 ∨ t = 1 ∨ t = 2 ∨ t = 3 ∨ t = 4 ∨ t = 5 ∨ t = 6 ∨ t = 7 := by omega
  have hz : ∀ x y, x < n → y < n → zR (nI (x * n + y)) 144 ∧ (nI (x * n + y)).toNatClampNeg = n * x + y := fun x y hx hy => by
    have := nij hn hx hy
    rw [Nat.mul_comm x n]
    exact ⟨zR_to (by decide) (by omega), nI_clamp (by omega)⟩
  have m0 : nI 0 &&& 3 = 0 := rfl
  have m1 : nI 1 &&& 3 = 1 := rfl
  have m2 : nI 2 &&& 3 = 2 := rfl
  have m3 : nI 3 &&& 3 = 3 := rfl
  have m4 : nI 4 &&& 3 = 0 := rfl
  have m5 : nI 5 &&& 3 = 1 := rfl
  have m6 : nI 6 &&& 3 = 2 := rfl
  have m7 : nI 7 &&& 3 = 3 := rfl
  have z1 := hz i j hi hj
  have z2 := hz (n - 1 - j) i (by omega) hi
  have z3 := hz (n - 1 - i) (n - 1 - j) (by omega) (by omega)
  have z4 := hz j (n - 1 - i) hj (by omega)
  have z5 := hz j i hj hi
  have z6 := hz i (n - 1 - j) hi (by omega)
  have z7 := hz (n - 1 - j) (n - 1 - i) (by omega) (by omega)
  have z8 := hz (n - 1 - i) j (by omega) hj
  unfold src tr tc
  rcases ht' with rfl | rfl | rfl | rfl | rfl | rfl | rfl | rfl <;> simp (decide := true) only [e_X2_afterTurn, s_X2_afterTurn_0, s_X2_afterTurn_1, s_X2_afterTurn_4, s_X2_afterTurn_5, s_X2_afterTurn_6, s_X2_afterTurn_8, s_X2_afterTurn_9, s_X2_afterTurn_11, s_X2_afterTurn_12, s_X2_afterTurn_14, s_X2_afterTurn_15, s_X2_afterTurn_16, s_X2_afterTurn_17_1, s_X2_afterTurn_17_2, s_X2_afterTurn_17_3, s_X2_afterTurn_17_d, s_X2_afterTurn_44, s_X2_afterTurn_46, s_X2_afterTurn_47, s_X2_afterTurn_48, s_X2_afterTurn_50, s_X2_afterTurn_51, s_X2_afterTurn_53, s_X2_afterTurn_56, s_X2_afterTurn_58, s_X2_afterTurn_59, s_X2_afterTurn_60, s_X2_afterTurn_62, s_X2_afterTurn_64, s_X2_afterTurn_65, s_X2_afterTurn_66, s_X2_afterTurn_68, s_X2_afterTurn_71, s_X2_afterTurn_72, s_X2_afterTurn_74, s_X2_afterTurn_76, s_X2_afterTurn_77, s_X2_afterTurn_78, s_X2_afterTurn_80, s_X2_afterTurn_83, s_X2_afterTurn_84, s_X2_afterTurn_85, s_X2_afterTurn_88, s_X2_afterTurn_89, s_X2_afterTurn_92, s_X2_afterTurn_94, s_X2_afterTurn_95, s_X2_afterTurn_98, s_X2_afterTurn_99, s_X2_afterTurn_101, s_X2_afterTurn_102, s_X2_afterTurn_103, s_X2_afterTurn_106, s_X2_afterTurn_107, s_X2_afterTurn_110, s_X2_afterTurn_112, s_X2_afterTurn_113, s_X2_afterTurn_116, s_X2_afterTurn_117, s_X2_afterTurn_119, s_X2_afterTurn_120, s_X2_afterTurn_121, if_true, if_false, and_true, true_and, and_false, false_and, true_or, or_true, or_false, false_or, eq_self, not_true_eq_false, not_false_eq_true, zv_int, zv_ref, zv_null, zv_none, hK_sI, hF_sI, hJ_sI, hN_sI, hZ_sI, hI_sI_same, hK_sJ, hF_sJ, hI_sJ, hN_sJ, hZ_sJ, hJ_sJ_same, hK_sF, hI_sF, hJ_sF, hN_sF, hZ_sF, Option.bind_some, Option.toList_some, Option.toList_none, List.cons_append, List.nil_append, zq_ref, zq_null, k1, k2, f0, f1, s1, s2, s3, m0, m1, m2, m3, m4, m5, m6, m7, pk_mul, nI_add, z1, z2, z3, z4, z5, z6, z7, z8]
/-- the first place in which two rows differ decides: -1, 0, 1 -/
def lx (f g : Nat → Int32) : Nat → Nat → Int32
  | 0, _ => 0
  | k + 1, i => if f i = g i then lx f g k (i + 1) else if f i < g i then -1 else 1
theorem lx_add (f g : Nat → Int32) : ∀ (k m i : Nat), lx f g k i = 0 → lx f g (k + m) i = lx f g m (i + k)
  | 0, m, i, _ => by rw [Nat.zero_add, Nat.add_zero]
  | k + 1, m, i, e => by
    unfold lx at e
    rw [show k + 1 + m = (k + m) + 1 by omega]
    by_cases q : f i = g i
    · rw [if_pos q] at e
      show (if f i = g i then lx f g (k + m) (i + 1) else _) = _
      rw [if_pos q, lx_add f g k m (i + 1) e]
      congr 1; omega
    · rw [if_neg q] at e
      split at e <;> exact absurd e (by decide)
theorem lx_sub (f g : Nat → Int32) : ∀ (k m i : Nat), lx f g k i ≠ 0 → lx f g (k + m) i = lx f g k i
  | 0, m, i, e => absurd rfl e
  | k + 1, m, i, e => by
    unfold lx at e
    rw [show k + 1 + m = (k + m) + 1 by omega]
    by_cases q : f i = g i
    · rw [if_pos q] at e
      show (if f i = g i then lx f g (k + m) (i + 1) else _) = (if f i = g i then lx f g k (i + 1) else _)
      rw [if_pos q, if_pos q, lx_sub f g k m (i + 1) e]
    · show (if f i = g i then lx f g (k + m) (i + 1) else _) = (if f i = g i then lx f g k (i + 1) else _)
      rw [if_neg q, if_neg q]
/-- a row as a turn makes it -/
def tn (f : Nat → Int32) (n t p : Nat) : Int32 := f (src n t (p / n) (p % n))
theorem tn_ij {f : Nat → Int32} {n t i j : Nat} (hj : j < n) : tn f n t (i * n + j) = f (src n t i j) := by
  unfold tn
  have h1 : (i * n + j) / n = i := by
    rw [Nat.mul_comm, Nat.mul_add_div (by omega), Nat.div_eq_of_lt hj, Nat.add_zero]
  have h2 : (i * n + j) % n = j := by
    rw [Nat.mul_comm, Nat.mul_add_mod, Nat.mod_eq_of_lt hj]
  rw [h1, h2]
theorem lp_cmp_in {a r a2 r2 n t u i : Nat} (k1 : hK h a = (12, 2)) (k2 : hK h r = (1, 144)) (f0 : hF h a 0 = .ref r) (f1 : hF h a 1 = .int (nI n)) (k3 : hK h a2 = (12, 2)) (k4 : hK h r2 = (1, 144)) (f2 : hF h a2 0 = .ref r2) (f3 : hF h a2 1 = .int (nI n)) (hn : n ≤ 12) (ht : t < 8) (hu : u < 8) (hi : i < n) : ∀ (k j : Nat) (v6 v7 : Option Value), j + k = n → ∃ (w6 w7 : Option Value), zl E (d + 1) kX2_compareTurns 15 [some (.ref a), some (.int (nI t)), some (.ref a2), some (.int (nI u)), some (.int (nI i)), some (.int (nI j)), v6, v7] [] h = if lx (tn (hI h r) n t) (tn (hI h r2) n u) k (i * n + j) = 0 then zl E (d + 1) kX2_compareTurns 3 [some (.ref a), some (.int (nI t)), some (.ref a2), some (.int (nI u)), some (.int (nI (i + 1))), some (.int (nI n)), w6, w7] [] h else some (some (.int (lx (tn (hI h r) n t) (tn (hI h r2) n u) k (i * n + j))), h)
  | 0, j, v6, v7, e => by
    have : j = n := by omega
    subst this
    refine ⟨v6, v7, ?_⟩
    rw [s_X2_compareTurns_15]
    simp only [s_X2_compareTurns_0, s_X2_compareTurns_1, s_X2_compareTurns_5, s_X2_compareTurns_6, s_X2_compareTurns_9, s_X2_compareTurns_12, s_X2_compareTurns_13, s_X2_compareTurns_17, s_X2_compareTurns_18, s_X2_compareTurns_21, s_X2_compareTurns_24, s_X2_compareTurns_25, s_X2_compareTurns_26, s_X2_compareTurns_28, s_X2_compareTurns_30, s_X2_compareTurns_33, s_X2_compareTurns_35, s_X2_compareTurns_36, s_X2_compareTurns_37, s_X2_compareTurns_39, s_X2_compareTurns_41, s_X2_compareTurns_44, s_X2_compareTurns_46, s_X2_compareTurns_48, s_X2_compareTurns_50, s_X2_compareTurns_53, s_X2_compareTurns_55, s_X2_compareTurns_57, s_X2_compareTurns_60, s_X2_compareTurns_61, s_X2_compareTurns_64, s_X2_compareTurns_65, s_X2_compareTurns_66, s_X2_compareTurns_69, s_X2_compareTurns_72, s_X2_compareTurns_75, s_X2_compareTurns_78, s_X2_compareTurns_79, if_true, if_false, and_true, true_and, and_false, false_and, true_or, or_true, or_false, false_or, eq_self, not_true_eq_false, not_false_eq_true, zv_int, zv_ref, zv_null, zv_none, hK_sI, hF_sI, hJ_sI, hN_sI, hZ_sI, hI_sI_same, hK_sJ, hF_sJ, hI_sJ, hN_sJ, hZ_sJ, hJ_sJ_same, hK_sF, hI_sF, hJ_sF, hN_sF, hZ_sF, Option.bind_some, Option.toList_some, Option.toList_none, List.cons_append, List.nil_append, zq_ref, zq_null, k1, f1, Int32.le_refl, lx, nI_1]
  | k + 1, j, v6, v7, e => by
    have q1 : ¬ nI n ≤ nI j := nI_ge (by omega) (by omega)
    have hj : j < n := by omega
    have e1 := c_X2_afterTurn (E := E) (d := d) k1 k2 f0 f1 hn ht hi hj
    have e2 := c_X2_afterTurn (E := E) (d := d) k3 k4 f2 f3 hn hu hi hj
    rw [← tn_ij (f := hI h r) (t := t) (i := i) hj] at e1
    rw [← tn_ij (f := hI h r2) (t := u) (i := i) hj] at e2
    obtain ⟨w6, w7, ih⟩ := lp_cmp_in k1 k2 f0 f1 k3 k4 f2 f3 hn ht hu hi k (j + 1) (some (.int (tn (hI h r) n t (i * n + j)))) (some (.int (tn (hI h r2) n u (i * n + j)))) (by omega)
    refine ⟨w6, w7, ?_⟩
    rw [s_X2_compareTurns_15]
    unfold lx
    by_cases q : tn (hI h r) n t (i * n + j) = tn (hI h r2) n u (i * n + j)
    · rw [q] at e1 ih
      simp only [s_X2_compareTurns_0, s_X2_compareTurns_1, s_X2_compareTurns_5, s_X2_compareTurns_6, s_X2_compareTurns_9, s_X2_compareTurns_12, s_X2_compareTurns_13, s_X2_compareTurns_17, s_X2_compareTurns_18, s_X2_compareTurns_21, s_X2_compareTurns_24, s_X2_compareTurns_25, s_X2_compareTurns_26, s_X2_compareTurns_28, s_X2_compareTurns_30, s_X2_compareTurns_33, s_X2_compareTurns_35, s_X2_compareTurns_36, s_X2_compareTurns_37, s_X2_compareTurns_39, s_X2_compareTurns_41, s_X2_compareTurns_44, s_X2_compareTurns_46, s_X2_compareTurns_48, s_X2_compareTurns_50, s_X2_compareTurns_53, s_X2_compareTurns_55, s_X2_compareTurns_57, s_X2_compareTurns_60, s_X2_compareTurns_61, s_X2_compareTurns_64, s_X2_compareTurns_65, s_X2_compareTurns_66, s_X2_compareTurns_69, s_X2_compareTurns_72, s_X2_compareTurns_75, s_X2_compareTurns_78, s_X2_compareTurns_79, if_true, if_false, and_true, true_and, and_false, false_and, true_or, or_true, or_false, false_or, eq_self, not_true_eq_false, not_false_eq_true, zv_int, zv_ref, zv_null, zv_none, hK_sI, hF_sI, hJ_sI, hN_sI, hZ_sI, hI_sI_same, hK_sJ, hF_sJ, hI_sJ, hN_sJ, hZ_sJ, hJ_sJ_same, hK_sF, hI_sF, hJ_sF, hN_sF, hZ_sF, Option.bind_some, Option.toList_some, Option.toList_none, List.cons_append, List.nil_append, zq_ref, zq_null, k1, k3, f1, q1, e1, e2, q, nI_1]
      exact ih
    · by_cases q2 : tn (hI h r) n t (i * n + j) < tn (hI h r2) n u (i * n + j)
      · simp (decide := true) only [s_X2_compareTurns_0, s_X2_compareTurns_1, s_X2_compareTurns_5, s_X2_compareTurns_6, s_X2_compareTurns_9, s_X2_compareTurns_12, s_X2_compareTurns_13, s_X2_compareTurns_17, s_X2_compareTurns_18, s_X2_compareTurns_21, s_X2_compareTurns_24, s_X2_compareTurns_25, s_X2_compareTurns_26, s_X2_compareTurns_28, s_X2_compareTurns_30, s_X2_compareTurns_33, s_X2_compareTurns_35, s_X2_compareTurns_36, s_X2_compareTurns_37, s_X2_compareTurns_39, s_X2_compareTurns_41, s_X2_compareTurns_44, s_X2_compareTurns_46, s_X2_compareTurns_48, s_X2_compareTurns_50, s_X2_compareTurns_53, s_X2_compareTurns_55, s_X2_compareTurns_57, s_X2_compareTurns_60, s_X2_compareTurns_61, s_X2_compareTurns_64, s_X2_compareTurns_65, s_X2_compareTurns_66, s_X2_compareTurns_69, s_X2_compareTurns_72, s_X2_compareTurns_75, s_X2_compareTurns_78, s_X2_compareTurns_79, if_true, if_false, and_true, true_and, and_false, false_and, true_or, or_true, or_false, false_or, eq_self, not_true_eq_false, not_false_eq_true, zv_int, zv_ref, zv_null, zv_none, hK_sI, hF_sI, hJ_sI, hN_sI, hZ_sI, hI_sI_same, hK_sJ, hF_sJ, hI_sJ, hN_sJ, hZ_sJ, hJ_sJ_same, hK_sF, hI_sF, hJ_sF, hN_sF, hZ_sF, Option.bind_some, Option.toList_some, Option.toList_none, List.cons_append, List.nil_append, zq_ref, zq_null, k1, k3, f1, q1, e1, e2, q, q2, n32_le.mpr q2]
      · simp (decide := true) only [s_X2_compareTurns_0, s_X2_compareTurns_1, s_X2_compareTurns_5, s_X2_compareTurns_6, s_X2_compareTurns_9, s_X2_compareTurns_12, s_X2_compareTurns_13, s_X2_compareTurns_17, s_X2_compareTurns_18, s_X2_compareTurns_21, s_X2_compareTurns_24, s_X2_compareTurns_25, s_X2_compareTurns_26, s_X2_compareTurns_28, s_X2_compareTurns_30, s_X2_compareTurns_33, s_X2_compareTurns_35, s_X2_compareTurns_36, s_X2_compareTurns_37, s_X2_compareTurns_39, s_X2_compareTurns_41, s_X2_compareTurns_44, s_X2_compareTurns_46, s_X2_compareTurns_48, s_X2_compareTurns_50, s_X2_compareTurns_53, s_X2_compareTurns_55, s_X2_compareTurns_57, s_X2_compareTurns_60, s_X2_compareTurns_61, s_X2_compareTurns_64, s_X2_compareTurns_65, s_X2_compareTurns_66, s_X2_compareTurns_69, s_X2_compareTurns_72, s_X2_compareTurns_75, s_X2_compareTurns_78, s_X2_compareTurns_79, if_true, if_false, and_true, true_and, and_false, false_and, true_or, or_true, or_false, false_or, eq_self, not_true_eq_false, not_false_eq_true, zv_int, zv_ref, zv_null, zv_none, hK_sI, hF_sI, hJ_sI, hN_sI, hZ_sI, hI_sI_same, hK_sJ, hF_sJ, hI_sJ, hN_sJ, hZ_sJ, hJ_sJ_same, hK_sF, hI_sF, hJ_sF, hN_sF, hZ_sF, Option.bind_some, Option.toList_some, Option.toList_none, List.cons_append, List.nil_append, zq_ref, zq_null, k1, k3, f1, q1, e1, e2, q, q2, n32_lt.mp q2]
theorem lp_cmp {a r a2 r2 n t u : Nat} (k1 : hK h a = (12, 2)) (k2 : hK h r = (1, 144)) (f0 : hF h a 0 = .ref r) (f1 : hF h a 1 = .int (nI n)) (k3 : hK h a2 = (12, 2)) (k4 : hK h r2 = (1, 144)) (f2 : hF h a2 0 = .ref r2) (f3 : hF h a2 1 = .int (nI n)) (hn : n ≤ 12) (ht : t < 8) (hu : u < 8) : ∀ (k i : Nat) (v5 v6 v7 : Option Value), i + k = n → zl E (d + 1) kX2_compareTurns 3 [some (.ref a), some (.int (nI t)), some (.ref a2), some (.int (nI u)), some (.int (nI i)), v5, v6, v7] [] h = some (some (.int (lx (tn (hI h r) n t) (tn (hI h r2) n u) (k * n) (i * n))), h)
  | 0, i, v5, v6, v7, e => by
    have : i = n := by omega
    subst this
    rw [s_X2_compareTurns_3]
    simp only [s_X2_compareTurns_0, s_X2_compareTurns_1, s_X2_compareTurns_5, s_X2_compareTurns_6, s_X2_compareTurns_9, s_X2_compareTurns_12, s_X2_compareTurns_13, s_X2_compareTurns_17, s_X2_compareTurns_18, s_X2_compareTurns_21, s_X2_compareTurns_24, s_X2_compareTurns_25, s_X2_compareTurns_26, s_X2_compareTurns_28, s_X2_compareTurns_30, s_X2_compareTurns_33, s_X2_compareTurns_35, s_X2_compareTurns_36, s_X2_compareTurns_37, s_X2_compareTurns_39, s_X2_compareTurns_41, s_X2_compareTurns_44, s_X2_compareTurns_46, s_X2_compareTurns_48, s_X2_compareTurns_50, s_X2_compareTurns_53, s_X2_compareTurns_55, s_X2_compareTurns_57, s_X2_compareTurns_60, s_X2_compareTurns_61, s_X2_compareTurns_64, s_X2_compareTurns_65, s_X2_compareTurns_66, s_X2_compareTurns_69, s_X2_compareTurns_72, s_X2_compareTurns_75, s_X2_compareTurns_78, s_X2_compareTurns_79, if_true, if_false, and_true, true_and, and_false, false_and, true_or, or_true, or_false, false_or, eq_self, not_true_eq_false, not_false_eq_true, zv_int, zv_ref, zv_null, zv_none, hK_sI, hF_sI, hJ_sI, hN_sI, hZ_sI, hI_sI_same, hK_sJ, hF_sJ, hI_sJ, hN_sJ, hZ_sJ, hJ_sJ_same, hK_sF, hI_sF, hJ_sF, hN_sF, hZ_sF, Option.bind_some, Option.toList_some, Option.toList_none, List.cons_append, List.nil_append, zq_ref, zq_null, k1, f1, Int32.le_refl, lx, Nat.zero_mul]
  | k + 1, i, v5, v6, v7, e => by
    have q1 : ¬ nI n ≤ nI i := nI_ge (by omega) (by omega)
    obtain ⟨w6, w7, e1⟩ := lp_cmp_in (E := E) (d := d) k1 k2 f0 f1 k3 k4 f2 f3 hn ht hu (show i < n by omega) n 0 v6 v7 (by omega)
    have ih := lp_cmp k1 k2 f0 f1 k3 k4 f2 f3 hn ht hu k (i + 1) (some (.int (nI n))) w6 w7 (by omega)
    simp only [Nat.add_zero] at e1
    rw [s_X2_compareTurns_3]
    simp only [s_X2_compareTurns_0, s_X2_compareTurns_1, s_X2_compareTurns_5, s_X2_compareTurns_6, s_X2_compareTurns_9, s_X2_compareTurns_12, s_X2_compareTurns_13, s_X2_compareTurns_17, s_X2_compareTurns_18, s_X2_compareTurns_21, s_X2_compareTurns_24, s_X2_compareTurns_25, s_X2_compareTurns_26, s_X2_compareTurns_28, s_X2_compareTurns_30, s_X2_compareTurns_33, s_X2_compareTurns_35, s_X2_compareTurns_36, s_X2_compareTurns_37, s_X2_compareTurns_39, s_X2_compareTurns_41, s_X2_compareTurns_44, s_X2_compareTurns_46, s_X2_compareTurns_48, s_X2_compareTurns_50, s_X2_compareTurns_53, s_X2_compareTurns_55, s_X2_compareTurns_57, s_X2_compareTurns_60, s_X2_compareTurns_61, s_X2_compareTurns_64, s_X2_compareTurns_65, s_X2_compareTurns_66, s_X2_compareTurns_69, s_X2_compareTurns_72, s_X2_compareTurns_75, s_X2_compareTurns_78, s_X2_compareTurns_79, if_true, if_false, and_true, true_and, and_false, false_and, true_or, or_true, or_false, false_or, eq_self, not_true_eq_false, not_false_eq_true, zv_int, zv_ref, zv_null, zv_none, hK_sI, hF_sI, hJ_sI, hN_sI, hZ_sI, hI_sI_same, hK_sJ, hF_sJ, hI_sJ, hN_sJ, hZ_sJ, hJ_sJ_same, hK_sF, hI_sF, hJ_sF, hN_sF, hZ_sF, Option.bind_some, Option.toList_some, Option.toList_none, List.cons_append, List.nil_append, zq_ref, zq_null, k1, f1, q1]
    rw [show (0 : Int32) = nI 0 from rfl, e1]
    by_cases q : lx (tn (hI h r) n t) (tn (hI h r2) n u) n (i * n) = 0
    · rw [if_pos q, ih, show (k + 1) * n = n + k * n by rw [Nat.add_mul, Nat.one_mul, Nat.add_comm], lx_add _ _ n (k * n) (i * n) q, show (i + 1) * n = i * n + n by rw [Nat.add_mul, Nat.one_mul]]
    · rw [if_neg q, show (k + 1) * n = n + k * n by rw [Nat.add_mul, Nat.one_mul, Nat.add_comm], lx_sub _ _ n (k * n) (i * n) q]
/-- two turns compared -/
def lcm (f g : Nat → Int32) (n t u : Nat) : Int32 := lx (tn f n t) (tn g n u) (n * n) 0
theorem c_X2_compareTurns {a r a2 r2 n t u : Nat} (k1 : hK h a = (12, 2)) (k2 : hK h r = (1, 144)) (f0 : hF h a 0 = .ref r) (f1 : hF h a 1 = .int (nI n)) (k3 : hK h a2 = (12, 2)) (k4 : hK h r2 = (1, 144)) (f2 : hF h a2 0 = .ref r2) (f3 : hF h a2 1 = .int (nI n)) (hn : n ≤ 12) (ht : t < 8) (hu : u < 8) : cal E (d + 2) kX2_compareTurns [.ref a, .int (nI t), .ref a2, .int (nI u)] h = some (some (.int (lcm (hI h r) (hI h r2) n t u)), h) := by
  have := lp_cmp (E := E) (d := d) k1 k2 f0 f1 k3 k4 f2 f3 hn ht hu n 0 none none none (by omega)
  rw [Nat.zero_mul] at this
  simp only [e_X2_compareTurns, s_X2_compareTurns_0, s_X2_compareTurns_1, s_X2_compareTurns_5, s_X2_compareTurns_6, s_X2_compareTurns_9, s_X2_compareTurns_12, s_X2_compareTurns_13, s_X2_compareTurns_17, s_X2_compareTurns_18, s_X2_compareTurns_21, s_X2_compareTurns_24, s_X2_compareTurns_25, s_X2_compareTurns_26, s_X2_compareTurns_28, s_X2_compareTurns_30, s_X2_compareTurns_33, s_X2_compareTurns_35, s_X2_compareTurns_36, s_X2_compareTurns_37, s_X2_compareTurns_39, s_X2_compareTurns_41, s_X2_compareTurns_44, s_X2_compareTurns_46, s_X2_compareTurns_48, s_X2_compareTurns_50, s_X2_compareTurns_53, s_X2_compareTurns_55, s_X2_compareTurns_57, s_X2_compareTurns_60, s_X2_compareTurns_61, s_X2_compareTurns_64, s_X2_compareTurns_65, s_X2_compareTurns_66, s_X2_compareTurns_69, s_X2_compareTurns_72, s_X2_compareTurns_75, s_X2_compareTurns_78, s_X2_compareTurns_79, if_true, if_false, and_true, true_and, and_false, false_and, true_or, or_true, or_false, false_or, eq_self, not_true_eq_false, not_false_eq_true, zv_int, zv_ref, zv_null, zv_none, hK_sI, hF_sI, hJ_sI, hN_sI, hZ_sI, hI_sI_same, hK_sJ, hF_sJ, hI_sJ, hN_sJ, hZ_sJ, hJ_sJ_same, hK_sF, hI_sF, hJ_sF, hN_sF, hZ_sF, Option.bind_some, Option.toList_some, Option.toList_none, List.cons_append, List.nil_append, zq_ref, zq_null]
  exact this
/-- the least turn, tried from t on -/
def lsT (c : Nat → Nat → Int32) : Nat → Nat → Nat → Nat
  | 0, _, m => m
  | k + 1, t, m => lsT c k (t + 1) (if c t m < 0 then t else m)
theorem lp_leastTurn {a r n : Nat} (k1 : hK h a = (12, 2)) (k2 : hK h r = (1, 144)) (f0 : hF h a 0 = .ref r) (f1 : hF h a 1 = .int (nI n)) (hn : n ≤ 12) : ∀ (k t m : Nat), t + k = 8 → m < 8 → zl E (d + 2) kX2_leastTurn 4 [some (.ref a), some (.int (nI m)), some (.int (nI t))] [] h = some (some (.int (nI (lsT (lcm (hI h r) (hI h r) n) k t m))), h)
  | 0, t, m, e, hm => by
    have : t = 8 := by omega
    subst this
    rw [s_X2_leastTurn_4]
    simp (decide := true) only [s_X2_leastTurn_0, s_X2_leastTurn_1, s_X2_leastTurn_2, s_X2_leastTurn_3, s_X2_leastTurn_5, s_X2_leastTurn_7, s_X2_leastTurn_10, s_X2_leastTurn_11, s_X2_leastTurn_12, s_X2_leastTurn_13, s_X2_leastTurn_14, s_X2_leastTurn_17, s_X2_leastTurn_20, s_X2_leastTurn_21, s_X2_leastTurn_22, s_X2_leastTurn_25, s_X2_leastTurn_28, s_X2_leastTurn_29, if_true, if_false, and_true, true_and, and_false, false_and, true_or, or_true, or_false, false_or, eq_self, not_true_eq_false, not_false_eq_true, zv_int, zv_ref, zv_null, zv_none, hK_sI, hF_sI, hJ_sI, hN_sI, hZ_sI, hI_sI_same, hK_sJ, hF_sJ, hI_sJ, hN_sJ, hZ_sJ, hJ_sJ_same, hK_sF, hI_sF, hJ_sF, hN_sF, hZ_sF, Option.bind_some, Option.toList_some, Option.toList_none, List.cons_append, List.nil_append, zq_ref, zq_null, lsT]
  | k + 1, t, m, e, hm => by
    have q1 : ¬ 8 ≤ nI t := nI_ge (b := 8) (by omega) (by decide)
    have e1 := c_X2_compareTurns (E := E) (d := d) k1 k2 f0 f1 k1 k2 f0 f1 hn (show t < 8 by omega) hm
    rw [s_X2_leastTurn_4]
    unfold lsT
    by_cases q : lcm (hI h r) (hI h r) n t m < 0
    · simp only [s_X2_leastTurn_0, s_X2_leastTurn_1, s_X2_leastTurn_2, s_X2_leastTurn_3, s_X2_leastTurn_5, s_X2_leastTurn_7, s_X2_leastTurn_10, s_X2_leastTurn_11, s_X2_leastTurn_12, s_X2_leastTurn_13, s_X2_leastTurn_14, s_X2_leastTurn_17, s_X2_leastTurn_20, s_X2_leastTurn_21, s_X2_leastTurn_22, s_X2_leastTurn_25, s_X2_leastTurn_28, s_X2_leastTurn_29, if_true, if_false, and_true, true_and, and_false, false_and, true_or, or_true, or_false, false_or, eq_self, not_true_eq_false, not_false_eq_true, zv_int, zv_ref, zv_null, zv_none, hK_sI, hF_sI, hJ_sI, hN_sI, hZ_sI, hI_sI_same, hK_sJ, hF_sJ, hI_sJ, hN_sJ, hZ_sJ, hJ_sJ_same, hK_sF, hI_sF, hJ_sF, hN_sF, hZ_sF, Option.bind_some, Option.toList_some, Option.toList_none, List.cons_append, List.nil_append, zq_ref, zq_null, k1, q1, e1, n32_le.mpr q, nI_1, q]
      exact lp_leastTurn k1 k2 f0 f1 hn k (t + 1) t (by omega) (by omega)
    · simp only [s_X2_leastTurn_0, s_X2_leastTurn_1, s_X2_leastTurn_2, s_X2_leastTurn_3, s_X2_leastTurn_5, s_X2_leastTurn_7, s_X2_leastTurn_10, s_X2_leastTurn_11, s_X2_leastTurn_12, s_X2_leastTurn_13, s_X2_leastTurn_14, s_X2_leastTurn_17, s_X2_leastTurn_20, s_X2_leastTurn_21, s_X2_leastTurn_22, s_X2_leastTurn_25, s_X2_leastTurn_28, s_X2_leastTurn_29, if_true, if_false, and_true, true_and, and_false, false_and, true_or, or_true, or_false, false_or, eq_self, not_true_eq_false, not_false_eq_true, zv_int, zv_ref, zv_null, zv_none, hK_sI, hF_sI, hJ_sI, hN_sI, hZ_sI, hI_sI_same, hK_sJ, hF_sJ, hI_sJ, hN_sJ, hZ_sJ, hJ_sJ_same, hK_sF, hI_sF, hJ_sF, hN_sF, hZ_sF, Option.bind_some, Option.toList_some, Option.toList_none, List.cons_append, List.nil_append, zq_ref, zq_null, k1, q1, e1, n32_lt.mp q, nI_1, q]
      exact lp_leastTurn k1 k2 f0 f1 hn k (t + 1) m (by omega) hm
def fm (f : Nat → Int32) (n : Nat) : Nat := lsT (lcm f f n) 7 1 0
theorem c_X2_leastTurn {a r n : Nat} (k1 : hK h a = (12, 2)) (k2 : hK h r = (1, 144)) (f0 : hF h a 0 = .ref r) (f1 : hF h a 1 = .int (nI n)) (hn : n ≤ 12) : cal E (d + 3) kX2_leastTurn [.ref a] h = some (some (.int (nI (fm (hI h r) n))), h) := by
  have := lp_leastTurn (E := E) (d := d) k1 k2 f0 f1 hn 7 1 0 (by omega) (by omega)
  simp only [e_X2_leastTurn, s_X2_leastTurn_0, s_X2_leastTurn_1, s_X2_leastTurn_2, s_X2_leastTurn_3, s_X2_leastTurn_5, s_X2_leastTurn_7, s_X2_leastTurn_10, s_X2_leastTurn_11, s_X2_leastTurn_12, s_X2_leastTurn_13, s_X2_leastTurn_14, s_X2_leastTurn_17, s_X2_leastTurn_20, s_X2_leastTurn_21, s_X2_leastTurn_22, s_X2_leastTurn_25, s_X2_leastTurn_28, s_X2_leastTurn_29, if_true, if_false, and_true, true_and, and_false, false_and, true_or, or_true, or_false, false_or, eq_self, not_true_eq_false, not_false_eq_true, zv_int, zv_ref, zv_null, zv_none, hK_sI, hF_sI, hJ_sI, hN_sI, hZ_sI, hI_sI_same, hK_sJ, hF_sJ, hI_sJ, hN_sJ, hZ_sJ, hJ_sJ_same, hK_sF, hI_sF, hJ_sF, hN_sF, hZ_sF, Option.bind_some, Option.toList_some, Option.toList_none, List.cons_append, List.nil_append, zq_ref, zq_null]
  exact this
/-- some of k from i on -/
def an (p : Nat → Bool) : Nat → Nat → Bool
  | 0, _ => false
  | k + 1, i => p i || an p k (i + 1)
/-- how many of k from i on -/
def cn (p : Nat → Bool) : Nat → Nat → Nat
  | 0, _ => 0
  | k + 1, i => (bif p i then 1 else 0) + cn p k (i + 1)
def er (f : Nat → Int32) (n t u : Nat) : Bool := decide (lcm f f n t u = 0)
theorem lp_earlier {a r n t : Nat} (k1 : hK h a = (12, 2)) (k2 : hK h r = (1, 144)) (f0 : hF h a 0 = .ref r) (f1 : hF h a 1 = .int (nI n)) (hn : n ≤ 12) (ht : t < 8) : ∀ (k u : Nat), u + k = t → zl E (d + 2) kX2_comesEarlier 2 [some (.ref a), some (.int (nI t)), some (.int (nI u))] [] h = some (some (.int (if an (er (hI h r) n t) k u = true then 1 else 0)), h)
  | 0, u, e => by
    have : u = t := by omega
    subst this
    rw [s_X2_comesEarlier_2]
    simp (decide := true) only [s_X2_comesEarlier_0, s_X2_comesEarlier_1, s_X2_comesEarlier_3, s_X2_comesEarlier_4, s_X2_comesEarlier_7, s_X2_comesEarlier_8, s_X2_comesEarlier_9, s_X2_comesEarlier_10, s_X2_comesEarlier_11, s_X2_comesEarlier_14, s_X2_comesEarlier_17, s_X2_comesEarlier_18, s_X2_comesEarlier_19, s_X2_comesEarlier_22, s_X2_comesEarlier_25, s_X2_comesEarlier_26, if_true, if_false, and_true, true_and, and_false, false_and, true_or, or_true, or_false, false_or, eq_self, not_true_eq_false, not_false_eq_true, zv_int, zv_ref, zv_null, zv_none, hK_sI, hF_sI, hJ_sI, hN_sI, hZ_sI, hI_sI_same, hK_sJ, hF_sJ, hI_sJ, hN_sJ, hZ_sJ, hJ_sJ_same, hK_sF, hI_sF, hJ_sF, hN_sF, hZ_sF, Option.bind_some, Option.toList_some, Option.toList_none, List.cons_append, List.nil_append, zq_ref, zq_null, an, Int32.le_refl]
  | k + 1, u, e => by
    have q1 : ¬ nI t ≤ nI u := nI_ge (by omega) (by omega)
    have e1 := c_X2_compareTurns (E := E) (d := d) k1 k2 f0 f1 k1 k2 f0 f1 hn ht (show u < 8 by omega)
    have ih := lp_earlier k1 k2 f0 f1 hn ht k (u + 1) (by omega)
    rw [s_X2_comesEarlier_2]
    unfold an er
    by_cases q : lcm (hI h r) (hI h r) n t u = 0
    · simp only [s_X2_comesEarlier_0, s_X2_comesEarlier_1, s_X2_comesEarlier_3, s_X2_comesEarlier_4, s_X2_comesEarlier_7, s_X2_comesEarlier_8, s_X2_comesEarlier_9, s_X2_comesEarlier_10, s_X2_comesEarlier_11, s_X2_comesEarlier_14, s_X2_comesEarlier_17, s_X2_comesEarlier_18, s_X2_comesEarlier_19, s_X2_comesEarlier_22, s_X2_comesEarlier_25, s_X2_comesEarlier_26, if_true, if_false, and_true, true_and, and_false, false_and, true_or, or_true, or_false, false_or, eq_self, not_true_eq_false, not_false_eq_true, zv_int, zv_ref, zv_null, zv_none, hK_sI, hF_sI, hJ_sI, hN_sI, hZ_sI, hI_sI_same, hK_sJ, hF_sJ, hI_sJ, hN_sJ, hZ_sJ, hJ_sJ_same, hK_sF, hI_sF, hJ_sF, hN_sF, hZ_sF, Option.bind_some, Option.toList_some, Option.toList_none, List.cons_append, List.nil_append, zq_ref, zq_null, k1, q1, e1, q, decide_true, Bool.true_or]
    · simp only [s_X2_comesEarlier_0, s_X2_comesEarlier_1, s_X2_comesEarlier_3, s_X2_comesEarlier_4, s_X2_comesEarlier_7, s_X2_comesEarlier_8, s_X2_comesEarlier_9, s_X2_comesEarlier_10, s_X2_comesEarlier_11, s_X2_comesEarlier_14, s_X2_comesEarlier_17, s_X2_comesEarlier_18, s_X2_comesEarlier_19, s_X2_comesEarlier_22, s_X2_comesEarlier_25, s_X2_comesEarlier_26, if_true, if_false, and_true, true_and, and_false, false_and, true_or, or_true, or_false, false_or, eq_self, not_true_eq_false, not_false_eq_true, zv_int, zv_ref, zv_null, zv_none, hK_sI, hF_sI, hJ_sI, hN_sI, hZ_sI, hI_sI_same, hK_sJ, hF_sJ, hI_sJ, hN_sJ, hZ_sJ, hJ_sJ_same, hK_sF, hI_sF, hJ_sF, hN_sF, hZ_sF, Option.bind_some, Option.toList_some, Option.toList_none, List.cons_append, List.nil_append, zq_ref, zq_null, k1, q1, e1, q, decide_false, Bool.false_or, nI_1]
      exact ih
theorem c_X2_comesEarlier {a r n t : Nat} (k1 : hK h a = (12, 2)) (k2 : hK h r = (1, 144)) (f0 : hF h a 0 = .ref r) (f1 : hF h a 1 = .int (nI n)) (hn : n ≤ 12) (ht : t < 8) : cal E (d + 3) kX2_comesEarlier [.ref a, .int (nI t)] h = some (some (.int (if an (er (hI h r) n t) t 0 = true then 1 else 0)), h) := by
  have := lp_earlier (E := E) (d := d) k1 k2 f0 f1 hn ht t 0 (by omega)
  simp only [e_X2_comesEarlier, s_X2_comesEarlier_0, s_X2_comesEarlier_1, s_X2_comesEarlier_3, s_X2_comesEarlier_4, s_X2_comesEarlier_7, s_X2_comesEarlier_8, s_X2_comesEarlier_9, s_X2_comesEarlier_10, s_X2_comesEarlier_11, s_X2_comesEarlier_14, s_X2_comesEarlier_17, s_X2_comesEarlier_18, s_X2_comesEarlier_19, s_X2_comesEarlier_22, s_X2_comesEarlier_25, s_X2_comesEarlier_26, if_true, if_false, and_true, true_and, and_false, false_and, true_or, or_true, or_false, false_or, eq_self, not_true_eq_false, not_false_eq_true, zv_int, zv_ref, zv_null, zv_none, hK_sI, hF_sI, hJ_sI, hN_sI, hZ_sI, hI_sI_same, hK_sJ, hF_sJ, hI_sJ, hN_sJ, hZ_sJ, hJ_sJ_same, hK_sF, hI_sF, hJ_sF, hN_sF, hZ_sF, Option.bind_some, Option.toList_some, Option.toList_none, List.cons_append, List.nil_append, zq_ref, zq_null]
  exact this
def unp (f : Nat → Int32) (n t : Nat) : Bool := !an (er f n t) t 0
theorem lp_unlike {a r n : Nat} (k1 : hK h a = (12, 2)) (k2 : hK h r = (1, 144)) (f0 : hF h a 0 = .ref r) (f1 : hF h a 1 = .int (nI n)) (hn : n ≤ 12) : ∀ (k t c : Nat), t + k = 8 → zl E (d + 3) kX2_unlikeTurns 4 [some (.ref a), some (.int (nI c)), some (.int (nI t))] [] h = some (some (.int (nI (c + cn (unp (hI h r) n) k t))), h)
  | 0, t, c, e => by
    have : t = 8 := by omega
    subst this
    rw [s_X2_unlikeTurns_4]
    simp (decide := true) only [s_X2_unlikeTurns_0, s_X2_unlikeTurns_1, s_X2_unlikeTurns_2, s_X2_unlikeTurns_3, s_X2_unlikeTurns_5, s_X2_unlikeTurns_7, s_X2_unlikeTurns_10, s_X2_unlikeTurns_11, s_X2_unlikeTurns_12, s_X2_unlikeTurns_15, s_X2_unlikeTurns_18, s_X2_unlikeTurns_21, s_X2_unlikeTurns_24, s_X2_unlikeTurns_27, s_X2_unlikeTurns_28, if_true, if_false, and_true, true_and, and_false, false_and, true_or, or_true, or_false, false_or, eq_self, not_true_eq_false, not_false_eq_true, zv_int, zv_ref, zv_null, zv_none, hK_sI, hF_sI, hJ_sI, hN_sI, hZ_sI, hI_sI_same, hK_sJ, hF_sJ, hI_sJ, hN_sJ, hZ_sJ, hJ_sJ_same, hK_sF, hI_sF, hJ_sF, hN_sF, hZ_sF, Option.bind_some, Option.toList_some, Option.toList_none, List.cons_append, List.nil_append, zq_ref, zq_null, cn, Nat.add_zero]
  | k + 1, t, c, e => by
    have q1 : ¬ 8 ≤ nI t := nI_ge (b := 8) (by omega) (by decide)
    have e1 := c_X2_comesEarlier (E := E) (d := d) k1 k2 f0 f1 hn (show t < 8 by omega)
    rw [s_X2_unlikeTurns_4]
    unfold cn unp
    cases q : an (er (hI h r) n t) t 0 with
    | true =>
      rw [q] at e1
      simp (decide := true) only [s_X2_unlikeTurns_0, s_X2_unlikeTurns_1, s_X2_unlikeTurns_2, s_X2_unlikeTurns_3, s_X2_unlikeTurns_5, s_X2_unlikeTurns_7, s_X2_unlikeTurns_10, s_X2_unlikeTurns_11, s_X2_unlikeTurns_12, s_X2_unlikeTurns_15, s_X2_unlikeTurns_18, s_X2_unlikeTurns_21, s_X2_unlikeTurns_24, s_X2_unlikeTurns_27, s_X2_unlikeTurns_28, if_true, if_false, and_true, true_and, and_false, false_and, true_or, or_true, or_false, false_or, eq_self, not_true_eq_false, not_false_eq_true, zv_int, zv_ref, zv_null, zv_none, hK_sI, hF_sI, hJ_sI, hN_sI, hZ_sI, hI_sI_same, hK_sJ, hF_sJ, hI_sJ, hN_sJ, hZ_sJ, hJ_sJ_same, hK_sF, hI_sF, hJ_sF, hN_sF, hZ_sF, Option.bind_some, Option.toList_some, Option.toList_none, List.cons_append, List.nil_append, zq_ref, zq_null, k1, q1, e1, nI_1, Bool.not_true, cond_false, Nat.zero_add]
      exact lp_unlike k1 k2 f0 f1 hn k (t + 1) c (by omega)
    | false =>
      rw [q] at e1
      simp (decide := true) only [s_X2_unlikeTurns_0, s_X2_unlikeTurns_1, s_X2_unlikeTurns_2, s_X2_unlikeTurns_3, s_X2_unlikeTurns_5, s_X2_unlikeTurns_7, s_X2_unlikeTurns_10, s_X2_unlikeTurns_11, s_X2_unlikeTurns_12, s_X2_unlikeTurns_15, s_X2_unlikeTurns_18, s_X2_unlikeTurns_21, s_X2_unlikeTurns_24, s_X2_unlikeTurns_27, s_X2_unlikeTurns_28, if_true, if_false, and_true, true_and, and_false, false_and, true_or, or_true, or_false, false_or, eq_self, not_true_eq_false, not_false_eq_true, zv_int, zv_ref, zv_null, zv_none, hK_sI, hF_sI, hJ_sI, hN_sI, hZ_sI, hI_sI_same, hK_sJ, hF_sJ, hI_sJ, hN_sJ, hZ_sJ, hJ_sJ_same, hK_sF, hI_sF, hJ_sF, hN_sF, hZ_sF, Option.bind_some, Option.toList_some, Option.toList_none, List.cons_append, List.nil_append, zq_ref, zq_null, k1, q1, e1, nI_1, Bool.not_false, cond_true]
      rw [← Nat.add_assoc]
      exact lp_unlike k1 k2 f0 f1 hn k (t + 1) (c + 1) (by omega)
def unl (f : Nat → Int32) (n : Nat) : Nat := cn (unp f n) 8 0
theorem c_X2_unlikeTurns {a r n : Nat} (k1 : hK h a = (12, 2)) (k2 : hK h r = (1, 144)) (f0 : hF h a 0 = .ref r) (f1 : hF h a 1 = .int (nI n)) (hn : n ≤ 12) : cal E (d + 4) kX2_unlikeTurns [.ref a] h = some (some (.int (nI (unl (hI h r) n))), h) := by
  have := lp_unlike (E := E) (d := d) k1 k2 f0 f1 hn 8 0 0 (by omega)
  rw [Nat.zero_add] at this
  simp only [e_X2_unlikeTurns, s_X2_unlikeTurns_0, s_X2_unlikeTurns_1, s_X2_unlikeTurns_2, s_X2_unlikeTurns_3, s_X2_unlikeTurns_5, s_X2_unlikeTurns_7, s_X2_unlikeTurns_10, s_X2_unlikeTurns_11, s_X2_unlikeTurns_12, s_X2_unlikeTurns_15, s_X2_unlikeTurns_18, s_X2_unlikeTurns_21, s_X2_unlikeTurns_24, s_X2_unlikeTurns_27, s_X2_unlikeTurns_28, if_true, if_false, and_true, true_and, and_false, false_and, true_or, or_true, or_false, false_or, eq_self, not_true_eq_false, not_false_eq_true, zv_int, zv_ref, zv_null, zv_none, hK_sI, hF_sI, hJ_sI, hN_sI, hZ_sI, hI_sI_same, hK_sJ, hF_sJ, hI_sJ, hN_sJ, hZ_sJ, hJ_sJ_same, hK_sF, hI_sF, hJ_sF, hN_sF, hZ_sF, Option.bind_some, Option.toList_some, Option.toList_none, List.cons_append, List.nil_append, zq_ref, zq_null]
  exact this
end
