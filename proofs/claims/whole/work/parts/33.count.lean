/-! ===== counted, mixed ===== -/
section
variable {E : mE} {d : Nat} {h : mH} {b : Nat}
/-- the size of a sheet, as the class and the digest tell it -/
def zs (x : Option Nat) : Int32 := match x with
  | none => -1
  | some n => nI n
def zn (x : Option Nat) : Nat := match x with
  | none => 0
  | some n => n
/-- the sizes of the class's sheets -/
def sC (b : Nat) (h : mH) (z : Nat → Option Nat) : Prop := ∀ s, s < 4 → hF h (aS b s) 2 = .int (zs (z s)) ∧ zn (z s) ≤ 150
/-- the sizes of the reference's sheets -/
def sM (b : Nat) (h : mH) (z : Nat → Option Nat) : Prop := ∀ s, s < 4 → (hI h (b + 72) s = -1 ↔ z s = none) ∧ (∀ n, z s = some n → hI h (b + 73) s = nI n) ∧ zn (z s) ≤ 150
def qp (o : Nat → Nat) (q : Nat) : Bool := decide (¬ o q = 0)
def sp (z : Nat → Option Nat) (s : Nat) : Bool := (z s).isSome
theorem lp_sqT {o : Nat → Nat} (L : Lay b h) (ho : oC b h o) : ∀ k q c, q + k = 24 → zl E d kX3_squaresThere 4 [some (.ref b), some (.int (nI c)), some (.int (nI q))] [] h = some (some (.int (nI (c + cn (qp o) k q))), h)
  | 0, q, c, e => by
    have : q = 24 := by omega
    subst this
    rw [s_X3_squaresThere_4]
    simp (decide := true) only [s_X3_squaresThere_0, s_X3_squaresThere_1, s_X3_squaresThere_2, s_X3_squaresThere_3, s_X3_squaresThere_5, s_X3_squaresThere_7, s_X3_squaresThere_10, s_X3_squaresThere_11, s_X3_squaresThere_14, s_X3_squaresThere_15, s_X3_squaresThere_16, s_X3_squaresThere_19, s_X3_squaresThere_22, s_X3_squaresThere_25, s_X3_squaresThere_28, s_X3_squaresThere_31, s_X3_squaresThere_32, if_true, if_false, and_true, true_and, and_false, false_and, true_or, or_true, or_false, false_or, eq_self, not_true_eq_false, not_false_eq_true, zv_int, zv_ref, zv_null, zv_none, hK_sI, hF_sI, hJ_sI, hN_sI, hZ_sI, hI_sI_same, hK_sJ, hF_sJ, hI_sJ, hN_sJ, hZ_sJ, hJ_sJ_same, hK_sF, hI_sF, hJ_sF, hN_sF, hZ_sF, Option.bind_some, Option.toList_some, Option.toList_none, List.cons_append, List.nil_append, zq_ref, zq_null, cn, Nat.add_zero]
  | k + 1, q, c, e => by
    have hq : q < 24 := by omega
    have q1 : ¬ 24 ≤ nI q := nI_ge (b := 24) (by omega) (by decide)
    have z0 : zR (nI q) 24 := zR_to (by decide) hq
    have z1 : (nI q).toNatClampNeg = q := nI_clamp (by omega)
    have hoq := ho q hq
    rw [s_X3_squaresThere_4]
    unfold cn qp
    by_cases c0 : o q = 0
    · have c1 : nI (o q) ≤ 0 := by rw [c0]; decide
      simp (decide := true) only [s_X3_squaresThere_0, s_X3_squaresThere_1, s_X3_squaresThere_2, s_X3_squaresThere_3, s_X3_squaresThere_5, s_X3_squaresThere_7, s_X3_squaresThere_10, s_X3_squaresThere_11, s_X3_squaresThere_14, s_X3_squaresThere_15, s_X3_squaresThere_16, s_X3_squaresThere_19, s_X3_squaresThere_22, s_X3_squaresThere_25, s_X3_squaresThere_28, s_X3_squaresThere_31, s_X3_squaresThere_32, if_true, if_false, and_true, true_and, and_false, false_and, true_or, or_true, or_false, false_or, eq_self, not_true_eq_false, not_false_eq_true, zv_int, zv_ref, zv_null, zv_none, hK_sI, hF_sI, hJ_sI, hN_sI, hZ_sI, hI_sI_same, hK_sJ, hF_sJ, hI_sJ, hN_sJ, hZ_sJ, hJ_sJ_same, hK_sF, hI_sF, hJ_sF, hN_sF, hZ_sF, Option.bind_some, Option.toList_some, Option.toList_none, List.cons_append, List.nil_append, zq_ref, zq_null, L.k0, L.p0_1, L.k2, L.p2 hq, L.kQ hq, z0, z1, q1, hoq.1, c1, c0, decide_true, decide_false, cond_false, Nat.zero_add, nI_1]
      exact lp_sqT L ho k (q + 1) c (by omega)
    · have c1 : ¬ nI (o q) ≤ 0 := nI_ge (a := 0) (b := o q) (by omega) (by omega)
      simp (decide := true) only [s_X3_squaresThere_0, s_X3_squaresThere_1, s_X3_squaresThere_2, s_X3_squaresThere_3, s_X3_squaresThere_5, s_X3_squaresThere_7, s_X3_squaresThere_10, s_X3_squaresThere_11, s_X3_squaresThere_14, s_X3_squaresThere_15, s_X3_squaresThere_16, s_X3_squaresThere_19, s_X3_squaresThere_22, s_X3_squaresThere_25, s_X3_squaresThere_28, s_X3_squaresThere_31, s_X3_squaresThere_32, if_true, if_false, and_true, true_and, and_false, false_and, true_or, or_true, or_false, false_or, eq_self, not_true_eq_false, not_false_eq_true, zv_int, zv_ref, zv_null, zv_none, hK_sI, hF_sI, hJ_sI, hN_sI, hZ_sI, hI_sI_same, hK_sJ, hF_sJ, hI_sJ, hN_sJ, hZ_sJ, hJ_sJ_same, hK_sF, hI_sF, hJ_sF, hN_sF, hZ_sF, Option.bind_some, Option.toList_some, Option.toList_none, List.cons_append, List.nil_append, zq_ref, zq_null, L.k0, L.p0_1, L.k2, L.p2 hq, L.kQ hq, z0, z1, q1, hoq.1, c1, c0, decide_true, decide_false, cond_true, nI_1]
      rw [← Nat.add_assoc]
      exact lp_sqT L ho k (q + 1) (c + 1) (by omega)
theorem c_X3_squaresThere {o : Nat → Nat} (L : Lay b h) (ho : oC b h o) : cal E (d + 1) kX3_squaresThere [.ref b] h = some (some (.int (nI (cn (qp o) 24 0))), h) := by
  have := lp_sqT (E := E) (d := d) L ho 24 0 0 (by omega)
  rw [Nat.zero_add] at this
  simp only [e_X3_squaresThere, s_X3_squaresThere_0, s_X3_squaresThere_1, s_X3_squaresThere_2, s_X3_squaresThere_3, s_X3_squaresThere_5, s_X3_squaresThere_7, s_X3_squaresThere_10, s_X3_squaresThere_11, s_X3_squaresThere_14, s_X3_squaresThere_15, s_X3_squaresThere_16, s_X3_squaresThere_19, s_X3_squaresThere_22, s_X3_squaresThere_25, s_X3_squaresThere_28, s_X3_squaresThere_31, s_X3_squaresThere_32, if_true, if_false, and_true, true_and, and_false, false_and, true_or, or_true, or_false, false_or, eq_self, not_true_eq_false, not_false_eq_true, zv_int, zv_ref, zv_null, zv_none, hK_sI, hF_sI, hJ_sI, hN_sI, hZ_sI, hI_sI_same, hK_sJ, hF_sJ, hI_sJ, hN_sJ, hZ_sJ, hJ_sJ_same, hK_sF, hI_sF, hJ_sF, hN_sF, hZ_sF, Option.bind_some, Option.toList_some, Option.toList_none, List.cons_append, List.nil_append, zq_ref, zq_null]
  exact this
theorem zs_lt {x : Option Nat} (hx : zn x ≤ 150) : zs x < 0 ↔ x = none := by
  cases x with
  | none => exact ⟨fun _ => rfl, fun _ => by decide⟩
  | some n =>
    have : ¬ nI n < 0 := nI_nlt (b := 0) (by omega) (by have : n ≤ 150 := hx; omega)
    exact ⟨fun q => absurd q this, fun q => by cases q⟩
theorem lp_shT {z : Nat → Option Nat} (L : Lay b h) (hz : sC b h z) : ∀ k q c, q + k = 4 → zl E (d + 1) kX3_sheetsThere 4 [some (.ref b), some (.int (nI c)), some (.int (nI q))] [] h = some (some (.int (nI (c + cn (sp z) k q))), h)
  | 0, q, c, e => by
    have : q = 4 := by omega
    subst this
    rw [s_X3_sheetsThere_4]
    simp (decide := true) only [s_X3_sheetsThere_0, s_X3_sheetsThere_1, s_X3_sheetsThere_2, s_X3_sheetsThere_3, s_X3_sheetsThere_5, s_X3_sheetsThere_6, s_X3_sheetsThere_9, s_X3_sheetsThere_10, s_X3_sheetsThere_13, s_X3_sheetsThere_14, s_X3_sheetsThere_15, s_X3_sheetsThere_18, s_X3_sheetsThere_21, s_X3_sheetsThere_24, s_X3_sheetsThere_27, s_X3_sheetsThere_30, s_X3_sheetsThere_31, if_true, if_false, and_true, true_and, and_false, false_and, true_or, or_true, or_false, false_or, eq_self, not_true_eq_false, not_false_eq_true, zv_int, zv_ref, zv_null, zv_none, hK_sI, hF_sI, hJ_sI, hN_sI, hZ_sI, hI_sI_same, hK_sJ, hF_sJ, hI_sJ, hN_sJ, hZ_sJ, hJ_sJ_same, hK_sF, hI_sF, hJ_sF, hN_sF, hZ_sF, Option.bind_some, Option.toList_some, Option.toList_none, List.cons_append, List.nil_append, zq_ref, zq_null, cn, Nat.add_zero]
  | k + 1, q, c, e => by
    have hq : q < 4 := by omega
    have q1 : ¬ 4 ≤ nI q := nI_ge (b := 4) (by omega) (by decide)
    have z0 : zR (nI q) 4 := zR_to (by decide) hq
    have z1 : (nI q).toNatClampNeg = q := nI_clamp (by omega)
    have hoq := hz q hq
    have e1 := c_X1_isMissing (E := E) (d := d) (L.kS hq) hoq.1
    rw [s_X3_sheetsThere_4]
    unfold cn sp
    cases c0 : z q with
    | none =>
      simp only [c0, zs_lt (x := none) (by decide)] at e1
      simp (decide := true) only [s_X3_sheetsThere_0, s_X3_sheetsThere_1, s_X3_sheetsThere_2, s_X3_sheetsThere_3, s_X3_sheetsThere_5, s_X3_sheetsThere_6, s_X3_sheetsThere_9, s_X3_sheetsThere_10, s_X3_sheetsThere_13, s_X3_sheetsThere_14, s_X3_sheetsThere_15, s_X3_sheetsThere_18, s_X3_sheetsThere_21, s_X3_sheetsThere_24, s_X3_sheetsThere_27, s_X3_sheetsThere_30, s_X3_sheetsThere_31, if_true, if_false, and_true, true_and, and_false, false_and, true_or, or_true, or_false, false_or, eq_self, not_true_eq_false, not_false_eq_true, zv_int, zv_ref, zv_null, zv_none, hK_sI, hF_sI, hJ_sI, hN_sI, hZ_sI, hI_sI_same, hK_sJ, hF_sJ, hI_sJ, hN_sJ, hZ_sJ, hJ_sJ_same, hK_sF, hI_sF, hJ_sF, hN_sF, hZ_sF, Option.bind_some, Option.toList_some, Option.toList_none, List.cons_append, List.nil_append, zq_ref, zq_null, L.k0, L.p0_0, L.k1, L.p1 hq, L.kS hq, z0, z1, q1, e1, Option.isSome_none, cond_false, Nat.zero_add, nI_1]
      exact lp_shT L hz k (q + 1) c (by omega)
    | some n =>
      have e3 : ¬ zs (some n) < 0 := fun x => by have := (zs_lt (by rw [← c0]; exact hoq.2)).1 x; cases this
      simp only [c0, e3] at e1
      simp (decide := true) only [s_X3_sheetsThere_0, s_X3_sheetsThere_1, s_X3_sheetsThere_2, s_X3_sheetsThere_3, s_X3_sheetsThere_5, s_X3_sheetsThere_6, s_X3_sheetsThere_9, s_X3_sheetsThere_10, s_X3_sheetsThere_13, s_X3_sheetsThere_14, s_X3_sheetsThere_15, s_X3_sheetsThere_18, s_X3_sheetsThere_21, s_X3_sheetsThere_24, s_X3_sheetsThere_27, s_X3_sheetsThere_30, s_X3_sheetsThere_31, if_true, if_false, and_true, true_and, and_false, false_and, true_or, or_true, or_false, false_or, eq_self, not_true_eq_false, not_false_eq_true, zv_int, zv_ref, zv_null, zv_none, hK_sI, hF_sI, hJ_sI, hN_sI, hZ_sI, hI_sI_same, hK_sJ, hF_sJ, hI_sJ, hN_sJ, hZ_sJ, hJ_sJ_same, hK_sF, hI_sF, hJ_sF, hN_sF, hZ_sF, Option.bind_some, Option.toList_some, Option.toList_none, List.cons_append, List.nil_append, zq_ref, zq_null, L.k0, L.p0_0, L.k1, L.p1 hq, L.kS hq, z0, z1, q1, e1, Option.isSome_some, cond_true, nI_1]
      rw [← Nat.add_assoc]
      exact lp_shT L hz k (q + 1) (c + 1) (by omega)
theorem c_X3_sheetsThere {z : Nat → Option Nat} (L : Lay b h) (hz : sC b h z) : cal E (d + 2) kX3_sheetsThere [.ref b] h = some (some (.int (nI (cn (sp z) 4 0))), h) := by
  have := lp_shT (E := E) (d := d) L hz 4 0 0 (by omega)
  rw [Nat.zero_add] at this
  simp only [e_X3_sheetsThere, s_X3_sheetsThere_0, s_X3_sheetsThere_1, s_X3_sheetsThere_2, s_X3_sheetsThere_3, s_X3_sheetsThere_5, s_X3_sheetsThere_6, s_X3_sheetsThere_9, s_X3_sheetsThere_10, s_X3_sheetsThere_13, s_X3_sheetsThere_14, s_X3_sheetsThere_15, s_X3_sheetsThere_18, s_X3_sheetsThere_21, s_X3_sheetsThere_24, s_X3_sheetsThere_27, s_X3_sheetsThere_30, s_X3_sheetsThere_31, if_true, if_false, and_true, true_and, and_false, false_and, true_or, or_true, or_false, false_or, eq_self, not_true_eq_false, not_false_eq_true, zv_int, zv_ref, zv_null, zv_none, hK_sI, hF_sI, hJ_sI, hN_sI, hZ_sI, hI_sI_same, hK_sJ, hF_sJ, hI_sJ, hN_sJ, hZ_sJ, hJ_sJ_same, hK_sF, hI_sF, hJ_sF, hN_sF, hZ_sF, Option.bind_some, Option.toList_some, Option.toList_none, List.cons_append, List.nil_append, zq_ref, zq_null]
  exact this
-- the reference counts
theorem lp_mc0 {o : Nat → Nat} (L : Lay b h) (ho : oM b h o) : ∀ k q c, q + k = 24 → zl E d kX4_count 8 [some (.ref (b + 70)), some (.int 0), some (.int (nI c)), some (.int (nI q))] [] h = some (some (.int (nI (c + cn (qp o) k q))), h)
  | 0, q, c, e => by
    have : q = 24 := by omega
    subst this
    rw [s_X4_count_8]
    simp (decide := true) only [s_X4_count_0, s_X4_count_1, s_X4_count_2, s_X4_count_3, s_X4_count_6, s_X4_count_7, s_X4_count_9, s_X4_count_11, s_X4_count_14, s_X4_count_15, s_X4_count_16, s_X4_count_19, s_X4_count_20, s_X4_count_21, s_X4_count_24, s_X4_count_25, s_X4_count_28, s_X4_count_29, s_X4_count_30, s_X4_count_31, s_X4_count_34, s_X4_count_37, s_X4_count_38, s_X4_count_39, s_X4_count_40, s_X4_count_41, s_X4_count_44, s_X4_count_45, s_X4_count_47, s_X4_count_48, s_X4_count_51, s_X4_count_52, s_X4_count_53, s_X4_count_56, s_X4_count_57, s_X4_count_58, s_X4_count_59, s_X4_count_62, s_X4_count_63, s_X4_count_66, s_X4_count_67, s_X4_count_68, s_X4_count_69, s_X4_count_72, s_X4_count_75, s_X4_count_76, s_X4_count_77, s_X4_count_78, s_X4_count_79, s_X4_count_82, s_X4_count_83, s_X4_count_86, s_X4_count_89, s_X4_count_91, if_true, if_false, and_true, true_and, and_false, false_and, true_or, or_true, or_false, false_or, eq_self, not_true_eq_false, not_false_eq_true, zv_int, zv_ref, zv_null, zv_none, hK_sI, hF_sI, hJ_sI, hN_sI, hZ_sI, hI_sI_same, hK_sJ, hF_sJ, hI_sJ, hN_sJ, hZ_sJ, hJ_sJ_same, hK_sF, hI_sF, hJ_sF, hN_sF, hZ_sF, Option.bind_some, Option.toList_some, Option.toList_none, List.cons_append, List.nil_append, zq_ref, zq_null, cn, Nat.add_zero]
  | k + 1, q, c, e => by
    have hq : q < 24 := by omega
    have q1 : ¬ 24 ≤ nI q := nI_ge (b := 24) (by omega) (by decide)
    have z0 : zR (nI q) 24 := zR_to (by decide) hq
    have z1 : (nI q).toNatClampNeg = q := nI_clamp (by omega)
    have hoq := ho q hq
    rw [s_X4_count_8]
    unfold cn qp
    by_cases c0 : o q = 0
    · have c1 : nI (o q) ≤ 0 := by rw [c0]; decide
      simp (decide := true) only [s_X4_count_0, s_X4_count_1, s_X4_count_2, s_X4_count_3, s_X4_count_6, s_X4_count_7, s_X4_count_9, s_X4_count_11, s_X4_count_14, s_X4_count_15, s_X4_count_16, s_X4_count_19, s_X4_count_20, s_X4_count_21, s_X4_count_24, s_X4_count_25, s_X4_count_28, s_X4_count_29, s_X4_count_30, s_X4_count_31, s_X4_count_34, s_X4_count_37, s_X4_count_38, s_X4_count_39, s_X4_count_40, s_X4_count_41, s_X4_count_44, s_X4_count_45, s_X4_count_47, s_X4_count_48, s_X4_count_51, s_X4_count_52, s_X4_count_53, s_X4_count_56, s_X4_count_57, s_X4_count_58, s_X4_count_59, s_X4_count_62, s_X4_count_63, s_X4_count_66, s_X4_count_67, s_X4_count_68, s_X4_count_69, s_X4_count_72, s_X4_count_75, s_X4_count_76, s_X4_count_77, s_X4_count_78, s_X4_count_79, s_X4_count_82, s_X4_count_83, s_X4_count_86, s_X4_count_89, s_X4_count_91, if_true, if_false, and_true, true_and, and_false, false_and, true_or, or_true, or_false, false_or, eq_self, not_true_eq_false, not_false_eq_true, zv_int, zv_ref, zv_null, zv_none, hK_sI, hF_sI, hJ_sI, hN_sI, hZ_sI, hI_sI_same, hK_sJ, hF_sJ, hI_sJ, hN_sJ, hZ_sJ, hJ_sJ_same, hK_sF, hI_sF, hJ_sF, hN_sF, hZ_sF, Option.bind_some, Option.toList_some, Option.toList_none, List.cons_append, List.nil_append, zq_ref, zq_null, L.k70, L.p70_6, L.k76, z0, z1, q1, hoq.1, c1, c0, decide_true, decide_false, cond_false, Nat.zero_add, nI_1, Int32.add_zero]
      exact lp_mc0 L ho k (q + 1) c (by omega)
    · have c1 : ¬ nI (o q) ≤ 0 := nI_ge (a := 0) (b := o q) (by omega) (by omega)
      simp (decide := true) only [s_X4_count_0, s_X4_count_1, s_X4_count_2, s_X4_count_3, s_X4_count_6, s_X4_count_7, s_X4_count_9, s_X4_count_11, s_X4_count_14, s_X4_count_15, s_X4_count_16, s_X4_count_19, s_X4_count_20, s_X4_count_21, s_X4_count_24, s_X4_count_25, s_X4_count_28, s_X4_count_29, s_X4_count_30, s_X4_count_31, s_X4_count_34, s_X4_count_37, s_X4_count_38, s_X4_count_39, s_X4_count_40, s_X4_count_41, s_X4_count_44, s_X4_count_45, s_X4_count_47, s_X4_count_48, s_X4_count_51, s_X4_count_52, s_X4_count_53, s_X4_count_56, s_X4_count_57, s_X4_count_58, s_X4_count_59, s_X4_count_62, s_X4_count_63, s_X4_count_66, s_X4_count_67, s_X4_count_68, s_X4_count_69, s_X4_count_72, s_X4_count_75, s_X4_count_76, s_X4_count_77, s_X4_count_78, s_X4_count_79, s_X4_count_82, s_X4_count_83, s_X4_count_86, s_X4_count_89, s_X4_count_91, if_true, if_false, and_true, true_and, and_false, false_and, true_or, or_true, or_false, false_or, eq_self, not_true_eq_false, not_false_eq_true, zv_int, zv_ref, zv_null, zv_none, hK_sI, hF_sI, hJ_sI, hN_sI, hZ_sI, hI_sI_same, hK_sJ, hF_sJ, hI_sJ, hN_sJ, hZ_sJ, hJ_sJ_same, hK_sF, hI_sF, hJ_sF, hN_sF, hZ_sF, Option.bind_some, Option.toList_some, Option.toList_none, List.cons_append, List.nil_append, zq_ref, zq_null, L.k70, L.p70_6, L.k76, z0, z1, q1, hoq.1, c1, c0, decide_true, decide_false, cond_true, nI_1]
      rw [← Nat.add_assoc]
      exact lp_mc0 L ho k (q + 1) (c + 1) (by omega)
theorem lp_mc1 {z : Nat → Option Nat} (L : Lay b h) (hz : sM b h z) : ∀ k q c, q + k = 4 → zl E d kX4_count 46 [some (.ref (b + 70)), some (.int 1), some (.int (nI c)), some (.int (nI q))] [] h = some (some (.int (nI (c + cn (sp z) k q))), h)
  | 0, q, c, e => by
    have : q = 4 := by omega
    subst this
    rw [s_X4_count_46]
    simp (decide := true) only [s_X4_count_0, s_X4_count_1, s_X4_count_2, s_X4_count_3, s_X4_count_6, s_X4_count_7, s_X4_count_9, s_X4_count_11, s_X4_count_14, s_X4_count_15, s_X4_count_16, s_X4_count_19, s_X4_count_20, s_X4_count_21, s_X4_count_24, s_X4_count_25, s_X4_count_28, s_X4_count_29, s_X4_count_30, s_X4_count_31, s_X4_count_34, s_X4_count_37, s_X4_count_38, s_X4_count_39, s_X4_count_40, s_X4_count_41, s_X4_count_44, s_X4_count_45, s_X4_count_47, s_X4_count_48, s_X4_count_51, s_X4_count_52, s_X4_count_53, s_X4_count_56, s_X4_count_57, s_X4_count_58, s_X4_count_59, s_X4_count_62, s_X4_count_63, s_X4_count_66, s_X4_count_67, s_X4_count_68, s_X4_count_69, s_X4_count_72, s_X4_count_75, s_X4_count_76, s_X4_count_77, s_X4_count_78, s_X4_count_79, s_X4_count_82, s_X4_count_83, s_X4_count_86, s_X4_count_89, s_X4_count_91, if_true, if_false, and_true, true_and, and_false, false_and, true_or, or_true, or_false, false_or, eq_self, not_true_eq_false, not_false_eq_true, zv_int, zv_ref, zv_null, zv_none, hK_sI, hF_sI, hJ_sI, hN_sI, hZ_sI, hI_sI_same, hK_sJ, hF_sJ, hI_sJ, hN_sJ, hZ_sJ, hJ_sJ_same, hK_sF, hI_sF, hJ_sF, hN_sF, hZ_sF, Option.bind_some, Option.toList_some, Option.toList_none, List.cons_append, List.nil_append, zq_ref, zq_null, cn, Nat.add_zero]
  | k + 1, q, c, e => by
    have hq : q < 4 := by omega
    have q1 : ¬ 4 ≤ nI q := nI_ge (b := 4) (by omega) (by decide)
    have z0 : zR (nI q) 4 := zR_to (by decide) hq
    have z1 : (nI q).toNatClampNeg = q := nI_clamp (by omega)
    have hoq := hz q hq
    rw [s_X4_count_46]
    unfold cn sp
    cases c0 : z q with
    | none =>
      have c1 := hoq.1.2 c0
      simp (decide := true) only [s_X4_count_0, s_X4_count_1, s_X4_count_2, s_X4_count_3, s_X4_count_6, s_X4_count_7, s_X4_count_9, s_X4_count_11, s_X4_count_14, s_X4_count_15, s_X4_count_16, s_X4_count_19, s_X4_count_20, s_X4_count_21, s_X4_count_24, s_X4_count_25, s_X4_count_28, s_X4_count_29, s_X4_count_30, s_X4_count_31, s_X4_count_34, s_X4_count_37, s_X4_count_38, s_X4_count_39, s_X4_count_40, s_X4_count_41, s_X4_count_44, s_X4_count_45, s_X4_count_47, s_X4_count_48, s_X4_count_51, s_X4_count_52, s_X4_count_53, s_X4_count_56, s_X4_count_57, s_X4_count_58, s_X4_count_59, s_X4_count_62, s_X4_count_63, s_X4_count_66, s_X4_count_67, s_X4_count_68, s_X4_count_69, s_X4_count_72, s_X4_count_75, s_X4_count_76, s_X4_count_77, s_X4_count_78, s_X4_count_79, s_X4_count_82, s_X4_count_83, s_X4_count_86, s_X4_count_89, s_X4_count_91, if_true, if_false, and_true, true_and, and_false, false_and, true_or, or_true, or_false, false_or, eq_self, not_true_eq_false, not_false_eq_true, zv_int, zv_ref, zv_null, zv_none, hK_sI, hF_sI, hJ_sI, hN_sI, hZ_sI, hI_sI_same, hK_sJ, hF_sJ, hI_sJ, hN_sJ, hZ_sJ, hJ_sJ_same, hK_sF, hI_sF, hJ_sF, hN_sF, hZ_sF, Option.bind_some, Option.toList_some, Option.toList_none, List.cons_append, List.nil_append, zq_ref, zq_null, L.k70, L.p70_2, L.k72, z0, z1, q1, c1, Option.isSome_none, cond_false, Nat.zero_add, nI_1, Int32.add_zero]
      exact lp_mc1 L hz k (q + 1) c (by omega)
    | some n =>
      have c1 : ¬ hI h (b + 72) q = -1 := fun x => by have := hoq.1.1 x; rw [c0] at this; cases this
      simp (decide := true) only [s_X4_count_0, s_X4_count_1, s_X4_count_2, s_X4_count_3, s_X4_count_6, s_X4_count_7, s_X4_count_9, s_X4_count_11, s_X4_count_14, s_X4_count_15, s_X4_count_16, s_X4_count_19, s_X4_count_20, s_X4_count_21, s_X4_count_24, s_X4_count_25, s_X4_count_28, s_X4_count_29, s_X4_count_30, s_X4_count_31, s_X4_count_34, s_X4_count_37, s_X4_count_38, s_X4_count_39, s_X4_count_40, s_X4_count_41, s_X4_count_44, s_X4_count_45, s_X4_count_47, s_X4_count_48, s_X4_count_51, s_X4_count_52, s_X4_count_53, s_X4_count_56, s_X4_count_57, s_X4_count_58, s_X4_count_59, s_X4_count_62, s_X4_count_63, s_X4_count_66, s_X4_count_67, s_X4_count_68, s_X4_count_69, s_X4_count_72, s_X4_count_75, s_X4_count_76, s_X4_count_77, s_X4_count_78, s_X4_count_79, s_X4_count_82, s_X4_count_83, s_X4_count_86, s_X4_count_89, s_X4_count_91, if_true, if_false, and_true, true_and, and_false, false_and, true_or, or_true, or_false, false_or, eq_self, not_true_eq_false, not_false_eq_true, zv_int, zv_ref, zv_null, zv_none, hK_sI, hF_sI, hJ_sI, hN_sI, hZ_sI, hI_sI_same, hK_sJ, hF_sJ, hI_sJ, hN_sJ, hZ_sJ, hJ_sJ_same, hK_sF, hI_sF, hJ_sF, hN_sF, hZ_sF, Option.bind_some, Option.toList_some, Option.toList_none, List.cons_append, List.nil_append, zq_ref, zq_null, L.k70, L.p70_2, L.k72, z0, z1, q1, c1, Option.isSome_some, cond_true, nI_1]
      rw [← Nat.add_assoc]
      exact lp_mc1 L hz k (q + 1) (c + 1) (by omega)
theorem c_X4_count {x g : Int32} {o : Nat → Nat} {z : Nat → Option Nat} (L : Lay b h) (ho : oM b h o) (hz : sM b h z) (hg : hF h (b + 70) 13 = .int g) : cal E (d + 1) kX4_count [.ref (b + 70), .int x] h = some (some (.int (if x = 0 then nI (cn (qp o) 24 0) else if x = 1 then nI (cn (sp z) 4 0) else if x = 2 then g else -102)), h) := by
  have e1 := lp_mc0 (E := E) (d := d) L ho 24 0 0 (by omega)
  have e2 := lp_mc1 (E := E) (d := d) L hz 4 0 0 (by omega)
  rw [Nat.zero_add] at e1 e2
  rw [nI_0] at e1 e2
  by_cases c0 : x = 0
  · subst c0
    simp only [e_X4_count, s_X4_count_0, s_X4_count_1, s_X4_count_2, s_X4_count_3, s_X4_count_6, s_X4_count_7, s_X4_count_9, s_X4_count_11, s_X4_count_14, s_X4_count_15, s_X4_count_16, s_X4_count_19, s_X4_count_20, s_X4_count_21, s_X4_count_24, s_X4_count_25, s_X4_count_28, s_X4_count_29, s_X4_count_30, s_X4_count_31, s_X4_count_34, s_X4_count_37, s_X4_count_38, s_X4_count_39, s_X4_count_40, s_X4_count_41, s_X4_count_44, s_X4_count_45, s_X4_count_47, s_X4_count_48, s_X4_count_51, s_X4_count_52, s_X4_count_53, s_X4_count_56, s_X4_count_57, s_X4_count_58, s_X4_count_59, s_X4_count_62, s_X4_count_63, s_X4_count_66, s_X4_count_67, s_X4_count_68, s_X4_count_69, s_X4_count_72, s_X4_count_75, s_X4_count_76, s_X4_count_77, s_X4_count_78, s_X4_count_79, s_X4_count_82, s_X4_count_83, s_X4_count_86, s_X4_count_89, s_X4_count_91, if_true, if_false, and_true, true_and, and_false, false_and, true_or, or_true, or_false, false_or, eq_self, not_true_eq_false, not_false_eq_true, zv_int, zv_ref, zv_null, zv_none, hK_sI, hF_sI, hJ_sI, hN_sI, hZ_sI, hI_sI_same, hK_sJ, hF_sJ, hI_sJ, hN_sJ, hZ_sJ, hJ_sJ_same, hK_sF, hI_sF, hJ_sF, hN_sF, hZ_sF, Option.bind_some, Option.toList_some, Option.toList_none, List.cons_append, List.nil_append, zq_ref, zq_null]
    exact e1
  · by_cases c1 : x = 1
    · subst c1
      simp (decide := true) only [e_X4_count, s_X4_count_0, s_X4_count_1, s_X4_count_2, s_X4_count_3, s_X4_count_6, s_X4_count_7, s_X4_count_9, s_X4_count_11, s_X4_count_14, s_X4_count_15, s_X4_count_16, s_X4_count_19, s_X4_count_20, s_X4_count_21, s_X4_count_24, s_X4_count_25, s_X4_count_28, s_X4_count_29, s_X4_count_30, s_X4_count_31, s_X4_count_34, s_X4_count_37, s_X4_count_38, s_X4_count_39, s_X4_count_40, s_X4_count_41, s_X4_count_44, s_X4_count_45, s_X4_count_47, s_X4_count_48, s_X4_count_51, s_X4_count_52, s_X4_count_53, s_X4_count_56, s_X4_count_57, s_X4_count_58, s_X4_count_59, s_X4_count_62, s_X4_count_63, s_X4_count_66, s_X4_count_67, s_X4_count_68, s_X4_count_69, s_X4_count_72, s_X4_count_75, s_X4_count_76, s_X4_count_77, s_X4_count_78, s_X4_count_79, s_X4_count_82, s_X4_count_83, s_X4_count_86, s_X4_count_89, s_X4_count_91, if_true, if_false, and_true, true_and, and_false, false_and, true_or, or_true, or_false, false_or, eq_self, not_true_eq_false, not_false_eq_true, zv_int, zv_ref, zv_null, zv_none, hK_sI, hF_sI, hJ_sI, hN_sI, hZ_sI, hI_sI_same, hK_sJ, hF_sJ, hI_sJ, hN_sJ, hZ_sJ, hJ_sJ_same, hK_sF, hI_sF, hJ_sF, hN_sF, hZ_sF, Option.bind_some, Option.toList_some, Option.toList_none, List.cons_append, List.nil_append, zq_ref, zq_null]
      exact e2
    · by_cases c2 : x = 2
      · subst c2
        simp (decide := true) only [e_X4_count, s_X4_count_0, s_X4_count_1, s_X4_count_2, s_X4_count_3, s_X4_count_6, s_X4_count_7, s_X4_count_9, s_X4_count_11, s_X4_count_14, s_X4_count_15, s_X4_count_16, s_X4_count_19, s_X4_count_20, s_X4_count_21, s_X4_count_24, s_X4_count_25, s_X4_count_28, s_X4_count_29, s_X4_count_30, s_X4_count_31, s_X4_count_34, s_X4_count_37, s_X4_count_38, s_X4_count_39, s_X4_count_40, s_X4_count_41, s_X4_count_44, s_X4_count_45, s_X4_count_47, s_X4_count_48, s_X4_count_51, s_X4_count_52, s_X4_count_53, s_X4_count_56, s_X4_count_57, s_X4_count_58, s_X4_count_59, s_X4_count_62, s_X4_count_63, s_X4_count_66, s_X4_count_67, s_X4_count_68, s_X4_count_69, s_X4_count_72, s_X4_count_75, s_X4_count_76, s_X4_count_77, s_X4_count_78, s_X4_count_79, s_X4_count_82, s_X4_count_83, s_X4_count_86, s_X4_count_89, s_X4_count_91, if_true, if_false, and_true, true_and, and_false, false_and, true_or, or_true, or_false, false_or, eq_self, not_true_eq_false, not_false_eq_true, zv_int, zv_ref, zv_null, zv_none, hK_sI, hF_sI, hJ_sI, hN_sI, hZ_sI, hI_sI_same, hK_sJ, hF_sJ, hI_sJ, hN_sJ, hZ_sJ, hJ_sJ_same, hK_sF, hI_sF, hJ_sF, hN_sF, hZ_sF, Option.bind_some, Option.toList_some, Option.toList_none, List.cons_append, List.nil_append, zq_ref, zq_null, L.k70, hg]
      · simp only [e_X4_count, s_X4_count_0, s_X4_count_1, s_X4_count_2, s_X4_count_3, s_X4_count_6, s_X4_count_7, s_X4_count_9, s_X4_count_11, s_X4_count_14, s_X4_count_15, s_X4_count_16, s_X4_count_19, s_X4_count_20, s_X4_count_21, s_X4_count_24, s_X4_count_25, s_X4_count_28, s_X4_count_29, s_X4_count_30, s_X4_count_31, s_X4_count_34, s_X4_count_37, s_X4_count_38, s_X4_count_39, s_X4_count_40, s_X4_count_41, s_X4_count_44, s_X4_count_45, s_X4_count_47, s_X4_count_48, s_X4_count_51, s_X4_count_52, s_X4_count_53, s_X4_count_56, s_X4_count_57, s_X4_count_58, s_X4_count_59, s_X4_count_62, s_X4_count_63, s_X4_count_66, s_X4_count_67, s_X4_count_68, s_X4_count_69, s_X4_count_72, s_X4_count_75, s_X4_count_76, s_X4_count_77, s_X4_count_78, s_X4_count_79, s_X4_count_82, s_X4_count_83, s_X4_count_86, s_X4_count_89, s_X4_count_91, if_true, if_false, and_true, true_and, and_false, false_and, true_or, or_true, or_false, false_or, eq_self, not_true_eq_false, not_false_eq_true, zv_int, zv_ref, zv_null, zv_none, hK_sI, hF_sI, hJ_sI, hN_sI, hZ_sI, hI_sI_same, hK_sJ, hF_sJ, hI_sJ, hN_sJ, hZ_sJ, hJ_sJ_same, hK_sF, hI_sF, hJ_sF, hN_sF, hZ_sF, Option.bind_some, Option.toList_some, Option.toList_none, List.cons_append, List.nil_append, zq_ref, zq_null, c0, c1, c2]
-- how many numbers are held
def hp (f : Nat → Int32) (i : Nat) : Bool := decide (¬ f i = 0)
theorem lp_held {a r n : Nat} (k1 : hK h a = (11, 3)) (k2 : hK h r = (1, 150)) (f0 : hF h a 0 = .ref r) (hn : n ≤ 150) : ∀ k i c, i + k = n → zl E d kX1_heldOf 4 [some (.ref a), some (.int (nI n)), some (.int (nI c)), some (.int (nI i))] [] h = some (some (.int (nI (c + cn (hp (hI h r)) k i))), h)
  | 0, i, c, e => by
    have : i = n := by omega
    subst this
    rw [s_X1_heldOf_4]
    simp only [s_X1_heldOf_0, s_X1_heldOf_1, s_X1_heldOf_2, s_X1_heldOf_3, s_X1_heldOf_5, s_X1_heldOf_6, s_X1_heldOf_9, s_X1_heldOf_10, s_X1_heldOf_11, s_X1_heldOf_14, s_X1_heldOf_15, s_X1_heldOf_18, s_X1_heldOf_19, s_X1_heldOf_22, s_X1_heldOf_23, s_X1_heldOf_24, s_X1_heldOf_27, s_X1_heldOf_30, s_X1_heldOf_33, s_X1_heldOf_36, s_X1_heldOf_37, if_true, if_false, and_true, true_and, and_false, false_and, true_or, or_true, or_false, false_or, eq_self, not_true_eq_false, not_false_eq_true, zv_int, zv_ref, zv_null, zv_none, hK_sI, hF_sI, hJ_sI, hN_sI, hZ_sI, hI_sI_same, hK_sJ, hF_sJ, hI_sJ, hN_sJ, hZ_sJ, hJ_sJ_same, hK_sF, hI_sF, hJ_sF, hN_sF, hZ_sF, Option.bind_some, Option.toList_some, Option.toList_none, List.cons_append, List.nil_append, zq_ref, zq_null, cn, Nat.add_zero, Int32.le_refl]
  | k + 1, i, c, e => by
    have q1 : ¬ nI n ≤ nI i := nI_ge (by omega) (by omega)
    have q2 : ¬ nI 150 ≤ nI i := nI_ge (by omega) (by omega)
    have z0 : zR (nI i) 150 := zR_to (by decide) (by omega)
    have z1 : (nI i).toNatClampNeg = i := nI_clamp (by omega)
    rw [s_X1_heldOf_4]
    unfold cn hp
    by_cases c0 : hI h r i = 0
    · simp only [s_X1_heldOf_0, s_X1_heldOf_1, s_X1_heldOf_2, s_X1_heldOf_3, s_X1_heldOf_5, s_X1_heldOf_6, s_X1_heldOf_9, s_X1_heldOf_10, s_X1_heldOf_11, s_X1_heldOf_14, s_X1_heldOf_15, s_X1_heldOf_18, s_X1_heldOf_19, s_X1_heldOf_22, s_X1_heldOf_23, s_X1_heldOf_24, s_X1_heldOf_27, s_X1_heldOf_30, s_X1_heldOf_33, s_X1_heldOf_36, s_X1_heldOf_37, if_true, if_false, and_true, true_and, and_false, false_and, true_or, or_true, or_false, false_or, eq_self, not_true_eq_false, not_false_eq_true, zv_int, zv_ref, zv_null, zv_none, hK_sI, hF_sI, hJ_sI, hN_sI, hZ_sI, hI_sI_same, hK_sJ, hF_sJ, hI_sJ, hN_sJ, hZ_sJ, hJ_sJ_same, hK_sF, hI_sF, hJ_sF, hN_sF, hZ_sF, Option.bind_some, Option.toList_some, Option.toList_none, List.cons_append, List.nil_append, zq_ref, zq_null, k1, k2, f0, q1, q2, z0, z1, c0, decide_false, cond_false, Nat.zero_add, nI_1]
      exact lp_held k1 k2 f0 hn k (i + 1) c (by omega)
    · simp only [s_X1_heldOf_0, s_X1_heldOf_1, s_X1_heldOf_2, s_X1_heldOf_3, s_X1_heldOf_5, s_X1_heldOf_6, s_X1_heldOf_9, s_X1_heldOf_10, s_X1_heldOf_11, s_X1_heldOf_14, s_X1_heldOf_15, s_X1_heldOf_18, s_X1_heldOf_19, s_X1_heldOf_22, s_X1_heldOf_23, s_X1_heldOf_24, s_X1_heldOf_27, s_X1_heldOf_30, s_X1_heldOf_33, s_X1_heldOf_36, s_X1_heldOf_37, if_true, if_false, and_true, true_and, and_false, false_and, true_or, or_true, or_false, false_or, eq_self, not_true_eq_false, not_false_eq_true, zv_int, zv_ref, zv_null, zv_none, hK_sI, hF_sI, hJ_sI, hN_sI, hZ_sI, hI_sI_same, hK_sJ, hF_sJ, hI_sJ, hN_sJ, hZ_sJ, hJ_sJ_same, hK_sF, hI_sF, hJ_sF, hN_sF, hZ_sF, Option.bind_some, Option.toList_some, Option.toList_none, List.cons_append, List.nil_append, zq_ref, zq_null, k1, k2, f0, q1, q2, z0, z1, c0, decide_true, cond_true, nI_1]
      rw [← Nat.add_assoc]
      exact lp_held k1 k2 f0 hn k (i + 1) (c + 1) (by omega)
theorem c_X1_heldOf {a r n : Nat} (k1 : hK h a = (11, 3)) (k2 : hK h r = (1, 150)) (f0 : hF h a 0 = .ref r) (hn : n ≤ 150) : cal E (d + 1) kX1_heldOf [.ref a, .int (nI n)] h = some (some (.int (nI (cn (hp (hI h r)) n 0))), h) := by
  have := lp_held (E := E) (d := d) k1 k2 f0 hn n 0 0 (by omega)
  rw [Nat.zero_add] at this
  simp only [e_X1_heldOf, s_X1_heldOf_0, s_X1_heldOf_1, s_X1_heldOf_2, s_X1_heldOf_3, s_X1_heldOf_5, s_X1_heldOf_6, s_X1_heldOf_9, s_X1_heldOf_10, s_X1_heldOf_11, s_X1_heldOf_14, s_X1_heldOf_15, s_X1_heldOf_18, s_X1_heldOf_19, s_X1_heldOf_22, s_X1_heldOf_23, s_X1_heldOf_24, s_X1_heldOf_27, s_X1_heldOf_30, s_X1_heldOf_33, s_X1_heldOf_36, s_X1_heldOf_37, if_true, if_false, and_true, true_and, and_false, false_and, true_or, or_true, or_false, false_or, eq_self, not_true_eq_false, not_false_eq_true, zv_int, zv_ref, zv_null, zv_none, hK_sI, hF_sI, hJ_sI, hN_sI, hZ_sI, hI_sI_same, hK_sJ, hF_sJ, hI_sJ, hN_sJ, hZ_sJ, hJ_sJ_same, hK_sF, hI_sF, hJ_sF, hN_sF, hZ_sF, Option.bind_some, Option.toList_some, Option.toList_none, List.cons_append, List.nil_append, zq_ref, zq_null]
  exact this
-- mixed
def mx (x : Int64) (v : Int32) : Int64 := 31 * x + v.toInt64
def mxA (f : Nat → Int32) : Nat → Nat → Int64 → Int64
  | 0, _, x => x
  | k + 1, i, x => mxA f k (i + 1) (mx x (f i))
theorem mxA_cg {f g : Nat → Int32} {n : Nat} (e : ag f g n) : ∀ k i x, i + k = n → mxA f k i x = mxA g k i x
  | 0, i, x, q => rfl
  | k + 1, i, x, q => by
    unfold mxA
    rw [e i (by omega)]
    exact mxA_cg e k (i + 1) _ (by omega)
theorem lp_mixAll {a n N : Nat} {x0 : Int64} (k1 : hK h a = (1, N)) (hn : n ≤ N) (hN : N ≤ 150) : ∀ k i x, i + k = n → zl E (d + 1) kX3_mixAll 6 [some (.long x0), none, some (.ref a), some (.int (nI n)), some (.long x), none, some (.int (nI i))] [] h = some (some (.long (mxA (hI h a) k i x)), h)
  | 0, i, x, e => by
    have : i = n := by omega
    subst this
    rw [s_X3_mixAll_6]
    simp only [s_X3_mixAll_0, s_X3_mixAll_1, s_X3_mixAll_3, s_X3_mixAll_4, s_X3_mixAll_8, s_X3_mixAll_9, s_X3_mixAll_12, s_X3_mixAll_14, s_X3_mixAll_14n, s_X3_mixAll_15, s_X3_mixAll_16, s_X3_mixAll_19, s_X3_mixAll_21, s_X3_mixAll_21n, s_X3_mixAll_22, s_X3_mixAll_24, s_X3_mixAll_25, s_X3_mixAll_28, s_X3_mixAll_30, s_X3_mixAll_33, s_X3_mixAll_36, s_X3_mixAll_38, if_true, if_false, and_true, true_and, and_false, false_and, true_or, or_true, or_false, false_or, eq_self, not_true_eq_false, not_false_eq_true, zv_int, zv_ref, zv_null, zv_none, hK_sI, hF_sI, hJ_sI, hN_sI, hZ_sI, hI_sI_same, hK_sJ, hF_sJ, hI_sJ, hN_sJ, hZ_sJ, hJ_sJ_same, hK_sF, hI_sF, hJ_sF, hN_sF, hZ_sF, Option.bind_some, Option.toList_some, Option.toList_none, List.cons_append, List.nil_append, zq_ref, zq_null, mxA, Int32.le_refl]
  | k + 1, i, x, e => by
    have q1 : ¬ nI n ≤ nI i := nI_ge (by omega) (by omega)
    have q2 : ¬ nI N ≤ nI i := nI_ge (by omega) (by omega)
    have z0 : zR (nI i) N := zR_to (by omega) (by omega)
    have z1 : (nI i).toNatClampNeg = i := nI_clamp (by omega)
    rw [s_X3_mixAll_6]
    simp only [s_X3_mixAll_0, s_X3_mixAll_1, s_X3_mixAll_3, s_X3_mixAll_4, s_X3_mixAll_8, s_X3_mixAll_9, s_X3_mixAll_12, s_X3_mixAll_14, s_X3_mixAll_14n, s_X3_mixAll_15, s_X3_mixAll_16, s_X3_mixAll_19, s_X3_mixAll_21, s_X3_mixAll_21n, s_X3_mixAll_22, s_X3_mixAll_24, s_X3_mixAll_25, s_X3_mixAll_28, s_X3_mixAll_30, s_X3_mixAll_33, s_X3_mixAll_36, s_X3_mixAll_38, if_true, if_false, and_true, true_and, and_false, false_and, true_or, or_true, or_false, false_or, eq_self, not_true_eq_false, not_false_eq_true, zv_int, zv_ref, zv_null, zv_none, hK_sI, hF_sI, hJ_sI, hN_sI, hZ_sI, hI_sI_same, hK_sJ, hF_sJ, hI_sJ, hN_sJ, hZ_sJ, hJ_sJ_same, hK_sF, hI_sF, hJ_sF, hN_sF, hZ_sF, Option.bind_some, Option.toList_some, Option.toList_none, List.cons_append, List.nil_append, zq_ref, zq_null, k1, q1, q2, z0, z1, c_X3_mix, nI_1]
    exact lp_mixAll k1 hn hN k (i + 1) (mx x (hI h a i)) (by omega)
theorem c_X3_mixAll {a n N : Nat} {x : Int64} (k1 : hK h a = (1, N)) (hn : n ≤ N) (hN : N ≤ 150) : cal E (d + 2) kX3_mixAll [.long x, .ref a, .int (nI n)] h = some (some (.long (mxA (hI h a) n 0 x)), h) := by
  have := lp_mixAll (E := E) (d := d) (x0 := x) k1 hn hN n 0 x (by omega)
  simp only [e_X3_mixAll, s_X3_mixAll_0, s_X3_mixAll_1, s_X3_mixAll_3, s_X3_mixAll_4, s_X3_mixAll_8, s_X3_mixAll_9, s_X3_mixAll_12, s_X3_mixAll_14, s_X3_mixAll_14n, s_X3_mixAll_15, s_X3_mixAll_16, s_X3_mixAll_19, s_X3_mixAll_21, s_X3_mixAll_21n, s_X3_mixAll_22, s_X3_mixAll_24, s_X3_mixAll_25, s_X3_mixAll_28, s_X3_mixAll_30, s_X3_mixAll_33, s_X3_mixAll_36, s_X3_mixAll_38, if_true, if_false, and_true, true_and, and_false, false_and, true_or, or_true, or_false, false_or, eq_self, not_true_eq_false, not_false_eq_true, zv_int, zv_ref, zv_null, zv_none, hK_sI, hF_sI, hJ_sI, hN_sI, hZ_sI, hI_sI_same, hK_sJ, hF_sJ, hI_sJ, hN_sJ, hZ_sJ, hJ_sJ_same, hK_sF, hI_sF, hJ_sF, hN_sF, hZ_sF, Option.bind_some, Option.toList_some, Option.toList_none, List.cons_append, List.nil_append, zq_ref, zq_null]
  exact this
theorem c_X3_mixAllZ {a N : Nat} {z : Option Nat} {x : Int64} (k1 : hK h a = (1, N)) (hn : zn z ≤ N) (hN : N ≤ 150) : cal E (d + 2) kX3_mixAll [.long x, .ref a, .int (zs z)] h = some (some (.long (mxA (hI h a) (zn z) 0 x)), h) := by
  cases z with
  | some n => exact c_X3_mixAll k1 hn hN
  | none =>
    have q : (-1 : Int32) ≤ 0 := by decide
    simp only [zs, zn, mxA, e_X3_mixAll, s_X3_mixAll_0, s_X3_mixAll_1, s_X3_mixAll_3, s_X3_mixAll_4, s_X3_mixAll_8, s_X3_mixAll_9, s_X3_mixAll_12, s_X3_mixAll_14, s_X3_mixAll_14n, s_X3_mixAll_15, s_X3_mixAll_16, s_X3_mixAll_19, s_X3_mixAll_21, s_X3_mixAll_21n, s_X3_mixAll_22, s_X3_mixAll_24, s_X3_mixAll_25, s_X3_mixAll_28, s_X3_mixAll_30, s_X3_mixAll_33, s_X3_mixAll_36, s_X3_mixAll_38, s_X3_mixAll_6, if_true, if_false, and_true, true_and, and_false, false_and, true_or, or_true, or_false, false_or, eq_self, not_true_eq_false, not_false_eq_true, zv_int, zv_ref, zv_null, zv_none, hK_sI, hF_sI, hJ_sI, hN_sI, hZ_sI, hI_sI_same, hK_sJ, hF_sJ, hI_sJ, hN_sJ, hZ_sJ, hJ_sJ_same, hK_sF, hI_sF, hJ_sF, hN_sF, hZ_sF, Option.bind_some, Option.toList_some, Option.toList_none, List.cons_append, List.nil_append, zq_ref, zq_null, q]
/-- the digest -/
def dgS (z : Nat → Option Nat) (t : Nat → Nat → Int32) : Nat → Nat → Int64 → Int64
  | 0, _, x => x
  | k + 1, s, x => dgS z t k (s + 1) (mxA (t s) (zn (z s)) 0 (mx x (zs (z s))))
def dgQ (o : Nat → Nat) (r : Nat → Nat → Int32) : Nat → Nat → Int64 → Int64
  | 0, _, x => x
  | k + 1, q, x => dgQ o r k (q + 1) (if o q = 0 then x else mxA (r q) (o q * o q) 0 (mx (mx x (nI q)) (nI (o q))))
def dg (z : Nat → Option Nat) (t : Nat → Nat → Int32) (o : Nat → Nat) (r : Nat → Nat → Int32) (g : Int32) : Int64 := mx (dgQ o r 24 0 (dgS z t 4 0 83)) g
theorem lp_dg2 {o : Nat → Nat} {g : Int32} (L : Lay b h) (ho : oC b h o) (hg : hF h (b + 8) 3 = .int g) : ∀ k q x v4, q + k = 24 → zl E (d + 2) kX3_digest 56 [some (.ref b), some (.long x), none, some (.int (nI q)), v4] [] h = some (some (.long (mx (dgQ o (fun q => hI h (aR b q)) k q x) g)), h)
  | 0, q, x, v4, e => by
    have : q = 24 := by omega
    subst this
    rw [s_X3_digest_56]
    simp (decide := true) only [s_X3_digest_0, s_X3_digest_3, s_X3_digest_4, s_X3_digest_5, s_X3_digest_7, s_X3_digest_8, s_X3_digest_11, s_X3_digest_12, s_X3_digest_13, s_X3_digest_16, s_X3_digest_17, s_X3_digest_18, s_X3_digest_21, s_X3_digest_24, s_X3_digest_25, s_X3_digest_26, s_X3_digest_27, s_X3_digest_30, s_X3_digest_31, s_X3_digest_32, s_X3_digest_35, s_X3_digest_36, s_X3_digest_39, s_X3_digest_40, s_X3_digest_41, s_X3_digest_44, s_X3_digest_47, s_X3_digest_48, s_X3_digest_51, s_X3_digest_54, s_X3_digest_55, s_X3_digest_57, s_X3_digest_59, s_X3_digest_62, s_X3_digest_63, s_X3_digest_66, s_X3_digest_67, s_X3_digest_68, s_X3_digest_71, s_X3_digest_73, s_X3_digest_75, s_X3_digest_78, s_X3_digest_79, s_X3_digest_80, s_X3_digest_83, s_X3_digest_85, s_X3_digest_88, s_X3_digest_89, s_X3_digest_90, s_X3_digest_91, s_X3_digest_94, s_X3_digest_95, s_X3_digest_96, s_X3_digest_99, s_X3_digest_101, s_X3_digest_103, s_X3_digest_104, s_X3_digest_107, s_X3_digest_108, s_X3_digest_111, s_X3_digest_114, s_X3_digest_115, s_X3_digest_116, s_X3_digest_119, s_X3_digest_122, s_X3_digest_125, if_true, if_false, and_true, true_and, and_false, false_and, true_or, or_true, or_false, false_or, eq_self, not_true_eq_false, not_false_eq_true, zv_int, zv_ref, zv_null, zv_none, hK_sI, hF_sI, hJ_sI, hN_sI, hZ_sI, hI_sI_same, hK_sJ, hF_sJ, hI_sJ, hN_sJ, hZ_sJ, hJ_sJ_same, hK_sF, hI_sF, hJ_sF, hN_sF, hZ_sF, Option.bind_some, Option.toList_some, Option.toList_none, List.cons_append, List.nil_append, zq_ref, zq_null, L.k0, L.p0_5, L.k8, hg, c_X3_mix, dgQ]
    rfl
  | k + 1, q, x, v4, e => by
    have hq : q < 24 := by omega
    have q1 : ¬ 24 ≤ nI q := nI_ge (b := 24) (by omega) (by decide)
    have z0 : zR (nI q) 24 := zR_to (by decide) hq
    have z1 : (nI q).toNatClampNeg = q := nI_clamp (by omega)
    have hoq := ho q hq
    have qn : o q * o q ≤ 144 := Nat.mul_le_mul hoq.2 hoq.2
    rw [s_X3_digest_56]
    unfold dgQ
    by_cases c0 : o q = 0
    · have c1 : nI (o q) ≤ 0 := by rw [c0]; decide
      simp (decide := true) only [s_X3_digest_0, s_X3_digest_3, s_X3_digest_4, s_X3_digest_5, s_X3_digest_7, s_X3_digest_8, s_X3_digest_11, s_X3_digest_12, s_X3_digest_13, s_X3_digest_16, s_X3_digest_17, s_X3_digest_18, s_X3_digest_21, s_X3_digest_24, s_X3_digest_25, s_X3_digest_26, s_X3_digest_27, s_X3_digest_30, s_X3_digest_31, s_X3_digest_32, s_X3_digest_35, s_X3_digest_36, s_X3_digest_39, s_X3_digest_40, s_X3_digest_41, s_X3_digest_44, s_X3_digest_47, s_X3_digest_48, s_X3_digest_51, s_X3_digest_54, s_X3_digest_55, s_X3_digest_57, s_X3_digest_59, s_X3_digest_62, s_X3_digest_63, s_X3_digest_66, s_X3_digest_67, s_X3_digest_68, s_X3_digest_71, s_X3_digest_73, s_X3_digest_75, s_X3_digest_78, s_X3_digest_79, s_X3_digest_80, s_X3_digest_83, s_X3_digest_85, s_X3_digest_88, s_X3_digest_89, s_X3_digest_90, s_X3_digest_91, s_X3_digest_94, s_X3_digest_95, s_X3_digest_96, s_X3_digest_99, s_X3_digest_101, s_X3_digest_103, s_X3_digest_104, s_X3_digest_107, s_X3_digest_108, s_X3_digest_111, s_X3_digest_114, s_X3_digest_115, s_X3_digest_116, s_X3_digest_119, s_X3_digest_122, s_X3_digest_125, if_true, if_false, and_true, true_and, and_false, false_and, true_or, or_true, or_false, false_or, eq_self, not_true_eq_false, not_false_eq_true, zv_int, zv_ref, zv_null, zv_none, hK_sI, hF_sI, hJ_sI, hN_sI, hZ_sI, hI_sI_same, hK_sJ, hF_sJ, hI_sJ, hN_sJ, hZ_sJ, hJ_sJ_same, hK_sF, hI_sF, hJ_sF, hN_sF, hZ_sF, Option.bind_some, Option.toList_some, Option.toList_none, List.cons_append, List.nil_append, zq_ref, zq_null, L.k0, L.p0_1, L.k2, L.p2 hq, L.kQ hq, z0, z1, q1, hoq.1, c1, eq_true c0, nI_1]
      exact lp_dg2 L ho hg k (q + 1) x _ (by omega)
    · have c1 : ¬ nI (o q) ≤ 0 := nI_ge (a := 0) (b := o q) (by omega) (by omega)
      simp (decide := true) only [s_X3_digest_0, s_X3_digest_3, s_X3_digest_4, s_X3_digest_5, s_X3_digest_7, s_X3_digest_8, s_X3_digest_11, s_X3_digest_12, s_X3_digest_13, s_X3_digest_16, s_X3_digest_17, s_X3_digest_18, s_X3_digest_21, s_X3_digest_24, s_X3_digest_25, s_X3_digest_26, s_X3_digest_27, s_X3_digest_30, s_X3_digest_31, s_X3_digest_32, s_X3_digest_35, s_X3_digest_36, s_X3_digest_39, s_X3_digest_40, s_X3_digest_41, s_X3_digest_44, s_X3_digest_47, s_X3_digest_48, s_X3_digest_51, s_X3_digest_54, s_X3_digest_55, s_X3_digest_57, s_X3_digest_59, s_X3_digest_62, s_X3_digest_63, s_X3_digest_66, s_X3_digest_67, s_X3_digest_68, s_X3_digest_71, s_X3_digest_73, s_X3_digest_75, s_X3_digest_78, s_X3_digest_79, s_X3_digest_80, s_X3_digest_83, s_X3_digest_85, s_X3_digest_88, s_X3_digest_89, s_X3_digest_90, s_X3_digest_91, s_X3_digest_94, s_X3_digest_95, s_X3_digest_96, s_X3_digest_99, s_X3_digest_101, s_X3_digest_103, s_X3_digest_104, s_X3_digest_107, s_X3_digest_108, s_X3_digest_111, s_X3_digest_114, s_X3_digest_115, s_X3_digest_116, s_X3_digest_119, s_X3_digest_122, s_X3_digest_125, if_true, if_false, and_true, true_and, and_false, false_and, true_or, or_true, or_false, false_or, eq_self, not_true_eq_false, not_false_eq_true, zv_int, zv_ref, zv_null, zv_none, hK_sI, hF_sI, hJ_sI, hN_sI, hZ_sI, hI_sI_same, hK_sJ, hF_sJ, hI_sJ, hN_sJ, hZ_sJ, hJ_sJ_same, hK_sF, hI_sF, hJ_sF, hN_sF, hZ_sF, Option.bind_some, Option.toList_some, Option.toList_none, List.cons_append, List.nil_append, zq_ref, zq_null, L.k0, L.p0_1, L.k2, L.p2 hq, L.kQ hq, L.pQ hq, z0, z1, q1, hoq.1, c1, eq_false c0, c_X3_mix, pk_mul, c_X3_mixAll (L.kR hq) qn (by decide), nI_1]
      exact lp_dg2 L ho hg k (q + 1) _ _ (by omega)
theorem lp_dg1 {o : Nat → Nat} {z : Nat → Option Nat} {g : Int32} (L : Lay b h) (ho : oC b h o) (hz : sC b h z) (hg : hF h (b + 8) 3 = .int g) : ∀ k s x, s + k = 4 → zl E (d + 2) kX3_digest 6 [some (.ref b), some (.long x), none, some (.int (nI s)), none] [] h = some (some (.long (mx (dgQ o (fun q => hI h (aR b q)) 24 0 (dgS z (fun s => hI h (aT b s)) k s x)) g)), h)
  | 0, s, x, e => by
    have : s = 4 := by omega
    subst this
    have e2 := lp_dg2 (E := E) (d := d) L ho hg 24 0 x none (by omega)
    rw [s_X3_digest_6]
    simp (decide := true) only [s_X3_digest_0, s_X3_digest_3, s_X3_digest_4, s_X3_digest_5, s_X3_digest_7, s_X3_digest_8, s_X3_digest_11, s_X3_digest_12, s_X3_digest_13, s_X3_digest_16, s_X3_digest_17, s_X3_digest_18, s_X3_digest_21, s_X3_digest_24, s_X3_digest_25, s_X3_digest_26, s_X3_digest_27, s_X3_digest_30, s_X3_digest_31, s_X3_digest_32, s_X3_digest_35, s_X3_digest_36, s_X3_digest_39, s_X3_digest_40, s_X3_digest_41, s_X3_digest_44, s_X3_digest_47, s_X3_digest_48, s_X3_digest_51, s_X3_digest_54, s_X3_digest_55, s_X3_digest_57, s_X3_digest_59, s_X3_digest_62, s_X3_digest_63, s_X3_digest_66, s_X3_digest_67, s_X3_digest_68, s_X3_digest_71, s_X3_digest_73, s_X3_digest_75, s_X3_digest_78, s_X3_digest_79, s_X3_digest_80, s_X3_digest_83, s_X3_digest_85, s_X3_digest_88, s_X3_digest_89, s_X3_digest_90, s_X3_digest_91, s_X3_digest_94, s_X3_digest_95, s_X3_digest_96, s_X3_digest_99, s_X3_digest_101, s_X3_digest_103, s_X3_digest_104, s_X3_digest_107, s_X3_digest_108, s_X3_digest_111, s_X3_digest_114, s_X3_digest_115, s_X3_digest_116, s_X3_digest_119, s_X3_digest_122, s_X3_digest_125, if_true, if_false, and_true, true_and, and_false, false_and, true_or, or_true, or_false, false_or, eq_self, not_true_eq_false, not_false_eq_true, zv_int, zv_ref, zv_null, zv_none, hK_sI, hF_sI, hJ_sI, hN_sI, hZ_sI, hI_sI_same, hK_sJ, hF_sJ, hI_sJ, hN_sJ, hZ_sJ, hJ_sJ_same, hK_sF, hI_sF, hJ_sF, hN_sF, hZ_sF, Option.bind_some, Option.toList_some, Option.toList_none, List.cons_append, List.nil_append, zq_ref, zq_null, dgS]
    exact e2
  | k + 1, s, x, e => by
    have hs : s < 4 := by omega
    have q1 : ¬ 4 ≤ nI s := nI_ge (b := 4) (by omega) (by decide)
    have z0 : zR (nI s) 4 := zR_to (by decide) hs
    have z1 : (nI s).toNatClampNeg = s := nI_clamp (by omega)
    have hzs := hz s hs
    rw [s_X3_digest_6]
    unfold dgS
    simp (decide := true) only [s_X3_digest_0, s_X3_digest_3, s_X3_digest_4, s_X3_digest_5, s_X3_digest_7, s_X3_digest_8, s_X3_digest_11, s_X3_digest_12, s_X3_digest_13, s_X3_digest_16, s_X3_digest_17, s_X3_digest_18, s_X3_digest_21, s_X3_digest_24, s_X3_digest_25, s_X3_digest_26, s_X3_digest_27, s_X3_digest_30, s_X3_digest_31, s_X3_digest_32, s_X3_digest_35, s_X3_digest_36, s_X3_digest_39, s_X3_digest_40, s_X3_digest_41, s_X3_digest_44, s_X3_digest_47, s_X3_digest_48, s_X3_digest_51, s_X3_digest_54, s_X3_digest_55, s_X3_digest_57, s_X3_digest_59, s_X3_digest_62, s_X3_digest_63, s_X3_digest_66, s_X3_digest_67, s_X3_digest_68, s_X3_digest_71, s_X3_digest_73, s_X3_digest_75, s_X3_digest_78, s_X3_digest_79, s_X3_digest_80, s_X3_digest_83, s_X3_digest_85, s_X3_digest_88, s_X3_digest_89, s_X3_digest_90, s_X3_digest_91, s_X3_digest_94, s_X3_digest_95, s_X3_digest_96, s_X3_digest_99, s_X3_digest_101, s_X3_digest_103, s_X3_digest_104, s_X3_digest_107, s_X3_digest_108, s_X3_digest_111, s_X3_digest_114, s_X3_digest_115, s_X3_digest_116, s_X3_digest_119, s_X3_digest_122, s_X3_digest_125, if_true, if_false, and_true, true_and, and_false, false_and, true_or, or_true, or_false, false_or, eq_self, not_true_eq_false, not_false_eq_true, zv_int, zv_ref, zv_null, zv_none, hK_sI, hF_sI, hJ_sI, hN_sI, hZ_sI, hI_sI_same, hK_sJ, hF_sJ, hI_sJ, hN_sJ, hZ_sJ, hJ_sJ_same, hK_sF, hI_sF, hJ_sF, hN_sF, hZ_sF, Option.bind_some, Option.toList_some, Option.toList_none, List.cons_append, List.nil_append, zq_ref, zq_null, L.k0, L.p0_0, L.k1, L.p1 hs, L.kS hs, L.pS hs, z0, z1, q1, hzs.1, c_X3_mix, c_X3_mixAllZ (L.kT hs) hzs.2 (by decide), nI_1]
    exact lp_dg1 L ho hz hg k (s + 1) _ (by omega)
theorem c_X3_digest {o : Nat → Nat} {z : Nat → Option Nat} {g : Int32} (L : Lay b h) (ho : oC b h o) (hz : sC b h z) (hg : hF h (b + 8) 3 = .int g) : cal E (d + 3) kX3_digest [.ref b] h = some (some (.long (dg z (fun s => hI h (aT b s)) o (fun q => hI h (aR b q)) g)), h) := by
  have := lp_dg1 (E := E) (d := d) L ho hz hg 4 0 83 (by omega)
  simp only [e_X3_digest, s_X3_digest_0, s_X3_digest_3, s_X3_digest_4, s_X3_digest_5, s_X3_digest_7, s_X3_digest_8, s_X3_digest_11, s_X3_digest_12, s_X3_digest_13, s_X3_digest_16, s_X3_digest_17, s_X3_digest_18, s_X3_digest_21, s_X3_digest_24, s_X3_digest_25, s_X3_digest_26, s_X3_digest_27, s_X3_digest_30, s_X3_digest_31, s_X3_digest_32, s_X3_digest_35, s_X3_digest_36, s_X3_digest_39, s_X3_digest_40, s_X3_digest_41, s_X3_digest_44, s_X3_digest_47, s_X3_digest_48, s_X3_digest_51, s_X3_digest_54, s_X3_digest_55, s_X3_digest_57, s_X3_digest_59, s_X3_digest_62, s_X3_digest_63, s_X3_digest_66, s_X3_digest_67, s_X3_digest_68, s_X3_digest_71, s_X3_digest_73, s_X3_digest_75, s_X3_digest_78, s_X3_digest_79, s_X3_digest_80, s_X3_digest_83, s_X3_digest_85, s_X3_digest_88, s_X3_digest_89, s_X3_digest_90, s_X3_digest_91, s_X3_digest_94, s_X3_digest_95, s_X3_digest_96, s_X3_digest_99, s_X3_digest_101, s_X3_digest_103, s_X3_digest_104, s_X3_digest_107, s_X3_digest_108, s_X3_digest_111, s_X3_digest_114, s_X3_digest_115, s_X3_digest_116, s_X3_digest_119, s_X3_digest_122, s_X3_digest_125, if_true, if_false, and_true, true_and, and_false, false_and, true_or, or_true, or_false, false_or, eq_self, not_true_eq_false, not_false_eq_true, zv_int, zv_ref, zv_null, zv_none, hK_sI, hF_sI, hJ_sI, hN_sI, hZ_sI, hI_sI_same, hK_sJ, hF_sJ, hI_sJ, hN_sJ, hZ_sJ, hJ_sJ_same, hK_sF, hI_sF, hJ_sF, hN_sF, hZ_sF, Option.bind_some, Option.toList_some, Option.toList_none, List.cons_append, List.nil_append, zq_ref, zq_null]
  exact this
end
