/-! ===== the finder's small ones ===== -/
section
variable {E : mE} {d : Nat} {h : mH} {b : Nat}
/-- the numbers of a square, four bits each -/
def pck (f : Nat → Int32) : Nat → Nat → Int64 → Int64
  | 0, _, x => x
  | k + 1, i, x => pck f k (i + 1) ((x <<< ((4 : Int32).toInt64 &&& 63)) ||| (f i - 1).toInt64)
def pckd (f : Nat → Int32) (N : Nat) : Int64 := pck f N 0 0 ^^^ (-9223372036854775808)
theorem pck_cg {f g : Nat → Int32} {n : Nat} (e : ag f g n) : ∀ k i x, i + k = n → pck f k i x = pck g k i x
  | 0, _, _, _ => rfl
  | k + 1, i, x, q => by
    unfold pck
    rw [e i (by omega)]
    exact pck_cg e k (i + 1) _ (by omega)
theorem lp_packed {a r N : Nat} (k1 : hK h a = (12, 2)) (k2 : hK h r = (1, 144)) (f0 : hF h a 0 = .ref r) (hN : N ≤ 144) : ∀ k i x, i + k = N → zl E d kX0_packed 15 [some (.ref a), some (.long x), none, some (.int (nI N)), some (.int (nI i))] [] h = some (some (.long (pck (hI h r) k i x ^^^ (-9223372036854775808))), h)
  | 0, i, x, e => by
    have : i = N := by omega
    subst this
    rw [s_X0_packed_15]
    simp only [s_X0_packed_0, s_X0_packed_1, s_X0_packed_2, s_X0_packed_3, s_X0_packed_6, s_X0_packed_7, s_X0_packed_10, s_X0_packed_11, s_X0_packed_12, s_X0_packed_13, s_X0_packed_17, s_X0_packed_18, s_X0_packed_21, s_X0_packed_22, s_X0_packed_23, s_X0_packed_24, s_X0_packed_25, s_X0_packed_28, s_X0_packed_30, s_X0_packed_31, s_X0_packed_32, s_X0_packed_33, s_X0_packed_34, s_X0_packed_35, s_X0_packed_36, s_X0_packed_39, s_X0_packed_42, s_X0_packed_43, s_X0_packed_46, s_X0_packed_47, if_true, if_false, and_true, true_and, and_false, false_and, true_or, or_true, or_false, false_or, eq_self, not_true_eq_false, not_false_eq_true, zv_int, zv_ref, zv_null, zv_none, hK_sI, hF_sI, hJ_sI, hN_sI, hZ_sI, hI_sI_same, hK_sJ, hF_sJ, hI_sJ, hN_sJ, hZ_sJ, hJ_sJ_same, hK_sF, hI_sF, hJ_sF, hN_sF, hZ_sF, Option.bind_some, Option.toList_some, Option.toList_none, List.cons_append, List.nil_append, zq_ref, zq_null, pck, Int32.le_refl]
  | k + 1, i, x, e => by
    have q1 : ¬ nI N ≤ nI i := nI_ge (by omega) (by omega)
    have z0 : zR (nI i) 144 := zR_to (by decide) (by omega)
    have z1 : (nI i).toNatClampNeg = i := nI_clamp (by omega)
    have ih := lp_packed k1 k2 f0 hN k (i + 1) ((x <<< ((4 : Int32).toInt64 &&& 63)) ||| (hI h r i - 1).toInt64) (by omega)
    rw [s_X0_packed_15]
    simp only [s_X0_packed_0, s_X0_packed_1, s_X0_packed_2, s_X0_packed_3, s_X0_packed_6, s_X0_packed_7, s_X0_packed_10, s_X0_packed_11, s_X0_packed_12, s_X0_packed_13, s_X0_packed_17, s_X0_packed_18, s_X0_packed_21, s_X0_packed_22, s_X0_packed_23, s_X0_packed_24, s_X0_packed_25, s_X0_packed_28, s_X0_packed_30, s_X0_packed_31, s_X0_packed_32, s_X0_packed_33, s_X0_packed_34, s_X0_packed_35, s_X0_packed_36, s_X0_packed_39, s_X0_packed_42, s_X0_packed_43, s_X0_packed_46, s_X0_packed_47, if_true, if_false, and_true, true_and, and_false, false_and, true_or, or_true, or_false, false_or, eq_self, not_true_eq_false, not_false_eq_true, zv_int, zv_ref, zv_null, zv_none, hK_sI, hF_sI, hJ_sI, hN_sI, hZ_sI, hI_sI_same, hK_sJ, hF_sJ, hI_sJ, hN_sJ, hZ_sJ, hJ_sJ_same, hK_sF, hI_sF, hJ_sF, hN_sF, hZ_sF, Option.bind_some, Option.toList_some, Option.toList_none, List.cons_append, List.nil_append, zq_ref, zq_null, k1, k2, f0, q1, z0, z1, nI_1]
    exact ih
theorem c_X0_packed {a r n : Nat} (k1 : hK h a = (12, 2)) (k2 : hK h r = (1, 144)) (f0 : hF h a 0 = .ref r) (f1 : hF h a 1 = .int (nI n)) (hn : n ≤ 12) : cal E (d + 1) kX0_packed [.ref a] h = some (some (.long (pckd (hI h r) (n * n))), h) := by
  have := lp_packed (E := E) (d := d) k1 k2 f0 (Nat.mul_le_mul hn hn) (n * n) 0 0 (by omega)
  simp only [e_X0_packed, s_X0_packed_0, s_X0_packed_1, s_X0_packed_2, s_X0_packed_3, s_X0_packed_6, s_X0_packed_7, s_X0_packed_10, s_X0_packed_11, s_X0_packed_12, s_X0_packed_13, s_X0_packed_17, s_X0_packed_18, s_X0_packed_21, s_X0_packed_22, s_X0_packed_23, s_X0_packed_24, s_X0_packed_25, s_X0_packed_28, s_X0_packed_30, s_X0_packed_31, s_X0_packed_32, s_X0_packed_33, s_X0_packed_34, s_X0_packed_35, s_X0_packed_36, s_X0_packed_39, s_X0_packed_42, s_X0_packed_43, s_X0_packed_46, s_X0_packed_47, if_true, if_false, and_true, true_and, and_false, false_and, true_or, or_true, or_false, false_or, eq_self, not_true_eq_false, not_false_eq_true, zv_int, zv_ref, zv_null, zv_none, hK_sI, hF_sI, hJ_sI, hN_sI, hZ_sI, hI_sI_same, hK_sJ, hF_sJ, hI_sJ, hN_sJ, hZ_sJ, hJ_sJ_same, hK_sF, hI_sF, hJ_sF, hN_sF, hZ_sF, Option.bind_some, Option.toList_some, Option.toList_none, List.cons_append, List.nil_append, zq_ref, zq_null, k1, f1, pk_mul]
  exact this
def pkb (f : Nat → Int32) (N i : Nat) : Bool := decide (¬ f i < 1) && decide (f i ≤ nI N)
theorem lp_packable {g a r N : Nat} (k0 : hK h g = (10, 11)) (h6 : hF h g 6 = .int (nI N)) (k1 : hK h a = (12, 2)) (k2 : hK h r = (1, 144)) (f0 : hF h a 0 = .ref r) (hN : N ≤ 144) : ∀ k i, i + k = N → zl E d kX0_isPackable 2 [some (.ref g), some (.ref a), some (.int (nI i))] [] h = some (some (.int (if al (pkb (hI h r) N) k i = true then 1 else 0)), h)
  | 0, i, e => by
    have : i = N := by omega
    subst this
    rw [s_X0_isPackable_2]
    simp (decide := true) only [s_X0_isPackable_0, s_X0_isPackable_1, s_X0_isPackable_3, s_X0_isPackable_4, s_X0_isPackable_7, s_X0_isPackable_10, s_X0_isPackable_11, s_X0_isPackable_14, s_X0_isPackable_15, s_X0_isPackable_16, s_X0_isPackable_17, s_X0_isPackable_20, s_X0_isPackable_21, s_X0_isPackable_24, s_X0_isPackable_25, s_X0_isPackable_26, s_X0_isPackable_27, s_X0_isPackable_30, s_X0_isPackable_33, s_X0_isPackable_34, s_X0_isPackable_35, s_X0_isPackable_38, s_X0_isPackable_41, s_X0_isPackable_42, if_true, if_false, and_true, true_and, and_false, false_and, true_or, or_true, or_false, false_or, eq_self, not_true_eq_false, not_false_eq_true, zv_int, zv_ref, zv_null, zv_none, hK_sI, hF_sI, hJ_sI, hN_sI, hZ_sI, hI_sI_same, hK_sJ, hF_sJ, hI_sJ, hN_sJ, hZ_sJ, hJ_sJ_same, hK_sF, hI_sF, hJ_sF, hN_sF, hZ_sF, Option.bind_some, Option.toList_some, Option.toList_none, List.cons_append, List.nil_append, zq_ref, zq_null, k0, h6, al, Int32.le_refl]
  | k + 1, i, e => by
    have q1 : ¬ nI N ≤ nI i := nI_ge (by omega) (by omega)
    have z0 : zR (nI i) 144 := zR_to (by decide) (by omega)
    have z1 : (nI i).toNatClampNeg = i := nI_clamp (by omega)
    have ih := lp_packable k0 h6 k1 k2 f0 hN k (i + 1) (by omega)
    rw [s_X0_isPackable_2]
    unfold al pkb
    by_cases c1 : hI h r i < 1
    · simp (decide := true) only [s_X0_isPackable_0, s_X0_isPackable_1, s_X0_isPackable_3, s_X0_isPackable_4, s_X0_isPackable_7, s_X0_isPackable_10, s_X0_isPackable_11, s_X0_isPackable_14, s_X0_isPackable_15, s_X0_isPackable_16, s_X0_isPackable_17, s_X0_isPackable_20, s_X0_isPackable_21, s_X0_isPackable_24, s_X0_isPackable_25, s_X0_isPackable_26, s_X0_isPackable_27, s_X0_isPackable_30, s_X0_isPackable_33, s_X0_isPackable_34, s_X0_isPackable_35, s_X0_isPackable_38, s_X0_isPackable_41, s_X0_isPackable_42, if_true, if_false, and_true, true_and, and_false, false_and, true_or, or_true, or_false, false_or, eq_self, not_true_eq_false, not_false_eq_true, zv_int, zv_ref, zv_null, zv_none, hK_sI, hF_sI, hJ_sI, hN_sI, hZ_sI, hI_sI_same, hK_sJ, hF_sJ, hI_sJ, hN_sJ, hZ_sJ, hJ_sJ_same, hK_sF, hI_sF, hJ_sF, hN_sF, hZ_sF, Option.bind_some, Option.toList_some, Option.toList_none, List.cons_append, List.nil_append, zq_ref, zq_null, k0, h6, k1, k2, f0, q1, z0, z1, c1, decide_false, Bool.false_and]
    · by_cases c2 : hI h r i ≤ nI N
      · simp (decide := true) only [s_X0_isPackable_0, s_X0_isPackable_1, s_X0_isPackable_3, s_X0_isPackable_4, s_X0_isPackable_7, s_X0_isPackable_10, s_X0_isPackable_11, s_X0_isPackable_14, s_X0_isPackable_15, s_X0_isPackable_16, s_X0_isPackable_17, s_X0_isPackable_20, s_X0_isPackable_21, s_X0_isPackable_24, s_X0_isPackable_25, s_X0_isPackable_26, s_X0_isPackable_27, s_X0_isPackable_30, s_X0_isPackable_33, s_X0_isPackable_34, s_X0_isPackable_35, s_X0_isPackable_38, s_X0_isPackable_41, s_X0_isPackable_42, if_true, if_false, and_true, true_and, and_false, false_and, true_or, or_true, or_false, false_or, eq_self, not_true_eq_false, not_false_eq_true, zv_int, zv_ref, zv_null, zv_none, hK_sI, hF_sI, hJ_sI, hN_sI, hZ_sI, hI_sI_same, hK_sJ, hF_sJ, hI_sJ, hN_sJ, hZ_sJ, hJ_sJ_same, hK_sF, hI_sF, hJ_sF, hN_sF, hZ_sF, Option.bind_some, Option.toList_some, Option.toList_none, List.cons_append, List.nil_append, zq_ref, zq_null, k0, h6, k1, k2, f0, q1, z0, z1, c1, c2, decide_true, Bool.true_and, nI_1]
        exact ih
      · simp (decide := true) only [s_X0_isPackable_0, s_X0_isPackable_1, s_X0_isPackable_3, s_X0_isPackable_4, s_X0_isPackable_7, s_X0_isPackable_10, s_X0_isPackable_11, s_X0_isPackable_14, s_X0_isPackable_15, s_X0_isPackable_16, s_X0_isPackable_17, s_X0_isPackable_20, s_X0_isPackable_21, s_X0_isPackable_24, s_X0_isPackable_25, s_X0_isPackable_26, s_X0_isPackable_27, s_X0_isPackable_30, s_X0_isPackable_33, s_X0_isPackable_34, s_X0_isPackable_35, s_X0_isPackable_38, s_X0_isPackable_41, s_X0_isPackable_42, if_true, if_false, and_true, true_and, and_false, false_and, true_or, or_true, or_false, false_or, eq_self, not_true_eq_false, not_false_eq_true, zv_int, zv_ref, zv_null, zv_none, hK_sI, hF_sI, hJ_sI, hN_sI, hZ_sI, hI_sI_same, hK_sJ, hF_sJ, hI_sJ, hN_sJ, hZ_sJ, hJ_sJ_same, hK_sF, hI_sF, hJ_sF, hN_sF, hZ_sF, Option.bind_some, Option.toList_some, Option.toList_none, List.cons_append, List.nil_append, zq_ref, zq_null, k0, h6, k1, k2, f0, q1, z0, z1, c1, c2, decide_true, decide_false, Bool.true_and, Bool.false_and]
theorem c_X0_isPackable {g a r N : Nat} (k0 : hK h g = (10, 11)) (h6 : hF h g 6 = .int (nI N)) (k1 : hK h a = (12, 2)) (k2 : hK h r = (1, 144)) (f0 : hF h a 0 = .ref r) (hN : N ≤ 144) : cal E (d + 1) kX0_isPackable [.ref g, .ref a] h = some (some (.int (if al (pkb (hI h r) N) N 0 = true then 1 else 0)), h) := by
  have := lp_packable (E := E) (d := d) k0 h6 k1 k2 f0 hN N 0 (by omega)
  simp only [e_X0_isPackable, s_X0_isPackable_0, s_X0_isPackable_1, s_X0_isPackable_3, s_X0_isPackable_4, s_X0_isPackable_7, s_X0_isPackable_10, s_X0_isPackable_11, s_X0_isPackable_14, s_X0_isPackable_15, s_X0_isPackable_16, s_X0_isPackable_17, s_X0_isPackable_20, s_X0_isPackable_21, s_X0_isPackable_24, s_X0_isPackable_25, s_X0_isPackable_26, s_X0_isPackable_27, s_X0_isPackable_30, s_X0_isPackable_33, s_X0_isPackable_34, s_X0_isPackable_35, s_X0_isPackable_38, s_X0_isPackable_41, s_X0_isPackable_42, if_true, if_false, and_true, true_and, and_false, false_and, true_or, or_true, or_false, false_or, eq_self, not_true_eq_false, not_false_eq_true, zv_int, zv_ref, zv_null, zv_none, hK_sI, hF_sI, hJ_sI, hN_sI, hZ_sI, hI_sI_same, hK_sJ, hF_sJ, hI_sJ, hN_sJ, hZ_sJ, hJ_sJ_same, hK_sF, hI_sF, hJ_sF, hN_sF, hZ_sF, Option.bind_some, Option.toList_some, Option.toList_none, List.cons_append, List.nil_append, zq_ref, zq_null]
  exact this
def fit (f : Nat → Int32) (cs us : Int32) (c : Nat) (x : Int32) : Bool := if f c = 0 then fre cs us x else decide (f c = x)
theorem c_X0_fits {a hd c : Nat} {cs us x : Int32} (k1 : hK h a = (10, 11)) (f1 : hF h a 1 = .ref hd) (k2 : hK h hd = (1, 16)) (h6 : hF h a 6 = .int cs) (h9 : hF h a 9 = .int us) (hc : c < 16) : cal E (d + 2) kX0_fits [.ref a, .int (nI c), .int x] h = some (some (.int (if fit (hI h hd) cs us c x = true then 1 else 0)), h) := by
  have z0 : zR (nI c) 16 := zR_to (by decide) hc
  have z1 : (nI c).toNatClampNeg = c := nI_clamp (by omega)
  have e1 := c_X0_isFree (E := E) (d := d) (x := x) k1 h6 h9
  unfold fit
  by_cases c1 : hI h hd c = 0
  · cases hf : fre cs us x with
    | true =>
      rw [hf] at e1
      simp (decide := true) only [e_X0_fits, s_X0_fits_0, s_X0_fits_1, s_X0_fits_4, s_X0_fits_5, s_X0_fits_6, s_X0_fits_9, s_X0_fits_10, s_X0_fits_11, s_X0_fits_14, s_X0_fits_17, s_X0_fits_18, s_X0_fits_21, s_X0_fits_22, s_X0_fits_23, s_X0_fits_24, s_X0_fits_27, s_X0_fits_28, s_X0_fits_31, s_X0_fits_32, if_true, if_false, and_true, true_and, and_false, false_and, true_or, or_true, or_false, false_or, eq_self, not_true_eq_false, not_false_eq_true, zv_int, zv_ref, zv_null, zv_none, hK_sI, hF_sI, hJ_sI, hN_sI, hZ_sI, hI_sI_same, hK_sJ, hF_sJ, hI_sJ, hN_sJ, hZ_sJ, hJ_sJ_same, hK_sF, hI_sF, hJ_sF, hN_sF, hZ_sF, Option.bind_some, Option.toList_some, Option.toList_none, List.cons_append, List.nil_append, zq_ref, zq_null, k1, k2, f1, z0, z1, c1, e1]
    | false =>
      rw [hf] at e1
      simp (decide := true) only [e_X0_fits, s_X0_fits_0, s_X0_fits_1, s_X0_fits_4, s_X0_fits_5, s_X0_fits_6, s_X0_fits_9, s_X0_fits_10, s_X0_fits_11, s_X0_fits_14, s_X0_fits_17, s_X0_fits_18, s_X0_fits_21, s_X0_fits_22, s_X0_fits_23, s_X0_fits_24, s_X0_fits_27, s_X0_fits_28, s_X0_fits_31, s_X0_fits_32, if_true, if_false, and_true, true_and, and_false, false_and, true_or, or_true, or_false, false_or, eq_self, not_true_eq_false, not_false_eq_true, zv_int, zv_ref, zv_null, zv_none, hK_sI, hF_sI, hJ_sI, hN_sI, hZ_sI, hI_sI_same, hK_sJ, hF_sJ, hI_sJ, hN_sJ, hZ_sJ, hJ_sJ_same, hK_sF, hI_sF, hJ_sF, hN_sF, hZ_sF, Option.bind_some, Option.toList_some, Option.toList_none, List.cons_append, List.nil_append, zq_ref, zq_null, k1, k2, f1, z0, z1, c1, e1]
  · by_cases c2 : hI h hd c = x
    · simp (decide := true) only [e_X0_fits, s_X0_fits_0, s_X0_fits_1, s_X0_fits_4, s_X0_fits_5, s_X0_fits_6, s_X0_fits_9, s_X0_fits_10, s_X0_fits_11, s_X0_fits_14, s_X0_fits_17, s_X0_fits_18, s_X0_fits_21, s_X0_fits_22, s_X0_fits_23, s_X0_fits_24, s_X0_fits_27, s_X0_fits_28, s_X0_fits_31, s_X0_fits_32, if_true, if_false, and_true, true_and, and_false, false_and, true_or, or_true, or_false, false_or, eq_self, not_true_eq_false, not_false_eq_true, zv_int, zv_ref, zv_null, zv_none, hK_sI, hF_sI, hJ_sI, hN_sI, hZ_sI, hI_sI_same, hK_sJ, hF_sJ, hI_sJ, hN_sJ, hZ_sJ, hJ_sJ_same, hK_sF, hI_sF, hJ_sF, hN_sF, hZ_sF, Option.bind_some, Option.toList_some, Option.toList_none, List.cons_append, List.nil_append, zq_ref, zq_null, k1, k2, f1, z0, z1, c1, eq_true c2, decide_true]
    · simp (decide := true) only [e_X0_fits, s_X0_fits_0, s_X0_fits_1, s_X0_fits_4, s_X0_fits_5, s_X0_fits_6, s_X0_fits_9, s_X0_fits_10, s_X0_fits_11, s_X0_fits_14, s_X0_fits_17, s_X0_fits_18, s_X0_fits_21, s_X0_fits_22, s_X0_fits_23, s_X0_fits_24, s_X0_fits_27, s_X0_fits_28, s_X0_fits_31, s_X0_fits_32, if_true, if_false, and_true, true_and, and_false, false_and, true_or, or_true, or_false, false_or, eq_self, not_true_eq_false, not_false_eq_true, zv_int, zv_ref, zv_null, zv_none, hK_sI, hF_sI, hJ_sI, hN_sI, hZ_sI, hI_sI_same, hK_sJ, hF_sJ, hI_sJ, hN_sJ, hZ_sJ, hJ_sJ_same, hK_sF, hI_sF, hJ_sF, hN_sF, hZ_sF, Option.bind_some, Option.toList_some, Option.toList_none, List.cons_append, List.nil_append, zq_ref, zq_null, k1, k2, f1, z0, z1, c1, eq_false c2, decide_false]
theorem c_X3_count {x g : Int32} {o : Nat → Nat} {z : Nat → Option Nat} (L : Lay b h) (ho : oC b h o) (hz : sC b h z) (hg : hF h b 8 = .int g) : cal E (d + 3) kX3_count [.ref b, .int x] h = some (some (.int (if x = 0 then nI (cn (qp o) 24 0) else if x = 1 then nI (cn (sp z) 4 0) else if x = 2 then g else -102)), h) := by
  have e1 := c_X3_squaresThere (E := E) (d := d + 1) L ho
  have e2 := c_X3_sheetsThere (E := E) (d := d) L hz
  by_cases c0 : x = 0
  · subst c0
    simp only [e_X3_count, s_X3_count_0, s_X3_count_1_0, s_X3_count_28, s_X3_count_29, s_X3_count_32, if_true, if_false, and_true, true_and, and_false, false_and, true_or, or_true, or_false, false_or, eq_self, not_true_eq_false, not_false_eq_true, zv_int, zv_ref, zv_null, zv_none, hK_sI, hF_sI, hJ_sI, hN_sI, hZ_sI, hI_sI_same, hK_sJ, hF_sJ, hI_sJ, hN_sJ, hZ_sJ, hJ_sJ_same, hK_sF, hI_sF, hJ_sF, hN_sF, hZ_sF, Option.bind_some, Option.toList_some, Option.toList_none, List.cons_append, List.nil_append, zq_ref, zq_null, L.k0, e1]
  · by_cases c1 : x = 1
    · subst c1
      simp (decide := true) only [e_X3_count, s_X3_count_0, s_X3_count_1_1, s_X3_count_33, s_X3_count_34, s_X3_count_37, if_true, if_false, and_true, true_and, and_false, false_and, true_or, or_true, or_false, false_or, eq_self, not_true_eq_false, not_false_eq_true, zv_int, zv_ref, zv_null, zv_none, hK_sI, hF_sI, hJ_sI, hN_sI, hZ_sI, hI_sI_same, hK_sJ, hF_sJ, hI_sJ, hN_sJ, hZ_sJ, hJ_sJ_same, hK_sF, hI_sF, hJ_sF, hN_sF, hZ_sF, Option.bind_some, Option.toList_some, Option.toList_none, List.cons_append, List.nil_append, zq_ref, zq_null, L.k0, e2]
    · by_cases c2 : x = 2
      · subst c2
        simp (decide := true) only [e_X3_count, s_X3_count_0, s_X3_count_1_2, s_X3_count_38, s_X3_count_39, s_X3_count_42, if_true, if_false, and_true, true_and, and_false, false_and, true_or, or_true, or_false, false_or, eq_self, not_true_eq_false, not_false_eq_true, zv_int, zv_ref, zv_null, zv_none, hK_sI, hF_sI, hJ_sI, hN_sI, hZ_sI, hI_sI_same, hK_sJ, hF_sJ, hI_sJ, hN_sJ, hZ_sJ, hJ_sJ_same, hK_sF, hI_sF, hJ_sF, hN_sF, hZ_sF, Option.bind_some, Option.toList_some, Option.toList_none, List.cons_append, List.nil_append, zq_ref, zq_null, L.k0, hg]
      · have hx : x.toInt < 0 ∨ 2 < x.toInt := by
          have a0 : x.toInt ≠ 0 := fun q => c0 (Int32.toInt_inj.1 (by rw [q]; rfl))
          have a1 : x.toInt ≠ 1 := fun q => c1 (Int32.toInt_inj.1 (by rw [q]; rfl))
          have a2 : x.toInt ≠ 2 := fun q => c2 (Int32.toInt_inj.1 (by rw [q]; rfl))
          omega
        rw [e_X3_count, s_X3_count_0, s_X3_count_1_d hx]
        simp only [s_X3_count_43, s_X3_count_45, if_true, if_false, and_true, true_and, and_false, false_and, true_or, or_true, or_false, false_or, eq_self, not_true_eq_false, not_false_eq_true, zv_int, zv_ref, zv_null, zv_none, hK_sI, hF_sI, hJ_sI, hN_sI, hZ_sI, hI_sI_same, hK_sJ, hF_sJ, hI_sJ, hN_sJ, hZ_sJ, hJ_sJ_same, hK_sF, hI_sF, hJ_sF, hN_sF, hZ_sF, Option.bind_some, Option.toList_some, Option.toList_none, List.cons_append, List.nil_append, zq_ref, zq_null, c0, c1, c2]
end
