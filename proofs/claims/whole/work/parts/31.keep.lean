/-! ===== what is kept ===== -/
section
variable {E : mE} {d : Nat} {h : mH} {b : Nat}
/-- the orders of the class's squares -/
def oC (b : Nat) (h : mH) (o : Nat → Nat) : Prop := ∀ q, q < 24 → hF h (aQ b q) 1 = .int (nI (o q)) ∧ o q ≤ 12
/-- the least free one of k from i on -/
def fr (o : Nat → Nat) : Nat → Nat → Option Nat := fs (fun q => decide (o q = 0))
theorem fs_some {p : Nat → Bool} : ∀ {k i q : Nat}, fs p k i = some q → i ≤ q ∧ q < i + k ∧ p q = true
  | 0, i, q, e => by cases e
  | k + 1, i, q, e => by
    unfold fs at e
    cases hp : p i with
    | true => rw [hp] at e; cases e; exact ⟨Nat.le_refl _, by omega, hp⟩
    | false =>
      rw [hp] at e
      have := fs_some (p := p) (k := k) (i := i + 1) e
      exact ⟨by omega, by omega, this.2.2⟩
/-- the square q becomes the draft -/
def kept (b : Nat) (h : mH) (q : Nat) (n : Nat) : mH := sI (sF h (aQ b q) 1 (.int (nI n))) (aR b q) (va_cpy (hI h (b + 4)) (hI h (aR b q)) 0 0 144)
def keptR (b : Nat) (h : mH) (n : Nat) (x : Option Nat) : Option mR := match x with
  | some q => some (some (.int (nI q)), kept b h q n)
  | none => some (some (.int (-104)), h)
theorem lp_keep {n : Nat} {o : Nat → Nat} (L : Lay b h) (ho : oC b h o) (hd : hF h (b + 3) 1 = .int (nI n)) : ∀ k q, q + k = 24 → zl E (d + 1) kX3_keepDraft 18 [some (.ref b), some (.int (nI q))] [] h = keptR b h n (fr o k q)
  | 0, q, e => by
    have : q = 24 := by omega
    subst this
    rw [s_X3_keepDraft_18]
    simp (decide := true) only [s_X3_keepDraft_0, s_X3_keepDraft_1, s_X3_keepDraft_4, s_X3_keepDraft_7, s_X3_keepDraft_10, s_X3_keepDraft_11, s_X3_keepDraft_12, s_X3_keepDraft_15, s_X3_keepDraft_16, s_X3_keepDraft_17, s_X3_keepDraft_19, s_X3_keepDraft_21, s_X3_keepDraft_24, s_X3_keepDraft_25, s_X3_keepDraft_28, s_X3_keepDraft_29, s_X3_keepDraft_30, s_X3_keepDraft_33, s_X3_keepDraft_34, s_X3_keepDraft_37, s_X3_keepDraft_38, s_X3_keepDraft_41, s_X3_keepDraft_42, s_X3_keepDraft_43, s_X3_keepDraft_44, s_X3_keepDraft_47, s_X3_keepDraft_50, s_X3_keepDraft_51, s_X3_keepDraft_52, s_X3_keepDraft_55, s_X3_keepDraft_58, s_X3_keepDraft_60, if_true, if_false, and_true, true_and, and_false, false_and, true_or, or_true, or_false, false_or, eq_self, not_true_eq_false, not_false_eq_true, zv_int, zv_ref, zv_null, zv_none, hK_sI, hF_sI, hJ_sI, hN_sI, hZ_sI, hI_sI_same, hK_sJ, hF_sJ, hI_sJ, hN_sJ, hZ_sJ, hJ_sJ_same, hK_sF, hI_sF, hJ_sF, hN_sF, hZ_sF, Option.bind_some, Option.toList_some, Option.toList_none, List.cons_append, List.nil_append, zq_ref, zq_null]
    rfl
  | k + 1, q, e => by
    have hq : q < 24 := by omega
    have q1 : ¬ 24 ≤ nI q := nI_ge (b := 24) (by omega) (by decide)
    have z0 : zR (nI q) 24 := zR_to (by decide) hq
    have z1 : (nI q).toNatClampNeg = q := nI_clamp (by omega)
    have hoq := ho q hq
    rw [s_X3_keepDraft_18]
    unfold fr fs
    by_cases c : o q = 0
    · have c1 : ¬ 1 ≤ nI (o q) := by rw [c]; decide
      simp (decide := true) only [s_X3_keepDraft_0, s_X3_keepDraft_1, s_X3_keepDraft_4, s_X3_keepDraft_7, s_X3_keepDraft_10, s_X3_keepDraft_11, s_X3_keepDraft_12, s_X3_keepDraft_15, s_X3_keepDraft_16, s_X3_keepDraft_17, s_X3_keepDraft_19, s_X3_keepDraft_21, s_X3_keepDraft_24, s_X3_keepDraft_25, s_X3_keepDraft_28, s_X3_keepDraft_29, s_X3_keepDraft_30, s_X3_keepDraft_33, s_X3_keepDraft_34, s_X3_keepDraft_37, s_X3_keepDraft_38, s_X3_keepDraft_41, s_X3_keepDraft_42, s_X3_keepDraft_43, s_X3_keepDraft_44, s_X3_keepDraft_47, s_X3_keepDraft_50, s_X3_keepDraft_51, s_X3_keepDraft_52, s_X3_keepDraft_55, s_X3_keepDraft_58, s_X3_keepDraft_60, if_true, if_false, and_true, true_and, and_false, false_and, true_or, or_true, or_false, false_or, eq_self, not_true_eq_false, not_false_eq_true, zv_int, zv_ref, zv_null, zv_none, hK_sI, hF_sI, hJ_sI, hN_sI, hZ_sI, hI_sI_same, hK_sJ, hF_sJ, hI_sJ, hN_sJ, hZ_sJ, hJ_sJ_same, hK_sF, hI_sF, hJ_sF, hN_sF, hZ_sF, Option.bind_some, Option.toList_some, Option.toList_none, List.cons_append, List.nil_append, zq_ref, zq_null, L.k0, L.p0_1, L.p0_2, L.k2, L.p2 hq, L.kQ hq, L.k3, z0, z1, q1, hoq.1, c1, c_X2_become (L.kQ hq) (L.kR hq) (L.pQ hq) L.k3 L.k4 L.p3_0 hd, c, decide_true, cond_true]
      rfl
    · have c1 : 1 ≤ nI (o q) := nI_le (a := 1) (by omega) (by omega)
      simp (decide := true) only [s_X3_keepDraft_0, s_X3_keepDraft_1, s_X3_keepDraft_4, s_X3_keepDraft_7, s_X3_keepDraft_10, s_X3_keepDraft_11, s_X3_keepDraft_12, s_X3_keepDraft_15, s_X3_keepDraft_16, s_X3_keepDraft_17, s_X3_keepDraft_19, s_X3_keepDraft_21, s_X3_keepDraft_24, s_X3_keepDraft_25, s_X3_keepDraft_28, s_X3_keepDraft_29, s_X3_keepDraft_30, s_X3_keepDraft_33, s_X3_keepDraft_34, s_X3_keepDraft_37, s_X3_keepDraft_38, s_X3_keepDraft_41, s_X3_keepDraft_42, s_X3_keepDraft_43, s_X3_keepDraft_44, s_X3_keepDraft_47, s_X3_keepDraft_50, s_X3_keepDraft_51, s_X3_keepDraft_52, s_X3_keepDraft_55, s_X3_keepDraft_58, s_X3_keepDraft_60, if_true, if_false, and_true, true_and, and_false, false_and, true_or, or_true, or_false, false_or, eq_self, not_true_eq_false, not_false_eq_true, zv_int, zv_ref, zv_null, zv_none, hK_sI, hF_sI, hJ_sI, hN_sI, hZ_sI, hI_sI_same, hK_sJ, hF_sJ, hI_sJ, hN_sJ, hZ_sJ, hJ_sJ_same, hK_sF, hI_sF, hJ_sF, hN_sF, hZ_sF, Option.bind_some, Option.toList_some, Option.toList_none, List.cons_append, List.nil_append, zq_ref, zq_null, L.k0, L.p0_1, L.p0_2, L.k2, L.p2 hq, L.kQ hq, L.k3, z0, z1, q1, hoq.1, c1, c, decide_false, cond_false, nI_1]
      exact lp_keep L ho hd k (q + 1) (by omega)
/-- a cause, in the class -/
def blm (b : Nat) (h : mH) (c : Nat) : mH := sI (sF h b 7 (.int (nI c))) (b + 13) (upd (hI h (b + 13)) c (hI h (b + 13) c + 1))
theorem c_X3_keepDraft {n : Nat} {o : Nat → Nat} (L : Lay b h) (ho : oC b h o) (hd : hF h (b + 3) 1 = .int (nI n)) (hn : n ≤ 12) : cal E (d + 2) kX3_keepDraft [.ref b] h = if an (grp (hI h (b + 4))) (n * n) 0 = true then some (some (.int (-15)), blm b h 5) else keptR b h n (fr o 24 0) := by
  have e1 := c_X2_isGreat (E := E) (d := d) L.k3 L.k4 L.p3_0 hd hn
  have e2 := c_X3_blame (E := E) (d := d) (c := 5) L (by decide) (by decide)
  have n5 : nI 5 = 5 := rfl
  have n15 : (-10 : Int32) - 5 = -15 := by decide
  have := lp_keep (E := E) (d := d) L ho hd 24 0 (by omega)
  cases hg : an (grp (hI h (b + 4))) (n * n) 0 with
  | true =>
    rw [hg] at e1
    simp only [n5, n15] at e2
    simp (decide := true) only [e_X3_keepDraft, s_X3_keepDraft_0, s_X3_keepDraft_1, s_X3_keepDraft_4, s_X3_keepDraft_7, s_X3_keepDraft_10, s_X3_keepDraft_11, s_X3_keepDraft_12, s_X3_keepDraft_15, s_X3_keepDraft_16, s_X3_keepDraft_17, s_X3_keepDraft_19, s_X3_keepDraft_21, s_X3_keepDraft_24, s_X3_keepDraft_25, s_X3_keepDraft_28, s_X3_keepDraft_29, s_X3_keepDraft_30, s_X3_keepDraft_33, s_X3_keepDraft_34, s_X3_keepDraft_37, s_X3_keepDraft_38, s_X3_keepDraft_41, s_X3_keepDraft_42, s_X3_keepDraft_43, s_X3_keepDraft_44, s_X3_keepDraft_47, s_X3_keepDraft_50, s_X3_keepDraft_51, s_X3_keepDraft_52, s_X3_keepDraft_55, s_X3_keepDraft_58, s_X3_keepDraft_60, if_true, if_false, and_true, true_and, and_false, false_and, true_or, or_true, or_false, false_or, eq_self, not_true_eq_false, not_false_eq_true, zv_int, zv_ref, zv_null, zv_none, hK_sI, hF_sI, hJ_sI, hN_sI, hZ_sI, hI_sI_same, hK_sJ, hF_sJ, hI_sJ, hN_sJ, hZ_sJ, hJ_sJ_same, hK_sF, hI_sF, hJ_sF, hN_sF, hZ_sF, Option.bind_some, Option.toList_some, Option.toList_none, List.cons_append, List.nil_append, zq_ref, zq_null, L.k0, L.p0_2, L.k3, e1, e2]
    rfl
  | false =>
    rw [hg] at e1
    simp (decide := true) only [e_X3_keepDraft, s_X3_keepDraft_0, s_X3_keepDraft_1, s_X3_keepDraft_4, s_X3_keepDraft_7, s_X3_keepDraft_10, s_X3_keepDraft_11, s_X3_keepDraft_12, s_X3_keepDraft_15, s_X3_keepDraft_16, s_X3_keepDraft_17, s_X3_keepDraft_19, s_X3_keepDraft_21, s_X3_keepDraft_24, s_X3_keepDraft_25, s_X3_keepDraft_28, s_X3_keepDraft_29, s_X3_keepDraft_30, s_X3_keepDraft_33, s_X3_keepDraft_34, s_X3_keepDraft_37, s_X3_keepDraft_38, s_X3_keepDraft_41, s_X3_keepDraft_42, s_X3_keepDraft_43, s_X3_keepDraft_44, s_X3_keepDraft_47, s_X3_keepDraft_50, s_X3_keepDraft_51, s_X3_keepDraft_52, s_X3_keepDraft_55, s_X3_keepDraft_58, s_X3_keepDraft_60, if_true, if_false, and_true, true_and, and_false, false_and, true_or, or_true, or_false, false_or, eq_self, not_true_eq_false, not_false_eq_true, zv_int, zv_ref, zv_null, zv_none, hK_sI, hF_sI, hJ_sI, hN_sI, hZ_sI, hI_sI_same, hK_sJ, hF_sJ, hI_sJ, hN_sJ, hZ_sJ, hJ_sJ_same, hK_sF, hI_sF, hJ_sF, hN_sF, hZ_sF, Option.bind_some, Option.toList_some, Option.toList_none, List.cons_append, List.nil_append, zq_ref, zq_null, L.k0, L.p0_2, L.k3, e1]
    exact this
-- the reference's
def oM (b : Nat) (h : mH) (o : Nat → Nat) : Prop := ∀ q, q < 24 → hI h (b + 76) q = nI (o q) ∧ o q ≤ 12
def grl (g : Nat → Int64) (p : Nat) : Bool := decide (¬ ((-100000 : Int64) ≤ g p ∧ g p ≤ 100000))
/-- a cause, in the reference -/
def mts (b : Nat) (h : mH) (c : Nat) : mH := sI (sF h (b + 70) 0 (.int (nI c))) (b + 71) (upd (hI h (b + 71)) c (hI h (b + 71) c + 1))
theorem lp_com1 {n : Nat} (L : Lay b h) (hs : hF h (b + 70) 8 = .int (nI n)) (hn : n ≤ 12) : ∀ k p, p + k = n * n → zl E (d + 1) kX4_comes 2 [some (.ref (b + 70)), some (.int (nI p)), none] [] h = if an (grl (hJ h (b + 78))) k p = true then some (some (.int (-15)), mts b h 5) else zl E (d + 1) kX4_comes 45 [some (.ref (b + 70)), some (.int (nI (n * n))), none] [] h
  | 0, p, e => by
    have : p = n * n := by omega
    subst this
    rw [s_X4_comes_2]
    simp (decide := true) only [s_X4_comes_0, s_X4_comes_1, s_X4_comes_3, s_X4_comes_4, s_X4_comes_7, s_X4_comes_8, s_X4_comes_11, s_X4_comes_12, s_X4_comes_15, s_X4_comes_16, s_X4_comes_19, s_X4_comes_20, s_X4_comes_21, s_X4_comes_24, s_X4_comes_27, s_X4_comes_30, s_X4_comes_33, s_X4_comes_34, s_X4_comes_35, s_X4_comes_38, s_X4_comes_39, s_X4_comes_42, s_X4_comes_46, s_X4_comes_48, s_X4_comes_50, s_X4_comes_53, s_X4_comes_54, s_X4_comes_57, s_X4_comes_58, s_X4_comes_59, s_X4_comes_62, s_X4_comes_65, s_X4_comes_68, s_X4_comes_69, s_X4_comes_71, s_X4_comes_74, s_X4_comes_76, s_X4_comes_77, s_X4_comes_78, s_X4_comes_81, s_X4_comes_82, s_X4_comes_83, s_X4_comes_86, s_X4_comes_87, s_X4_comes_88, s_X4_comes_90, s_X4_comes_91, s_X4_comes_94, s_X4_comes_95, s_X4_comes_98, s_X4_comes_99, s_X4_comes_102, s_X4_comes_103, s_X4_comes_106, s_X4_comes_109, s_X4_comes_110, s_X4_comes_111, s_X4_comes_112, s_X4_comes_113, s_X4_comes_114, s_X4_comes_117, s_X4_comes_118, s_X4_comes_119, s_X4_comes_120, s_X4_comes_121, s_X4_comes_124, s_X4_comes_127, s_X4_comes_128, if_true, if_false, and_true, true_and, and_false, false_and, true_or, or_true, or_false, false_or, eq_self, not_true_eq_false, not_false_eq_true, zv_int, zv_ref, zv_null, zv_none, hK_sI, hF_sI, hJ_sI, hN_sI, hZ_sI, hI_sI_same, hK_sJ, hF_sJ, hI_sJ, hN_sJ, hZ_sJ, hJ_sJ_same, hK_sF, hI_sF, hJ_sF, hN_sF, hZ_sF, Option.bind_some, Option.toList_some, Option.toList_none, List.cons_append, List.nil_append, zq_ref, zq_null, L.k70, hs, pk_mul, Int32.le_refl, an]
  | k + 1, p, e => by
    have qn : n * n ≤ 144 := Nat.mul_le_mul hn hn
    have q1 : ¬ nI (n * n) ≤ nI p := nI_ge (by omega) (by omega)
    have z0 : zR (nI p) 144 := zR_to (by decide) (by omega)
    have z1 : (nI p).toNatClampNeg = p := nI_clamp (by omega)
    have e2 := c_X4_meets (E := E) (d := d) (c := 5) L (by decide)
    have n5 : nI 5 = 5 := rfl
    have n15 : (-10 : Int32) - 5 = -15 := by decide
    simp only [n5, n15] at e2
    have ih := lp_com1 L hs hn k (p + 1) (by omega)
    rw [s_X4_comes_2]
    unfold an grl
    by_cases c : (-100000 : Int64) ≤ hJ h (b + 78) p ∧ hJ h (b + 78) p ≤ 100000
    · simp (decide := true) only [s_X4_comes_0, s_X4_comes_1, s_X4_comes_3, s_X4_comes_4, s_X4_comes_7, s_X4_comes_8, s_X4_comes_11, s_X4_comes_12, s_X4_comes_15, s_X4_comes_16, s_X4_comes_19, s_X4_comes_20, s_X4_comes_21, s_X4_comes_24, s_X4_comes_27, s_X4_comes_30, s_X4_comes_33, s_X4_comes_34, s_X4_comes_35, s_X4_comes_38, s_X4_comes_39, s_X4_comes_42, s_X4_comes_46, s_X4_comes_48, s_X4_comes_50, s_X4_comes_53, s_X4_comes_54, s_X4_comes_57, s_X4_comes_58, s_X4_comes_59, s_X4_comes_62, s_X4_comes_65, s_X4_comes_68, s_X4_comes_69, s_X4_comes_71, s_X4_comes_74, s_X4_comes_76, s_X4_comes_77, s_X4_comes_78, s_X4_comes_81, s_X4_comes_82, s_X4_comes_83, s_X4_comes_86, s_X4_comes_87, s_X4_comes_88, s_X4_comes_90, s_X4_comes_91, s_X4_comes_94, s_X4_comes_95, s_X4_comes_98, s_X4_comes_99, s_X4_comes_102, s_X4_comes_103, s_X4_comes_106, s_X4_comes_109, s_X4_comes_110, s_X4_comes_111, s_X4_comes_112, s_X4_comes_113, s_X4_comes_114, s_X4_comes_117, s_X4_comes_118, s_X4_comes_119, s_X4_comes_120, s_X4_comes_121, s_X4_comes_124, s_X4_comes_127, s_X4_comes_128, if_true, if_false, and_true, true_and, and_false, false_and, true_or, or_true, or_false, false_or, eq_self, not_true_eq_false, not_false_eq_true, zv_int, zv_ref, zv_null, zv_none, hK_sI, hF_sI, hJ_sI, hN_sI, hZ_sI, hI_sI_same, hK_sJ, hF_sJ, hI_sJ, hN_sJ, hZ_sJ, hJ_sJ_same, hK_sF, hI_sF, hJ_sF, hN_sF, hZ_sF, Option.bind_some, Option.toList_some, Option.toList_none, List.cons_append, List.nil_append, zq_ref, zq_null, L.k70, L.p70_9, L.k78, hs, pk_mul, q1, z0, z1, c_X4_in, c, nI_1, decide_false, Bool.false_or]
      exact ih
    · simp (decide := true) only [s_X4_comes_0, s_X4_comes_1, s_X4_comes_3, s_X4_comes_4, s_X4_comes_7, s_X4_comes_8, s_X4_comes_11, s_X4_comes_12, s_X4_comes_15, s_X4_comes_16, s_X4_comes_19, s_X4_comes_20, s_X4_comes_21, s_X4_comes_24, s_X4_comes_27, s_X4_comes_30, s_X4_comes_33, s_X4_comes_34, s_X4_comes_35, s_X4_comes_38, s_X4_comes_39, s_X4_comes_42, s_X4_comes_46, s_X4_comes_48, s_X4_comes_50, s_X4_comes_53, s_X4_comes_54, s_X4_comes_57, s_X4_comes_58, s_X4_comes_59, s_X4_comes_62, s_X4_comes_65, s_X4_comes_68, s_X4_comes_69, s_X4_comes_71, s_X4_comes_74, s_X4_comes_76, s_X4_comes_77, s_X4_comes_78, s_X4_comes_81, s_X4_comes_82, s_X4_comes_83, s_X4_comes_86, s_X4_comes_87, s_X4_comes_88, s_X4_comes_90, s_X4_comes_91, s_X4_comes_94, s_X4_comes_95, s_X4_comes_98, s_X4_comes_99, s_X4_comes_102, s_X4_comes_103, s_X4_comes_106, s_X4_comes_109, s_X4_comes_110, s_X4_comes_111, s_X4_comes_112, s_X4_comes_113, s_X4_comes_114, s_X4_comes_117, s_X4_comes_118, s_X4_comes_119, s_X4_comes_120, s_X4_comes_121, s_X4_comes_124, s_X4_comes_127, s_X4_comes_128, if_true, if_false, and_true, true_and, and_false, false_and, true_or, or_true, or_false, false_or, eq_self, not_true_eq_false, not_false_eq_true, zv_int, zv_ref, zv_null, zv_none, hK_sI, hF_sI, hJ_sI, hN_sI, hZ_sI, hI_sI_same, hK_sJ, hF_sJ, hI_sJ, hN_sJ, hZ_sJ, hJ_sJ_same, hK_sF, hI_sF, hJ_sF, hN_sF, hZ_sF, Option.bind_some, Option.toList_some, Option.toList_none, List.cons_append, List.nil_append, zq_ref, zq_null, L.k70, L.p70_9, L.k78, hs, pk_mul, q1, z0, z1, c_X4_in, c, e2, decide_true, Bool.true_or]
      rfl
theorem lp_com2 {n : Nat} {o : Nat → Nat} (L : Lay b h) (ho : oM b h o) {v2 : Option Value} : ∀ k q, q + k = 24 → zl E d kX4_comes 47 [some (.ref (b + 70)), some (.int (nI q)), v2] [] h = zl E d kX4_comes 68 [some (.ref (b + 70)), some (.int (match fr o k q with
      | some x => nI x
      | none => 24)), v2] [] h
  | 0, q, e => by
    have : q = 24 := by omega
    subst this
    rw [s_X4_comes_47]
    simp (decide := true) only [s_X4_comes_0, s_X4_comes_1, s_X4_comes_3, s_X4_comes_4, s_X4_comes_7, s_X4_comes_8, s_X4_comes_11, s_X4_comes_12, s_X4_comes_15, s_X4_comes_16, s_X4_comes_19, s_X4_comes_20, s_X4_comes_21, s_X4_comes_24, s_X4_comes_27, s_X4_comes_30, s_X4_comes_33, s_X4_comes_34, s_X4_comes_35, s_X4_comes_38, s_X4_comes_39, s_X4_comes_42, s_X4_comes_45, s_X4_comes_46, s_X4_comes_48, s_X4_comes_50, s_X4_comes_53, s_X4_comes_54, s_X4_comes_57, s_X4_comes_58, s_X4_comes_59, s_X4_comes_62, s_X4_comes_65, s_X4_comes_69, s_X4_comes_71, s_X4_comes_74, s_X4_comes_76, s_X4_comes_77, s_X4_comes_78, s_X4_comes_81, s_X4_comes_82, s_X4_comes_83, s_X4_comes_86, s_X4_comes_87, s_X4_comes_88, s_X4_comes_90, s_X4_comes_91, s_X4_comes_94, s_X4_comes_95, s_X4_comes_98, s_X4_comes_99, s_X4_comes_102, s_X4_comes_103, s_X4_comes_106, s_X4_comes_109, s_X4_comes_110, s_X4_comes_111, s_X4_comes_112, s_X4_comes_113, s_X4_comes_114, s_X4_comes_117, s_X4_comes_118, s_X4_comes_119, s_X4_comes_120, s_X4_comes_121, s_X4_comes_124, s_X4_comes_127, s_X4_comes_128, if_true, if_false, and_true, true_and, and_false, false_and, true_or, or_true, or_false, false_or, eq_self, not_true_eq_false, not_false_eq_true, zv_int, zv_ref, zv_null, zv_none, hK_sI, hF_sI, hJ_sI, hN_sI, hZ_sI, hI_sI_same, hK_sJ, hF_sJ, hI_sJ, hN_sJ, hZ_sJ, hJ_sJ_same, hK_sF, hI_sF, hJ_sF, hN_sF, hZ_sF, Option.bind_some, Option.toList_some, Option.toList_none, List.cons_append, List.nil_append, zq_ref, zq_null, fr, fs]
    rfl
  | k + 1, q, e => by
    have hq : q < 24 := by omega
    have q1 : ¬ 24 ≤ nI q := nI_ge (b := 24) (by omega) (by decide)
    have z0 : zR (nI q) 24 := zR_to (by decide) hq
    have z1 : (nI q).toNatClampNeg = q := nI_clamp (by omega)
    have hoq := ho q hq
    have ih := lp_com2 (n := n) L ho (v2 := v2) k (q + 1) (by omega)
    rw [s_X4_comes_47]
    unfold fr fs
    by_cases c : o q = 0
    · have c1 : nI (o q) ≤ 0 := by rw [c]; decide
      simp (decide := true) only [s_X4_comes_0, s_X4_comes_1, s_X4_comes_3, s_X4_comes_4, s_X4_comes_7, s_X4_comes_8, s_X4_comes_11, s_X4_comes_12, s_X4_comes_15, s_X4_comes_16, s_X4_comes_19, s_X4_comes_20, s_X4_comes_21, s_X4_comes_24, s_X4_comes_27, s_X4_comes_30, s_X4_comes_33, s_X4_comes_34, s_X4_comes_35, s_X4_comes_38, s_X4_comes_39, s_X4_comes_42, s_X4_comes_45, s_X4_comes_46, s_X4_comes_48, s_X4_comes_50, s_X4_comes_53, s_X4_comes_54, s_X4_comes_57, s_X4_comes_58, s_X4_comes_59, s_X4_comes_62, s_X4_comes_65, s_X4_comes_69, s_X4_comes_71, s_X4_comes_74, s_X4_comes_76, s_X4_comes_77, s_X4_comes_78, s_X4_comes_81, s_X4_comes_82, s_X4_comes_83, s_X4_comes_86, s_X4_comes_87, s_X4_comes_88, s_X4_comes_90, s_X4_comes_91, s_X4_comes_94, s_X4_comes_95, s_X4_comes_98, s_X4_comes_99, s_X4_comes_102, s_X4_comes_103, s_X4_comes_106, s_X4_comes_109, s_X4_comes_110, s_X4_comes_111, s_X4_comes_112, s_X4_comes_113, s_X4_comes_114, s_X4_comes_117, s_X4_comes_118, s_X4_comes_119, s_X4_comes_120, s_X4_comes_121, s_X4_comes_124, s_X4_comes_127, s_X4_comes_128, if_true, if_false, and_true, true_and, and_false, false_and, true_or, or_true, or_false, false_or, eq_self, not_true_eq_false, not_false_eq_true, zv_int, zv_ref, zv_null, zv_none, hK_sI, hF_sI, hJ_sI, hN_sI, hZ_sI, hI_sI_same, hK_sJ, hF_sJ, hI_sJ, hN_sJ, hZ_sJ, hJ_sJ_same, hK_sF, hI_sF, hJ_sF, hN_sF, hZ_sF, Option.bind_some, Option.toList_some, Option.toList_none, List.cons_append, List.nil_append, zq_ref, zq_null, L.k70, L.p70_6, L.k76, z0, z1, q1, hoq.1, c1, c, decide_true, cond_true]
    · have c1 : ¬ nI (o q) ≤ 0 := nI_nle (by omega) (by omega)
      simp (decide := true) only [s_X4_comes_0, s_X4_comes_1, s_X4_comes_3, s_X4_comes_4, s_X4_comes_7, s_X4_comes_8, s_X4_comes_11, s_X4_comes_12, s_X4_comes_15, s_X4_comes_16, s_X4_comes_19, s_X4_comes_20, s_X4_comes_21, s_X4_comes_24, s_X4_comes_27, s_X4_comes_30, s_X4_comes_33, s_X4_comes_34, s_X4_comes_35, s_X4_comes_38, s_X4_comes_39, s_X4_comes_42, s_X4_comes_45, s_X4_comes_46, s_X4_comes_48, s_X4_comes_50, s_X4_comes_53, s_X4_comes_54, s_X4_comes_57, s_X4_comes_58, s_X4_comes_59, s_X4_comes_62, s_X4_comes_65, s_X4_comes_69, s_X4_comes_71, s_X4_comes_74, s_X4_comes_76, s_X4_comes_77, s_X4_comes_78, s_X4_comes_81, s_X4_comes_82, s_X4_comes_83, s_X4_comes_86, s_X4_comes_87, s_X4_comes_88, s_X4_comes_90, s_X4_comes_91, s_X4_comes_94, s_X4_comes_95, s_X4_comes_98, s_X4_comes_99, s_X4_comes_102, s_X4_comes_103, s_X4_comes_106, s_X4_comes_109, s_X4_comes_110, s_X4_comes_111, s_X4_comes_112, s_X4_comes_113, s_X4_comes_114, s_X4_comes_117, s_X4_comes_118, s_X4_comes_119, s_X4_comes_120, s_X4_comes_121, s_X4_comes_124, s_X4_comes_127, s_X4_comes_128, if_true, if_false, and_true, true_and, and_false, false_and, true_or, or_true, or_false, false_or, eq_self, not_true_eq_false, not_false_eq_true, zv_int, zv_ref, zv_null, zv_none, hK_sI, hF_sI, hJ_sI, hN_sI, hZ_sI, hI_sI_same, hK_sJ, hF_sJ, hI_sJ, hN_sJ, hZ_sJ, hJ_sJ_same, hK_sF, hI_sF, hJ_sF, hN_sF, hZ_sF, Option.bind_some, Option.toList_some, Option.toList_none, List.cons_append, List.nil_append, zq_ref, zq_null, L.k70, L.p70_6, L.k76, z0, z1, q1, hoq.1, c1, c, decide_false, cond_false, nI_1]
      exact ih
/-- the first i of the body's row q from the row at hand -/
def bdy (g : Nat → Int64) (f : Nat → Int32) (q i : Nat) : Nat → Int32 := fun x => if 144 * q ≤ x ∧ x < 144 * q + i then (g (x - 144 * q)).toInt32 else f x
theorem bdy_0 (g : Nat → Int64) (f : Nat → Int32) (q : Nat) : bdy g f q 0 = f := by
  funext x
  unfold bdy
  rw [if_neg (by omega)]
theorem bdy_s (g : Nat → Int64) (f : Nat → Int32) (q i : Nat) : upd (bdy g f q i) (144 * q + i) (g i).toInt32 = bdy g f q (i + 1) := by
  funext x
  unfold upd bdy
  by_cases c : x = 144 * q + i
  · subst c
    rw [if_pos rfl, if_pos (by omega), Nat.add_sub_cancel_left]
  · rw [if_neg c]
    by_cases c2 : 144 * q ≤ x ∧ x < 144 * q + i
    · rw [if_pos c2, if_pos (by omega)]
    · rw [if_neg c2, if_neg (by omega)]
theorem lp_com3 {q n : Nat} (L : Lay b h) (hq : q < 24) (hs : hF h (b + 70) 8 = .int (nI n)) (hn : n ≤ 12) {f : Nat → Int32} : ∀ k p, p + k = n * n → zl E d kX4_comes 89 [some (.ref (b + 70)), some (.int (nI q)), some (.int (nI p))] [] (sI h (b + 77) (bdy (hJ h (b + 78)) f q p)) = some (some (.int (nI q)), sI h (b + 77) (bdy (hJ h (b + 78)) f q (n * n)))
  | 0, p, e => by
    have : p = n * n := by omega
    subst this
    rw [s_X4_comes_89]
    simp (decide := true) only [s_X4_comes_0, s_X4_comes_1, s_X4_comes_3, s_X4_comes_4, s_X4_comes_7, s_X4_comes_8, s_X4_comes_11, s_X4_comes_12, s_X4_comes_15, s_X4_comes_16, s_X4_comes_19, s_X4_comes_20, s_X4_comes_21, s_X4_comes_24, s_X4_comes_27, s_X4_comes_30, s_X4_comes_33, s_X4_comes_34, s_X4_comes_35, s_X4_comes_38, s_X4_comes_39, s_X4_comes_42, s_X4_comes_45, s_X4_comes_46, s_X4_comes_48, s_X4_comes_50, s_X4_comes_53, s_X4_comes_54, s_X4_comes_57, s_X4_comes_58, s_X4_comes_59, s_X4_comes_62, s_X4_comes_65, s_X4_comes_68, s_X4_comes_69, s_X4_comes_71, s_X4_comes_74, s_X4_comes_76, s_X4_comes_77, s_X4_comes_78, s_X4_comes_81, s_X4_comes_82, s_X4_comes_83, s_X4_comes_86, s_X4_comes_87, s_X4_comes_88, s_X4_comes_90, s_X4_comes_91, s_X4_comes_94, s_X4_comes_95, s_X4_comes_98, s_X4_comes_99, s_X4_comes_102, s_X4_comes_103, s_X4_comes_106, s_X4_comes_109, s_X4_comes_110, s_X4_comes_111, s_X4_comes_112, s_X4_comes_113, s_X4_comes_114, s_X4_comes_117, s_X4_comes_118, s_X4_comes_119, s_X4_comes_120, s_X4_comes_121, s_X4_comes_124, s_X4_comes_127, s_X4_comes_128, if_true, if_false, and_true, true_and, and_false, false_and, true_or, or_true, or_false, false_or, eq_self, not_true_eq_false, not_false_eq_true, zv_int, zv_ref, zv_null, zv_none, hK_sI, hF_sI, hJ_sI, hN_sI, hZ_sI, hI_sI_same, hK_sJ, hF_sJ, hI_sJ, hN_sJ, hZ_sJ, hJ_sJ_same, hK_sF, hI_sF, hJ_sF, hN_sF, hZ_sF, Option.bind_some, Option.toList_some, Option.toList_none, List.cons_append, List.nil_append, zq_ref, zq_null, L.k70, hs, pk_mul, Int32.le_refl]
  | k + 1, p, e => by
    have qn : n * n ≤ 144 := Nat.mul_le_mul hn hn
    have q1 : ¬ nI (n * n) ≤ nI p := nI_ge (by omega) (by omega)
    have z0 : zR (nI p) 144 := zR_to (by decide) (by omega)
    have z1 : (nI p).toNatClampNeg = p := nI_clamp (by omega)
    have e1 : (144 : Int32) * nI q = nI (144 * q) := by rw [show (144 : Int32) = nI 144 from rfl, pk_mul]
    have z2 : zR (nI (144 * q + p)) 3456 := zR_to (by decide) (by omega)
    have z3 : (nI (144 * q + p)).toNatClampNeg = 144 * q + p := nI_clamp (by omega)
    rw [s_X4_comes_89]
    simp (decide := true) only [s_X4_comes_0, s_X4_comes_1, s_X4_comes_3, s_X4_comes_4, s_X4_comes_7, s_X4_comes_8, s_X4_comes_11, s_X4_comes_12, s_X4_comes_15, s_X4_comes_16, s_X4_comes_19, s_X4_comes_20, s_X4_comes_21, s_X4_comes_24, s_X4_comes_27, s_X4_comes_30, s_X4_comes_33, s_X4_comes_34, s_X4_comes_35, s_X4_comes_38, s_X4_comes_39, s_X4_comes_42, s_X4_comes_45, s_X4_comes_46, s_X4_comes_48, s_X4_comes_50, s_X4_comes_53, s_X4_comes_54, s_X4_comes_57, s_X4_comes_58, s_X4_comes_59, s_X4_comes_62, s_X4_comes_65, s_X4_comes_68, s_X4_comes_69, s_X4_comes_71, s_X4_comes_74, s_X4_comes_76, s_X4_comes_77, s_X4_comes_78, s_X4_comes_81, s_X4_comes_82, s_X4_comes_83, s_X4_comes_86, s_X4_comes_87, s_X4_comes_88, s_X4_comes_90, s_X4_comes_91, s_X4_comes_94, s_X4_comes_95, s_X4_comes_98, s_X4_comes_99, s_X4_comes_102, s_X4_comes_103, s_X4_comes_106, s_X4_comes_109, s_X4_comes_110, s_X4_comes_111, s_X4_comes_112, s_X4_comes_113, s_X4_comes_114, s_X4_comes_117, s_X4_comes_118, s_X4_comes_119, s_X4_comes_120, s_X4_comes_121, s_X4_comes_124, s_X4_comes_127, s_X4_comes_128, if_true, if_false, and_true, true_and, and_false, false_and, true_or, or_true, or_false, false_or, eq_self, not_true_eq_false, not_false_eq_true, zv_int, zv_ref, zv_null, zv_none, hK_sI, hF_sI, hJ_sI, hN_sI, hZ_sI, hI_sI_same, hK_sJ, hF_sJ, hI_sJ, hN_sJ, hZ_sJ, hJ_sJ_same, hK_sF, hI_sF, hJ_sF, hN_sF, hZ_sF, Option.bind_some, Option.toList_some, Option.toList_none, List.cons_append, List.nil_append, zq_ref, zq_null, L.k70, L.p70_7, L.p70_9, L.k77, L.k78, hs, pk_mul, q1, z0, z1, e1, nI_add, z2, z3, sI_sI, bdy_s, nI_1]
    exact lp_com3 L hq hs hn k (p + 1) (by omega)
def comsR (b : Nat) (h : mH) (n : Nat) (x : Option Nat) : Option mR := match x with
  | some q => some (some (.int (nI q)), sI (sI h (b + 76) (upd (hI h (b + 76)) q (nI n))) (b + 77) (bdy (hJ h (b + 78)) (hI h (b + 77)) q (n * n)))
  | none => some (some (.int (-104)), h)
theorem c_X4_comes {n : Nat} {o : Nat → Nat} (L : Lay b h) (ho : oM b h o) (hs : hF h (b + 70) 8 = .int (nI n)) (hn : n ≤ 12) : cal E (d + 2) kX4_comes [.ref (b + 70)] h = if an (grl (hJ h (b + 78))) (n * n) 0 = true then some (some (.int (-15)), mts b h 5) else comsR b h n (fr o 24 0) := by
  have e1 := lp_com1 (E := E) (d := d) L hs hn (n * n) 0 (by omega)
  have e2 := lp_com2 (E := E) (d := d + 1) (n := n) L ho (v2 := none) 24 0 (by omega)
  rw [nI_0] at e1 e2
  simp only [e_X4_comes, s_X4_comes_0, s_X4_comes_1, s_X4_comes_3, s_X4_comes_4, s_X4_comes_7, s_X4_comes_8, s_X4_comes_11, s_X4_comes_12, s_X4_comes_15, s_X4_comes_16, s_X4_comes_19, s_X4_comes_20, s_X4_comes_21, s_X4_comes_24, s_X4_comes_27, s_X4_comes_30, s_X4_comes_33, s_X4_comes_34, s_X4_comes_35, s_X4_comes_38, s_X4_comes_39, s_X4_comes_42, s_X4_comes_46, s_X4_comes_48, s_X4_comes_50, s_X4_comes_53, s_X4_comes_54, s_X4_comes_57, s_X4_comes_58, s_X4_comes_59, s_X4_comes_62, s_X4_comes_65, s_X4_comes_68, s_X4_comes_69, s_X4_comes_71, s_X4_comes_74, s_X4_comes_76, s_X4_comes_77, s_X4_comes_78, s_X4_comes_81, s_X4_comes_82, s_X4_comes_83, s_X4_comes_86, s_X4_comes_87, s_X4_comes_88, s_X4_comes_90, s_X4_comes_91, s_X4_comes_94, s_X4_comes_95, s_X4_comes_98, s_X4_comes_99, s_X4_comes_102, s_X4_comes_103, s_X4_comes_106, s_X4_comes_109, s_X4_comes_110, s_X4_comes_111, s_X4_comes_112, s_X4_comes_113, s_X4_comes_114, s_X4_comes_117, s_X4_comes_118, s_X4_comes_119, s_X4_comes_120, s_X4_comes_121, s_X4_comes_124, s_X4_comes_127, s_X4_comes_128, if_true, if_false, and_true, true_and, and_false, false_and, true_or, or_true, or_false, false_or, eq_self, not_true_eq_false, not_false_eq_true, zv_int, zv_ref, zv_null, zv_none, hK_sI, hF_sI, hJ_sI, hN_sI, hZ_sI, hI_sI_same, hK_sJ, hF_sJ, hI_sJ, hN_sJ, hZ_sJ, hJ_sJ_same, hK_sF, hI_sF, hJ_sF, hN_sF, hZ_sF, Option.bind_some, Option.toList_some, Option.toList_none, List.cons_append, List.nil_append, zq_ref, zq_null]
  rw [e1]
  by_cases c : an (grl (hJ h (b + 78))) (n * n) 0 = true
  · rw [if_pos c, if_pos c]
  · rw [if_neg c, if_neg c]
    simp only [s_X4_comes_0, s_X4_comes_1, s_X4_comes_3, s_X4_comes_4, s_X4_comes_7, s_X4_comes_8, s_X4_comes_11, s_X4_comes_12, s_X4_comes_15, s_X4_comes_16, s_X4_comes_19, s_X4_comes_20, s_X4_comes_21, s_X4_comes_24, s_X4_comes_27, s_X4_comes_30, s_X4_comes_33, s_X4_comes_34, s_X4_comes_35, s_X4_comes_38, s_X4_comes_39, s_X4_comes_42, s_X4_comes_45, s_X4_comes_46, s_X4_comes_48, s_X4_comes_50, s_X4_comes_53, s_X4_comes_54, s_X4_comes_57, s_X4_comes_58, s_X4_comes_59, s_X4_comes_62, s_X4_comes_65, s_X4_comes_69, s_X4_comes_71, s_X4_comes_74, s_X4_comes_76, s_X4_comes_77, s_X4_comes_78, s_X4_comes_81, s_X4_comes_82, s_X4_comes_83, s_X4_comes_86, s_X4_comes_87, s_X4_comes_88, s_X4_comes_90, s_X4_comes_91, s_X4_comes_94, s_X4_comes_95, s_X4_comes_98, s_X4_comes_99, s_X4_comes_102, s_X4_comes_103, s_X4_comes_106, s_X4_comes_109, s_X4_comes_110, s_X4_comes_111, s_X4_comes_112, s_X4_comes_113, s_X4_comes_114, s_X4_comes_117, s_X4_comes_118, s_X4_comes_119, s_X4_comes_120, s_X4_comes_121, s_X4_comes_124, s_X4_comes_127, s_X4_comes_128, if_true, if_false, and_true, true_and, and_false, false_and, true_or, or_true, or_false, false_or, eq_self, not_true_eq_false, not_false_eq_true, zv_int, zv_ref, zv_null, zv_none, hK_sI, hF_sI, hJ_sI, hN_sI, hZ_sI, hI_sI_same, hK_sJ, hF_sJ, hI_sJ, hN_sJ, hZ_sJ, hJ_sJ_same, hK_sF, hI_sF, hJ_sF, hN_sF, hZ_sF, Option.bind_some, Option.toList_some, Option.toList_none, List.cons_append, List.nil_append, zq_ref, zq_null]
    rw [e2]
    cases hfr : fr o 24 0 with
    | none =>
      simp (decide := true) only [s_X4_comes_0, s_X4_comes_1, s_X4_comes_3, s_X4_comes_4, s_X4_comes_7, s_X4_comes_8, s_X4_comes_11, s_X4_comes_12, s_X4_comes_15, s_X4_comes_16, s_X4_comes_19, s_X4_comes_20, s_X4_comes_21, s_X4_comes_24, s_X4_comes_27, s_X4_comes_30, s_X4_comes_33, s_X4_comes_34, s_X4_comes_35, s_X4_comes_38, s_X4_comes_39, s_X4_comes_42, s_X4_comes_45, s_X4_comes_46, s_X4_comes_48, s_X4_comes_50, s_X4_comes_53, s_X4_comes_54, s_X4_comes_57, s_X4_comes_58, s_X4_comes_59, s_X4_comes_62, s_X4_comes_65, s_X4_comes_68, s_X4_comes_69, s_X4_comes_71, s_X4_comes_74, s_X4_comes_76, s_X4_comes_77, s_X4_comes_78, s_X4_comes_81, s_X4_comes_82, s_X4_comes_83, s_X4_comes_86, s_X4_comes_87, s_X4_comes_88, s_X4_comes_90, s_X4_comes_91, s_X4_comes_94, s_X4_comes_95, s_X4_comes_98, s_X4_comes_99, s_X4_comes_102, s_X4_comes_103, s_X4_comes_106, s_X4_comes_109, s_X4_comes_110, s_X4_comes_111, s_X4_comes_112, s_X4_comes_113, s_X4_comes_114, s_X4_comes_117, s_X4_comes_118, s_X4_comes_119, s_X4_comes_120, s_X4_comes_121, s_X4_comes_124, s_X4_comes_127, s_X4_comes_128, if_true, if_false, and_true, true_and, and_false, false_and, true_or, or_true, or_false, false_or, eq_self, not_true_eq_false, not_false_eq_true, zv_int, zv_ref, zv_null, zv_none, hK_sI, hF_sI, hJ_sI, hN_sI, hZ_sI, hI_sI_same, hK_sJ, hF_sJ, hI_sJ, hN_sJ, hZ_sJ, hJ_sJ_same, hK_sF, hI_sF, hJ_sF, hN_sF, hZ_sF, Option.bind_some, Option.toList_some, Option.toList_none, List.cons_append, List.nil_append, zq_ref, zq_null]
      rfl
    | some q =>
      have hq : q < 24 := by
        have := (fs_some hfr).2.1
        omega
      have c1 : ¬ nI q = 24 := fun x => by
        have := (nI_eq (a := q) (b := 24) (by omega) (by decide)).mp x
        omega
      have z0 : zR (nI q) 24 := zR_to (by decide) hq
      have z1 : (nI q).toNatClampNeg = q := nI_clamp (by omega)
      have hs' : hF (sI h (b + 76) (upd (hI h (b + 76)) q (nI n))) (b + 70) 8 = .int (nI n) := hs
      have hJ' : hJ (sI h (b + 76) (upd (hI h (b + 76)) q (nI n))) = hJ h := rfl
      have e3 := lp_com3 (E := E) (d := d + 1) (L.sI (b + 76) (upd (hI h (b + 76)) q (nI n))) hq hs' hn (f := hI h (b + 77)) (n * n) 0 (by omega)
      have hi : hI (sI h (b + 76) (upd (hI h (b + 76)) q (nI n))) (b + 77) = hI h (b + 77) := hI_sI_ne h _ (by omega)
      rw [bdy_0, ← hi, sI_self, hi, hJ', nI_0] at e3
      simp (decide := true) only [s_X4_comes_0, s_X4_comes_1, s_X4_comes_3, s_X4_comes_4, s_X4_comes_7, s_X4_comes_8, s_X4_comes_11, s_X4_comes_12, s_X4_comes_15, s_X4_comes_16, s_X4_comes_19, s_X4_comes_20, s_X4_comes_21, s_X4_comes_24, s_X4_comes_27, s_X4_comes_30, s_X4_comes_33, s_X4_comes_34, s_X4_comes_35, s_X4_comes_38, s_X4_comes_39, s_X4_comes_42, s_X4_comes_45, s_X4_comes_46, s_X4_comes_48, s_X4_comes_50, s_X4_comes_53, s_X4_comes_54, s_X4_comes_57, s_X4_comes_58, s_X4_comes_59, s_X4_comes_62, s_X4_comes_65, s_X4_comes_68, s_X4_comes_69, s_X4_comes_71, s_X4_comes_74, s_X4_comes_76, s_X4_comes_77, s_X4_comes_78, s_X4_comes_81, s_X4_comes_82, s_X4_comes_83, s_X4_comes_86, s_X4_comes_87, s_X4_comes_88, s_X4_comes_90, s_X4_comes_91, s_X4_comes_94, s_X4_comes_95, s_X4_comes_98, s_X4_comes_99, s_X4_comes_102, s_X4_comes_103, s_X4_comes_106, s_X4_comes_109, s_X4_comes_110, s_X4_comes_111, s_X4_comes_112, s_X4_comes_113, s_X4_comes_114, s_X4_comes_117, s_X4_comes_118, s_X4_comes_119, s_X4_comes_120, s_X4_comes_121, s_X4_comes_124, s_X4_comes_127, s_X4_comes_128, if_true, if_false, and_true, true_and, and_false, false_and, true_or, or_true, or_false, false_or, eq_self, not_true_eq_false, not_false_eq_true, zv_int, zv_ref, zv_null, zv_none, hK_sI, hF_sI, hJ_sI, hN_sI, hZ_sI, hI_sI_same, hK_sJ, hF_sJ, hI_sJ, hN_sJ, hZ_sJ, hJ_sJ_same, hK_sF, hI_sF, hJ_sF, hN_sF, hZ_sF, Option.bind_some, Option.toList_some, Option.toList_none, List.cons_append, List.nil_append, zq_ref, zq_null, L.k70, L.p70_6, L.k76, c1, z0, z1, hs]
      exact e3
end
