/-! ===== put, copy ===== -/
section
variable {E : mE} {d : Nat} {h h1 h2 : mH} {b : Nat}
/-- the class's test of a stretch -/
theorem hasC {a m : Nat} {i w : Int32} (k1 : hK h a = (11, 3)) (f1 : hF h a 2 = .int (nI m)) (hm : m ≤ 150) : cal E (d + 1) kX1_has [.ref a, .int i, .int w] h = some (some (.int (if 0 ≤ i.toInt ∧ 0 ≤ w.toInt ∧ i.toInt + w.toInt ≤ m then 1 else 0)), h) := by
  rw [c_X1_has k1 f1]
  have e0 : (0 : Int32).toInt = 0 := rfl
  have em : (nI m).toInt = m := nIt (by omega)
  by_cases c1 : i < 0
  · rw [if_pos c1, if_neg (by rw [Int32.lt_iff_toInt_lt] at c1; omega)]
  · rw [if_neg c1]
    by_cases c2 : w < 0
    · rw [if_pos c2, if_neg (by rw [Int32.lt_iff_toInt_lt] at c2; omega)]
    · rw [if_neg c2]
      rw [Int32.lt_iff_toInt_lt] at c1 c2
      by_cases c3 : nI m < i
      · rw [if_pos c3, if_neg (by rw [Int32.lt_iff_toInt_lt] at c3; omega)]
      · rw [if_neg c3]
        rw [Int32.lt_iff_toInt_lt] at c3
        have es : (nI m - i).toInt = m - i.toInt := by rw [su32 (by omega), em]
        by_cases c4 : nI m - i < w
        · rw [if_pos c4, if_neg (by rw [Int32.lt_iff_toInt_lt] at c4; omega)]
        · rw [if_neg c4, if_pos (by rw [Int32.lt_iff_toInt_lt] at c4; omega)]
/-- the reference's test of 0 to N - 1, N may be 0 -/
theorem inI0 {N : Nat} (hN : N ≤ 1000) (x : Int32) : cal E (d + 1) kX4_in [.long x.toInt64, .long 0, .long (nI N - 1).toInt64] h = some (some (.int (if 0 ≤ x.toInt ∧ x.toInt < N then 1 else 0)), h) := by
  rw [c_X4_in]
  have e0 : (0 : Int64) = (0 : Int32).toInt64 := rfl
  have z0 : (0 : Int32).toInt = 0 := rfl
  have z1 : (1 : Int32).toInt = 1 := rfl
  have em : (nI N).toInt = N := nIt (by omega)
  have es : (nI N - 1).toInt = N - 1 := by rw [su32 (by omega), em, z1]
  have j1 : ((0 : Int64) ≤ x.toInt64) ↔ 0 ≤ x.toInt := by rw [e0, i64_le, Int32.le_iff_toInt_le, z0]
  have j2 : (x.toInt64 ≤ (nI N - 1).toInt64) ↔ x.toInt < N := by rw [i64_le, Int32.le_iff_toInt_le, es]; omega
  by_cases c1 : 0 ≤ x.toInt <;> by_cases c2 : x.toInt < N <;> simp [j1, j2, c1, c2]
/-- a sum of longs that is compared -/
theorem lgS {i w : Int32} {m : Nat} (hm : m ≤ 1000) : (i.toInt64 + w.toInt64).toInt = i.toInt + w.toInt := by
  have a1 := i.toInt_lt
  have a2 := i.le_toInt
  have b1 := w.toInt_lt
  have b2 := w.le_toInt
  rw [ad64 (by rw [t64, t64]; omega), t64, t64]
theorem lgA {i w : Int32} {m : Nat} (hm : m ≤ 1000) : lg_cmp (i.toInt64 + w.toInt64) (nI m).toInt64 ≤ 0 ↔ i.toInt + w.toInt ≤ m := by
  rw [lg_le, Int64.lt_iff_toInt_lt, lgS hm, t64, nIt (by omega)]
  omega
theorem lgB {i w : Int32} {m : Nat} (hm : m ≤ 1000) : 0 < lg_cmp (i.toInt64 + w.toInt64) (nI m).toInt64 ↔ ¬ i.toInt + w.toInt ≤ m := by
  rw [lg_cmp_gt, Int64.lt_iff_toInt_lt, lgS hm, t64, nIt (by omega)]
  omega
/-- an int that is not below 0 is a number -/
theorem natOf {x : Int32} (h0 : 0 ≤ x.toInt) : x = nI x.toInt.toNat := by
  have := x.toInt_lt
  apply Int32.toInt_inj.1
  rw [nIt (by omega)]
  omega
/-- a sheet's row is written on both sides -/
theorem Rel_row {H : mH} {o : Nat → Nat} {z : Nat → Option Nat} {k : Nat} (R : Rel b o z h) (hk : k < 4) (LH : Lay b H) (nI_ : ∀ a, a ≠ aT b k → a ≠ b + 74 → a ≠ b + 75 → hI H a = hI h a) (n1 : ∀ p, p < 150 → hI H (aT b k) p = hI H (b + 74) (150 * k + p)) (n2 : ∀ s p, s < 4 → s ≠ k → p < 150 → hI H (b + 74) (150 * s + p) = hI h (b + 74) (150 * s + p)) (hf : ∀ a j, hF H a j = hF h a j) : Rel b o z H := by
  obtain ⟨L, r1, r2, r3, r4, r5, r6, r7, r8, r9, r10, r11⟩ := R
  refine ⟨LH, ?_, ?_, ?_, ?_, ?_, ?_, ?_, ?_, ?_, ?_, ?_⟩
  · intro q hq
    rw [hf]
    exact r1 q hq
  · intro q hq
    rw [nI_ _ (by unfold aT; omega) (by omega) (by omega)]
    exact r2 q hq
  · intro s hs
    rw [hf]
    exact r3 s hs
  · intro s hs
    rw [nI_ (b + 72) (by unfold aT; omega) (by omega) (by omega), nI_ (b + 73) (by unfold aT; omega) (by omega) (by omega)]
    exact r4 s hs
  · intro q hq
    rw [nI_ (b + 77) (by unfold aT; omega) (by omega) (by omega), nI_ (aR b q) (by unfold aR aT; omega) (by unfold aR; omega) (by unfold aR; omega)]
    exact r5 q hq
  · intro s hs p hp
    show _ = hI H (b + 74) (150 * s + p)
    by_cases c : s = k
    · subst c
      exact n1 p hp
    · rw [n2 s p hs c hp, nI_ (aT b s) (by unfold aT; omega) (by unfold aT; omega) (by unfold aT; omega)]
      exact r6 s hs p hp
  · intro s hs
    rw [nI_ (b + 72) (by unfold aT; omega) (by omega) (by omega), hf]
    exact r7 s hs
  · rw [hf, hf]
    exact r8
  · intro c hc
    rw [nI_ (b + 13) (by unfold aT; omega) (by omega) (by omega), nI_ (b + 71) (by unfold aT; omega) (by omega) (by omega)]
    exact r9 c hc
  · rw [hf, hf]
    exact r10
  · rw [hf, hf]
    exact r11
/-- what both sides say of a sheet that is there or not -/
theorem sh4 {o : Nat → Nat} {z : Nat → Option Nat} {k : Nat} (R : Rel b o z h) (hk : k < 4) : (z k = none ∧ hI h (b + 72) k = -1 ∧ ∀ E d, cal E (d + 1) kX1_isMissing [.ref (aS b k)] h = some (some (.int 1), h)) ∨ ∃ m, m ≤ 150 ∧ z k = some m ∧ ¬ hI h (b + 72) k = -1 ∧ hI h (b + 73) k = nI m ∧ hF h (aS b k) 2 = .int (nI m) ∧ hF h (aS b k) 1 = .int (hI h (b + 72) k) ∧ ∀ E d, cal E (d + 1) kX1_isMissing [.ref (aS b k)] h = some (some (.int 0), h) := by
  obtain ⟨L, _, _, hz, hy, _, _, hl, _⟩ := R
  have hzk := hz k hk
  have hyk := hy k hk
  have e1 := fun E d => c_X1_isMissing (E := E) (d := d) (L.kS hk) hzk.1
  cases c0 : z k with
  | none =>
    simp only [c0, zs_lt (x := none) (by decide), if_true] at e1
    exact Or.inl ⟨rfl, hyk.1.2 c0, e1⟩
  | some m =>
    have hm : m ≤ 150 := by
      have := hzk.2
      rw [c0] at this
      exact this
    have e3 : ¬ zs (some m) < 0 := fun x => by have := (zs_lt (by rw [← c0]; exact hzk.2)).1 x; cases this
    simp only [c0, e3, if_false] at e1
    refine Or.inr ⟨m, hm, rfl, fun x => ?_, hyk.2.1 m c0, by rw [hzk.1, c0]; rfl, hl k hk (by rw [c0]; intro q; cases q), e1⟩
    have := hyk.1.1 x
    rw [c0] at this
    cases this
theorem upd_at {f : Nat → Int32} {k x : Nat} {v : Int32} : upd f k v x = if x = k then v else f x := rfl
theorem op_put {o : Nat → Nat} {z : Nat → Option Nat} {s l i v : Int32} (R : Rel b o z h) : Good E (d + 9) b kX3_put kX4_put [.int s, .int l, .int i, .int v] h := by
  have L := R.1
  have s1 := fun h => shC (E := E) (d := d + 7) (h := h) s
  have s2 := fun h => shM (E := E) (d := d + 6) (h := h) s
  have l1 := fun h => laC (E := E) (d := d + 7) (h := h) l
  have l2 := fun h => laI (E := E) (d := d + 7) (h := h) l
  rcases rng (N := 4) (by decide) s with c | ⟨k, hk, e⟩
  · simp only [c, if_true] at s1 s2
    refine ⟨h, o, z, ⟨.int (-101), h, ?_, ?_⟩, R, sameF_refl⟩
    · simp (decide := true) only [e_X3_put, s_X3_put_0, s_X3_put_1, s_X3_put_4, s_X3_put_7, s_X3_put_9, s_X3_put_10, s_X3_put_11, s_X3_put_14, s_X3_put_17, s_X3_put_19, s_X3_put_20, s_X3_put_21, s_X3_put_24, s_X3_put_25, s_X3_put_26, s_X3_put_26n, s_X3_put_28, s_X3_put_28n, s_X3_put_30, s_X3_put_33, s_X3_put_36, s_X3_put_37, s_X3_put_38, s_X3_put_41, s_X3_put_42, s_X3_put_42n, s_X3_put_44, s_X3_put_47, s_X3_put_48, s_X3_put_51, s_X3_put_52, s_X3_put_53, s_X3_put_56, s_X3_put_57, s_X3_put_57n, s_X3_put_59, s_X3_put_60, s_X3_put_61, s_X3_put_64, s_X3_put_67, s_X3_put_68, s_X3_put_69, s_X3_put_72, s_X3_put_73, s_X3_put_73n, s_X3_put_75, s_X3_put_78, s_X3_put_79, s_X3_put_80, s_X3_put_82, s_X3_put_85, s_X3_put_86, s_X3_put_87, if_true, if_false, and_true, true_and, and_false, false_and, true_or, or_true, or_false, false_or, eq_self, not_true_eq_false, not_false_eq_true, zv_int, zv_ref, zv_null, zv_none, hK_sI, hF_sI, hJ_sI, hN_sI, hZ_sI, hI_sI_same, hK_sJ, hF_sJ, hI_sJ, hN_sJ, hZ_sJ, hJ_sJ_same, hK_sF, hI_sF, hJ_sF, hN_sF, hZ_sF, Option.bind_some, Option.toList_some, Option.toList_none, List.cons_append, List.nil_append, zq_ref, zq_null, s1]
    · simp (decide := true) only [e_X4_put, s_X4_put_0, s_X4_put_1, s_X4_put_4, s_X4_put_7, s_X4_put_9, s_X4_put_10, s_X4_put_11, s_X4_put_12, s_X4_put_13, s_X4_put_16, s_X4_put_19, s_X4_put_22, s_X4_put_24, s_X4_put_25, s_X4_put_26, s_X4_put_29, s_X4_put_30, s_X4_put_31, s_X4_put_32, s_X4_put_35, s_X4_put_36, s_X4_put_37, s_X4_put_40, s_X4_put_41, s_X4_put_42, s_X4_put_45, s_X4_put_46, s_X4_put_47, s_X4_put_48, s_X4_put_51, s_X4_put_52, s_X4_put_53, s_X4_put_56, s_X4_put_57, s_X4_put_58, s_X4_put_59, s_X4_put_60, s_X4_put_61, s_X4_put_64, s_X4_put_65, s_X4_put_66, s_X4_put_67, s_X4_put_68, s_X4_put_69, s_X4_put_72, s_X4_put_75, s_X4_put_76, s_X4_put_77, s_X4_put_80, s_X4_put_81, s_X4_put_82, s_X4_put_85, s_X4_put_88, s_X4_put_89, s_X4_put_90, s_X4_put_91, s_X4_put_92, s_X4_put_93, s_X4_put_96, s_X4_put_98, s_X4_put_99, s_X4_put_102, s_X4_put_103, s_X4_put_104, s_X4_put_107, s_X4_put_109, s_X4_put_110, s_X4_put_113, s_X4_put_115, s_X4_put_116, s_X4_put_117, if_true, if_false, and_true, true_and, and_false, false_and, true_or, or_true, or_false, false_or, eq_self, not_true_eq_false, not_false_eq_true, zv_int, zv_ref, zv_null, zv_none, hK_sI, hF_sI, hJ_sI, hN_sI, hZ_sI, hI_sI_same, hK_sJ, hF_sJ, hI_sJ, hN_sJ, hZ_sJ, hJ_sJ_same, hK_sF, hI_sF, hJ_sF, hN_sF, hZ_sF, Option.bind_some, Option.toList_some, Option.toList_none, List.cons_append, List.nil_append, zq_ref, zq_null, s2]
  · have c : ¬ (s < 0 ∨ nI 4 ≤ s) := by
      rw [e]
      exact fun c => c.elim (fun c => nI_nlt (b := 0) (by omega) (by omega) c) (fun c => nI_ge hk (by omega) c)
    simp only [c, if_false] at s1 s2
    by_cases cl : l < 0 ∨ 2 < l
    · simp only [cl, if_true] at l1 l2
      refine ⟨h, o, z, ⟨.int (-102), h, ?_, ?_⟩, R, sameF_refl⟩
      · simp (decide := true) only [e_X3_put, s_X3_put_0, s_X3_put_1, s_X3_put_4, s_X3_put_7, s_X3_put_9, s_X3_put_10, s_X3_put_11, s_X3_put_14, s_X3_put_17, s_X3_put_19, s_X3_put_20, s_X3_put_21, s_X3_put_24, s_X3_put_25, s_X3_put_26, s_X3_put_26n, s_X3_put_28, s_X3_put_28n, s_X3_put_30, s_X3_put_33, s_X3_put_36, s_X3_put_37, s_X3_put_38, s_X3_put_41, s_X3_put_42, s_X3_put_42n, s_X3_put_44, s_X3_put_47, s_X3_put_48, s_X3_put_51, s_X3_put_52, s_X3_put_53, s_X3_put_56, s_X3_put_57, s_X3_put_57n, s_X3_put_59, s_X3_put_60, s_X3_put_61, s_X3_put_64, s_X3_put_67, s_X3_put_68, s_X3_put_69, s_X3_put_72, s_X3_put_73, s_X3_put_73n, s_X3_put_75, s_X3_put_78, s_X3_put_79, s_X3_put_80, s_X3_put_82, s_X3_put_85, s_X3_put_86, s_X3_put_87, if_true, if_false, and_true, true_and, and_false, false_and, true_or, or_true, or_false, false_or, eq_self, not_true_eq_false, not_false_eq_true, zv_int, zv_ref, zv_null, zv_none, hK_sI, hF_sI, hJ_sI, hN_sI, hZ_sI, hI_sI_same, hK_sJ, hF_sJ, hI_sJ, hN_sJ, hZ_sJ, hJ_sJ_same, hK_sF, hI_sF, hJ_sF, hN_sF, hZ_sF, Option.bind_some, Option.toList_some, Option.toList_none, List.cons_append, List.nil_append, zq_ref, zq_null, s1, l1]
      · simp (decide := true) only [e_X4_put, s_X4_put_0, s_X4_put_1, s_X4_put_4, s_X4_put_7, s_X4_put_9, s_X4_put_10, s_X4_put_11, s_X4_put_12, s_X4_put_13, s_X4_put_16, s_X4_put_19, s_X4_put_22, s_X4_put_24, s_X4_put_25, s_X4_put_26, s_X4_put_29, s_X4_put_30, s_X4_put_31, s_X4_put_32, s_X4_put_35, s_X4_put_36, s_X4_put_37, s_X4_put_40, s_X4_put_41, s_X4_put_42, s_X4_put_45, s_X4_put_46, s_X4_put_47, s_X4_put_48, s_X4_put_51, s_X4_put_52, s_X4_put_53, s_X4_put_56, s_X4_put_57, s_X4_put_58, s_X4_put_59, s_X4_put_60, s_X4_put_61, s_X4_put_64, s_X4_put_65, s_X4_put_66, s_X4_put_67, s_X4_put_68, s_X4_put_69, s_X4_put_72, s_X4_put_75, s_X4_put_76, s_X4_put_77, s_X4_put_80, s_X4_put_81, s_X4_put_82, s_X4_put_85, s_X4_put_88, s_X4_put_89, s_X4_put_90, s_X4_put_91, s_X4_put_92, s_X4_put_93, s_X4_put_96, s_X4_put_98, s_X4_put_99, s_X4_put_102, s_X4_put_103, s_X4_put_104, s_X4_put_107, s_X4_put_109, s_X4_put_110, s_X4_put_113, s_X4_put_115, s_X4_put_116, s_X4_put_117, if_true, if_false, and_true, true_and, and_false, false_and, true_or, or_true, or_false, false_or, eq_self, not_true_eq_false, not_false_eq_true, zv_int, zv_ref, zv_null, zv_none, hK_sI, hF_sI, hJ_sI, hN_sI, hZ_sI, hI_sI_same, hK_sJ, hF_sJ, hI_sJ, hN_sJ, hZ_sJ, hJ_sJ_same, hK_sF, hI_sF, hJ_sF, hN_sF, hZ_sF, Option.bind_some, Option.toList_some, Option.toList_none, List.cons_append, List.nil_append, zq_ref, zq_null, s2, l2]
    · simp only [cl, if_false] at l1 l2
      have z0 : zR s 4 := by rw [e]; exact zR_to (by decide) hk
      have z1 : s.toNatClampNeg = k := by rw [e]; exact nI_clamp (by omega)
      rcases sh4 R hk with ⟨_, c1, e1⟩ | ⟨m, hm, _, c1, c2, c3, c4, e1⟩
      · obtain ⟨RB, fB, LB, nB⟩ := bl_end (c := 1) R (by decide)
        have n72 := nB (b + 72) (by omega)
        refine ⟨_, o, z, ⟨.int (-11), blm b h 1, ?_, ?_⟩, RB, fB⟩
        · simp (decide := true) only [e_X3_put, s_X3_put_0, s_X3_put_1, s_X3_put_4, s_X3_put_7, s_X3_put_9, s_X3_put_10, s_X3_put_11, s_X3_put_14, s_X3_put_17, s_X3_put_19, s_X3_put_20, s_X3_put_21, s_X3_put_24, s_X3_put_25, s_X3_put_26, s_X3_put_26n, s_X3_put_28, s_X3_put_28n, s_X3_put_30, s_X3_put_33, s_X3_put_36, s_X3_put_37, s_X3_put_38, s_X3_put_41, s_X3_put_42, s_X3_put_42n, s_X3_put_44, s_X3_put_47, s_X3_put_48, s_X3_put_51, s_X3_put_52, s_X3_put_53, s_X3_put_56, s_X3_put_57, s_X3_put_57n, s_X3_put_59, s_X3_put_60, s_X3_put_61, s_X3_put_64, s_X3_put_67, s_X3_put_68, s_X3_put_69, s_X3_put_72, s_X3_put_73, s_X3_put_73n, s_X3_put_75, s_X3_put_78, s_X3_put_79, s_X3_put_80, s_X3_put_82, s_X3_put_85, s_X3_put_86, s_X3_put_87, if_true, if_false, and_true, true_and, and_false, false_and, true_or, or_true, or_false, false_or, eq_self, not_true_eq_false, not_false_eq_true, zv_int, zv_ref, zv_null, zv_none, hK_sI, hF_sI, hJ_sI, hN_sI, hZ_sI, hI_sI_same, hK_sJ, hF_sJ, hI_sJ, hN_sJ, hZ_sJ, hJ_sJ_same, hK_sF, hI_sF, hJ_sF, hN_sF, hZ_sF, Option.bind_some, Option.toList_some, Option.toList_none, List.cons_append, List.nil_append, zq_ref, zq_null, L.k0, L.p0_0, L.k1, L.p1 hk, L.kS hk, z0, z1, s1, l1, e1, bl1 L]
        · simp (decide := true) only [e_X4_put, s_X4_put_0, s_X4_put_1, s_X4_put_4, s_X4_put_7, s_X4_put_9, s_X4_put_10, s_X4_put_11, s_X4_put_12, s_X4_put_13, s_X4_put_16, s_X4_put_19, s_X4_put_22, s_X4_put_24, s_X4_put_25, s_X4_put_26, s_X4_put_29, s_X4_put_30, s_X4_put_31, s_X4_put_32, s_X4_put_35, s_X4_put_36, s_X4_put_37, s_X4_put_40, s_X4_put_41, s_X4_put_42, s_X4_put_45, s_X4_put_46, s_X4_put_47, s_X4_put_48, s_X4_put_51, s_X4_put_52, s_X4_put_53, s_X4_put_56, s_X4_put_57, s_X4_put_58, s_X4_put_59, s_X4_put_60, s_X4_put_61, s_X4_put_64, s_X4_put_65, s_X4_put_66, s_X4_put_67, s_X4_put_68, s_X4_put_69, s_X4_put_72, s_X4_put_75, s_X4_put_76, s_X4_put_77, s_X4_put_80, s_X4_put_81, s_X4_put_82, s_X4_put_85, s_X4_put_88, s_X4_put_89, s_X4_put_90, s_X4_put_91, s_X4_put_92, s_X4_put_93, s_X4_put_96, s_X4_put_98, s_X4_put_99, s_X4_put_102, s_X4_put_103, s_X4_put_104, s_X4_put_107, s_X4_put_109, s_X4_put_110, s_X4_put_113, s_X4_put_115, s_X4_put_116, s_X4_put_117, if_true, if_false, and_true, true_and, and_false, false_and, true_or, or_true, or_false, false_or, eq_self, not_true_eq_false, not_false_eq_true, zv_int, zv_ref, zv_null, zv_none, hK_sI, hF_sI, hJ_sI, hN_sI, hZ_sI, hI_sI_same, hK_sJ, hF_sJ, hI_sJ, hN_sJ, hZ_sJ, hJ_sJ_same, hK_sF, hI_sF, hJ_sF, hN_sF, hZ_sF, Option.bind_some, Option.toList_some, Option.toList_none, List.cons_append, List.nil_append, zq_ref, zq_null, LB.k70, LB.p70_2, LB.k72, z0, z1, n72, c1, s2, l2, mt1 LB]
      · by_cases c5 : hI h (b + 72) k = l
        · have hC := hasC (E := E) (d := d + 7) (i := i) (w := 1) (L.kS hk) c3 hm
          have hM := fun h => inI0 (E := E) (d := d + 7) (h := h) (N := m) (by omega) i
          have one : (1 : Int32).toInt = 1 := rfl
          rw [one] at hC
          by_cases c6 : 0 ≤ i.toInt ∧ i.toInt < m
          · rw [if_pos (by omega)] at hC
            simp only [c6, and_self, if_true] at hM
            obtain ⟨x, hx⟩ : ∃ x, x = i.toInt.toNat := ⟨_, rfl⟩
            have ei : i = nI x := by rw [hx]; exact natOf c6.1
            have xm : x < m := by omega
            have z2 : zR i 150 := by rw [ei]; exact zR_to (by decide) (by omega)
            have z3 : i.toNatClampNeg = x := by rw [ei]; exact nI_clamp (by omega)
            have m150 : (150 : Int32) * s + i = nI (150 * k + x) := by rw [e, ei, e150, nI_add]
            have z4 : zR (nI (150 * k + x)) 600 := zR_to (by decide) (by omega)
            have z5 : (nI (150 * k + x)).toNatClampNeg = 150 * k + x := nI_clamp (by omega)
            obtain ⟨y, ey⟩ : ∃ y, y = if l = 0 then v.toInt8.toInt32 else if l = 1 then v.toInt16.toInt32 else v := ⟨_, rfl⟩
            have eC := fun h => c_X3_castTo (E := E) (d := d + 7) (h := h) (l := l) (v := v)
            rw [← ey] at eC
            obtain ⟨h1, eh1⟩ : ∃ h1, h1 = sI h (aT b k) (upd (hI h (aT b k)) x y) := ⟨_, rfl⟩
            have L1 : Lay b h1 := by rw [eh1]; exact L.sI _ _
            have g1 : ∀ a, a ≠ aT b k → hI h1 a = hI h a := fun a ha => by rw [eh1, hI_sI_ne _ _ ha]
            have n72 := g1 (b + 72) (by unfold aT; omega)
            have n73 := g1 (b + 73) (by unfold aT; omega)
            refine ⟨sI h1 (b + 74) (upd (hI h1 (b + 74)) (150 * k + x) y), o, z, ⟨.int 1, h1, ?_, ?_⟩, Rel_row R hk (L1.sI _ _) ?_ ?_ ?_ ?_, ?_⟩
            · simp (decide := true) only [e_X3_put, s_X3_put_0, s_X3_put_1, s_X3_put_4, s_X3_put_7, s_X3_put_9, s_X3_put_10, s_X3_put_11, s_X3_put_14, s_X3_put_17, s_X3_put_19, s_X3_put_20, s_X3_put_21, s_X3_put_24, s_X3_put_25, s_X3_put_26, s_X3_put_26n, s_X3_put_28, s_X3_put_28n, s_X3_put_30, s_X3_put_33, s_X3_put_36, s_X3_put_37, s_X3_put_38, s_X3_put_41, s_X3_put_42, s_X3_put_42n, s_X3_put_44, s_X3_put_47, s_X3_put_48, s_X3_put_51, s_X3_put_52, s_X3_put_53, s_X3_put_56, s_X3_put_57, s_X3_put_57n, s_X3_put_59, s_X3_put_60, s_X3_put_61, s_X3_put_64, s_X3_put_67, s_X3_put_68, s_X3_put_69, s_X3_put_72, s_X3_put_73, s_X3_put_73n, s_X3_put_75, s_X3_put_78, s_X3_put_79, s_X3_put_80, s_X3_put_82, s_X3_put_85, s_X3_put_86, s_X3_put_87, if_true, if_false, and_true, true_and, and_false, false_and, true_or, or_true, or_false, false_or, eq_self, not_true_eq_false, not_false_eq_true, zv_int, zv_ref, zv_null, zv_none, hK_sI, hF_sI, hJ_sI, hN_sI, hZ_sI, hI_sI_same, hK_sJ, hF_sJ, hI_sJ, hN_sJ, hZ_sJ, hJ_sJ_same, hK_sF, hI_sF, hJ_sF, hN_sF, hZ_sF, Option.bind_some, Option.toList_some, Option.toList_none, List.cons_append, List.nil_append, zq_ref, zq_null, L.k0, L.p0_0, L.k1, L.p1 hk, L.kS hk, L.pS hk, L.kT hk, z0, z1, z2, z3, s1, l1, e1, c4, eq_true c5, hC, eC]
              rw [← eh1]
            · rcases la3 cl with rfl | rfl | rfl <;> simp (decide := true) only [if_true, if_false] at ey <;> simp (decide := true) only [e_X4_put, s_X4_put_0, s_X4_put_1, s_X4_put_4, s_X4_put_7, s_X4_put_9, s_X4_put_10, s_X4_put_11, s_X4_put_12, s_X4_put_13, s_X4_put_16, s_X4_put_19, s_X4_put_22, s_X4_put_24, s_X4_put_25, s_X4_put_26, s_X4_put_29, s_X4_put_30, s_X4_put_31, s_X4_put_32, s_X4_put_35, s_X4_put_36, s_X4_put_37, s_X4_put_40, s_X4_put_41, s_X4_put_42, s_X4_put_45, s_X4_put_46, s_X4_put_47, s_X4_put_48, s_X4_put_51, s_X4_put_52, s_X4_put_53, s_X4_put_56, s_X4_put_57, s_X4_put_58, s_X4_put_59, s_X4_put_60, s_X4_put_61, s_X4_put_64, s_X4_put_65, s_X4_put_66, s_X4_put_67, s_X4_put_68, s_X4_put_69, s_X4_put_72, s_X4_put_75, s_X4_put_76, s_X4_put_77, s_X4_put_80, s_X4_put_81, s_X4_put_82, s_X4_put_85, s_X4_put_88, s_X4_put_89, s_X4_put_90, s_X4_put_91, s_X4_put_92, s_X4_put_93, s_X4_put_96, s_X4_put_98, s_X4_put_99, s_X4_put_102, s_X4_put_103, s_X4_put_104, s_X4_put_107, s_X4_put_109, s_X4_put_110, s_X4_put_113, s_X4_put_115, s_X4_put_116, s_X4_put_117, if_true, if_false, and_true, true_and, and_false, false_and, true_or, or_true, or_false, false_or, eq_self, not_true_eq_false, not_false_eq_true, zv_int, zv_ref, zv_null, zv_none, hK_sI, hF_sI, hJ_sI, hN_sI, hZ_sI, hI_sI_same, hK_sJ, hF_sJ, hI_sJ, hN_sJ, hZ_sJ, hJ_sJ_same, hK_sF, hI_sF, hJ_sF, hN_sF, hZ_sF, Option.bind_some, Option.toList_some, Option.toList_none, List.cons_append, List.nil_append, zq_ref, zq_null, L1.k70, L1.p70_2, L1.p70_3, L1.p70_4, L1.k72, L1.k73, L1.k74, z0, z1, z4, z5, m150, n72, n73, c1, c2, eq_true c5, c5, s2, l2, hM, ← ey]
            · intro a a1 a2 a3
              rw [hI_sI_ne _ _ a2, g1 a a1]
            · intro p hp
              rw [hI_sI_ne _ _ (by unfold aT; omega), eh1, hI_sI_same, hI_sI_same, hI_sI_ne _ _ (by unfold aT; omega), upd_at, upd_at]
              by_cases c7 : p = x
              · rw [if_pos c7, if_pos (by omega)]
              · rw [if_neg c7, if_neg (by omega)]
                exact R.2.2.2.2.2.2.1 k hk p hp
            · intro t p ht hne hp
              rw [hI_sI_same, upd_at, if_neg (by omega), g1 _ (by unfold aT; omega)]
            · intro a j
              rw [hF_sI, eh1, hF_sI]
            · rw [eh1]
              exact sameF_trans (sameF_sI _ (by unfold aT; omega)) (sameF_sI _ (by omega))
          · rw [if_neg (by omega)] at hC
            simp only [c6, if_false] at hM
            obtain ⟨RB, fB, LB, nB⟩ := bl_end (c := 2) R (by decide)
            have n72 := nB (b + 72) (by omega)
            have n73 := nB (b + 73) (by omega)
            refine ⟨_, o, z, ⟨.int (-12), blm b h 2, ?_, ?_⟩, RB, fB⟩
            · simp (decide := true) only [e_X3_put, s_X3_put_0, s_X3_put_1, s_X3_put_4, s_X3_put_7, s_X3_put_9, s_X3_put_10, s_X3_put_11, s_X3_put_14, s_X3_put_17, s_X3_put_19, s_X3_put_20, s_X3_put_21, s_X3_put_24, s_X3_put_25, s_X3_put_26, s_X3_put_26n, s_X3_put_28, s_X3_put_28n, s_X3_put_30, s_X3_put_33, s_X3_put_36, s_X3_put_37, s_X3_put_38, s_X3_put_41, s_X3_put_42, s_X3_put_42n, s_X3_put_44, s_X3_put_47, s_X3_put_48, s_X3_put_51, s_X3_put_52, s_X3_put_53, s_X3_put_56, s_X3_put_57, s_X3_put_57n, s_X3_put_59, s_X3_put_60, s_X3_put_61, s_X3_put_64, s_X3_put_67, s_X3_put_68, s_X3_put_69, s_X3_put_72, s_X3_put_73, s_X3_put_73n, s_X3_put_75, s_X3_put_78, s_X3_put_79, s_X3_put_80, s_X3_put_82, s_X3_put_85, s_X3_put_86, s_X3_put_87, if_true, if_false, and_true, true_and, and_false, false_and, true_or, or_true, or_false, false_or, eq_self, not_true_eq_false, not_false_eq_true, zv_int, zv_ref, zv_null, zv_none, hK_sI, hF_sI, hJ_sI, hN_sI, hZ_sI, hI_sI_same, hK_sJ, hF_sJ, hI_sJ, hN_sJ, hZ_sJ, hJ_sJ_same, hK_sF, hI_sF, hJ_sF, hN_sF, hZ_sF, Option.bind_some, Option.toList_some, Option.toList_none, List.cons_append, List.nil_append, zq_ref, zq_null, L.k0, L.p0_0, L.k1, L.p1 hk, L.kS hk, z0, z1, s1, l1, e1, c4, eq_true c5, hC, bl2 L]
            · simp (decide := true) only [e_X4_put, s_X4_put_0, s_X4_put_1, s_X4_put_4, s_X4_put_7, s_X4_put_9, s_X4_put_10, s_X4_put_11, s_X4_put_12, s_X4_put_13, s_X4_put_16, s_X4_put_19, s_X4_put_22, s_X4_put_24, s_X4_put_25, s_X4_put_26, s_X4_put_29, s_X4_put_30, s_X4_put_31, s_X4_put_32, s_X4_put_35, s_X4_put_36, s_X4_put_37, s_X4_put_40, s_X4_put_41, s_X4_put_42, s_X4_put_45, s_X4_put_46, s_X4_put_47, s_X4_put_48, s_X4_put_51, s_X4_put_52, s_X4_put_53, s_X4_put_56, s_X4_put_57, s_X4_put_58, s_X4_put_59, s_X4_put_60, s_X4_put_61, s_X4_put_64, s_X4_put_65, s_X4_put_66, s_X4_put_67, s_X4_put_68, s_X4_put_69, s_X4_put_72, s_X4_put_75, s_X4_put_76, s_X4_put_77, s_X4_put_80, s_X4_put_81, s_X4_put_82, s_X4_put_85, s_X4_put_88, s_X4_put_89, s_X4_put_90, s_X4_put_91, s_X4_put_92, s_X4_put_93, s_X4_put_96, s_X4_put_98, s_X4_put_99, s_X4_put_102, s_X4_put_103, s_X4_put_104, s_X4_put_107, s_X4_put_109, s_X4_put_110, s_X4_put_113, s_X4_put_115, s_X4_put_116, s_X4_put_117, if_true, if_false, and_true, true_and, and_false, false_and, true_or, or_true, or_false, false_or, eq_self, not_true_eq_false, not_false_eq_true, zv_int, zv_ref, zv_null, zv_none, hK_sI, hF_sI, hJ_sI, hN_sI, hZ_sI, hI_sI_same, hK_sJ, hF_sJ, hI_sJ, hN_sJ, hZ_sJ, hJ_sJ_same, hK_sF, hI_sF, hJ_sF, hN_sF, hZ_sF, Option.bind_some, Option.toList_some, Option.toList_none, List.cons_append, List.nil_append, zq_ref, zq_null, LB.k70, LB.p70_2, LB.p70_3, LB.k72, LB.k73, z0, z1, n72, n73, c1, c2, eq_true c5, s2, l2, hM, mt2 LB]
        · obtain ⟨RB, fB, LB, nB⟩ := bl_end (c := 4) R (by decide)
          have n72 := nB (b + 72) (by omega)
          refine ⟨_, o, z, ⟨.int (-14), blm b h 4, ?_, ?_⟩, RB, fB⟩
          · simp (decide := true) only [e_X3_put, s_X3_put_0, s_X3_put_1, s_X3_put_4, s_X3_put_7, s_X3_put_9, s_X3_put_10, s_X3_put_11, s_X3_put_14, s_X3_put_17, s_X3_put_19, s_X3_put_20, s_X3_put_21, s_X3_put_24, s_X3_put_25, s_X3_put_26, s_X3_put_26n, s_X3_put_28, s_X3_put_28n, s_X3_put_30, s_X3_put_33, s_X3_put_36, s_X3_put_37, s_X3_put_38, s_X3_put_41, s_X3_put_42, s_X3_put_42n, s_X3_put_44, s_X3_put_47, s_X3_put_48, s_X3_put_51, s_X3_put_52, s_X3_put_53, s_X3_put_56, s_X3_put_57, s_X3_put_57n, s_X3_put_59, s_X3_put_60, s_X3_put_61, s_X3_put_64, s_X3_put_67, s_X3_put_68, s_X3_put_69, s_X3_put_72, s_X3_put_73, s_X3_put_73n, s_X3_put_75, s_X3_put_78, s_X3_put_79, s_X3_put_80, s_X3_put_82, s_X3_put_85, s_X3_put_86, s_X3_put_87, if_true, if_false, and_true, true_and, and_false, false_and, true_or, or_true, or_false, false_or, eq_self, not_true_eq_false, not_false_eq_true, zv_int, zv_ref, zv_null, zv_none, hK_sI, hF_sI, hJ_sI, hN_sI, hZ_sI, hI_sI_same, hK_sJ, hF_sJ, hI_sJ, hN_sJ, hZ_sJ, hJ_sJ_same, hK_sF, hI_sF, hJ_sF, hN_sF, hZ_sF, Option.bind_some, Option.toList_some, Option.toList_none, List.cons_append, List.nil_append, zq_ref, zq_null, L.k0, L.p0_0, L.k1, L.p1 hk, L.kS hk, z0, z1, s1, l1, e1, c4, eq_false c5, bl4 L]
          · simp (decide := true) only [e_X4_put, s_X4_put_0, s_X4_put_1, s_X4_put_4, s_X4_put_7, s_X4_put_9, s_X4_put_10, s_X4_put_11, s_X4_put_12, s_X4_put_13, s_X4_put_16, s_X4_put_19, s_X4_put_22, s_X4_put_24, s_X4_put_25, s_X4_put_26, s_X4_put_29, s_X4_put_30, s_X4_put_31, s_X4_put_32, s_X4_put_35, s_X4_put_36, s_X4_put_37, s_X4_put_40, s_X4_put_41, s_X4_put_42, s_X4_put_45, s_X4_put_46, s_X4_put_47, s_X4_put_48, s_X4_put_51, s_X4_put_52, s_X4_put_53, s_X4_put_56, s_X4_put_57, s_X4_put_58, s_X4_put_59, s_X4_put_60, s_X4_put_61, s_X4_put_64, s_X4_put_65, s_X4_put_66, s_X4_put_67, s_X4_put_68, s_X4_put_69, s_X4_put_72, s_X4_put_75, s_X4_put_76, s_X4_put_77, s_X4_put_80, s_X4_put_81, s_X4_put_82, s_X4_put_85, s_X4_put_88, s_X4_put_89, s_X4_put_90, s_X4_put_91, s_X4_put_92, s_X4_put_93, s_X4_put_96, s_X4_put_98, s_X4_put_99, s_X4_put_102, s_X4_put_103, s_X4_put_104, s_X4_put_107, s_X4_put_109, s_X4_put_110, s_X4_put_113, s_X4_put_115, s_X4_put_116, s_X4_put_117, if_true, if_false, and_true, true_and, and_false, false_and, true_or, or_true, or_false, false_or, eq_self, not_true_eq_false, not_false_eq_true, zv_int, zv_ref, zv_null, zv_none, hK_sI, hF_sI, hJ_sI, hN_sI, hZ_sI, hI_sI_same, hK_sJ, hF_sJ, hI_sJ, hN_sJ, hZ_sJ, hJ_sJ_same, hK_sF, hI_sF, hJ_sF, hN_sF, hZ_sF, Option.bind_some, Option.toList_some, Option.toList_none, List.cons_append, List.nil_append, zq_ref, zq_null, LB.k70, LB.p70_2, LB.k72, z0, z1, n72, c1, eq_false c5, s2, l2, mt4 LB]
end
