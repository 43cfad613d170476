/-! ===== sheets: sheet, put ===== -/
section
variable {E : mE} {d : Nat} {h h1 h2 : mH} {b : Nat}
theorem bl1 (L : Lay b h) : cal E (d + 1) kX3_blame [.ref b, .int 1] h = some (some (.int (-11)), blm b h 1) := by
  have e := c_X3_blame (E := E) (d := d) (c := 1) L (by decide) (by decide)
  have n0 : nI 1 = 1 := rfl
  have n1 : (-10 : Int32) - 1 = -11 := by decide
  simp only [n0, n1] at e
  exact e
theorem bl2 (L : Lay b h) : cal E (d + 1) kX3_blame [.ref b, .int 2] h = some (some (.int (-12)), blm b h 2) := by
  have e := c_X3_blame (E := E) (d := d) (c := 2) L (by decide) (by decide)
  have n0 : nI 2 = 2 := rfl
  have n1 : (-10 : Int32) - 2 = -12 := by decide
  simp only [n0, n1] at e
  exact e
theorem bl3 (L : Lay b h) : cal E (d + 1) kX3_blame [.ref b, .int 3] h = some (some (.int (-13)), blm b h 3) := by
  have e := c_X3_blame (E := E) (d := d) (c := 3) L (by decide) (by decide)
  have n0 : nI 3 = 3 := rfl
  have n1 : (-10 : Int32) - 3 = -13 := by decide
  simp only [n0, n1] at e
  exact e
theorem bl4 (L : Lay b h) : cal E (d + 1) kX3_blame [.ref b, .int 4] h = some (some (.int (-14)), blm b h 4) := by
  have e := c_X3_blame (E := E) (d := d) (c := 4) L (by decide) (by decide)
  have n0 : nI 4 = 4 := rfl
  have n1 : (-10 : Int32) - 4 = -14 := by decide
  simp only [n0, n1] at e
  exact e
theorem mt1 (L : Lay b h) : cal E (d + 1) kX4_meets [.ref (b + 70), .int 1] h = some (some (.int (-11)), mts b h 1) := by
  have e := c_X4_meets (E := E) (d := d) (c := 1) L (by decide)
  have n0 : nI 1 = 1 := rfl
  have n1 : (-10 : Int32) - 1 = -11 := by decide
  simp only [n0, n1] at e
  exact e
theorem mt2 (L : Lay b h) : cal E (d + 1) kX4_meets [.ref (b + 70), .int 2] h = some (some (.int (-12)), mts b h 2) := by
  have e := c_X4_meets (E := E) (d := d) (c := 2) L (by decide)
  have n0 : nI 2 = 2 := rfl
  have n1 : (-10 : Int32) - 2 = -12 := by decide
  simp only [n0, n1] at e
  exact e
theorem mt3 (L : Lay b h) : cal E (d + 1) kX4_meets [.ref (b + 70), .int 3] h = some (some (.int (-13)), mts b h 3) := by
  have e := c_X4_meets (E := E) (d := d) (c := 3) L (by decide)
  have n0 : nI 3 = 3 := rfl
  have n1 : (-10 : Int32) - 3 = -13 := by decide
  simp only [n0, n1] at e
  exact e
theorem mt4 (L : Lay b h) : cal E (d + 1) kX4_meets [.ref (b + 70), .int 4] h = some (some (.int (-14)), mts b h 4) := by
  have e := c_X4_meets (E := E) (d := d) (c := 4) L (by decide)
  have n0 : nI 4 = 4 := rfl
  have n1 : (-10 : Int32) - 4 = -14 := by decide
  simp only [n0, n1] at e
  exact e
/-- a cause on both sides, from the relation -/
theorem bl_end {o : Nat → Nat} {z : Nat → Option Nat} {c : Nat} (R : Rel b o z h) (hc : c < 6) : Rel b o z (mts b (blm b h c) c) ∧ sameF b h (mts b (blm b h c) c) ∧ Lay b (blm b h c) ∧ (∀ a, b + 70 ≤ a → hI (blm b h c) a = hI h a) := ⟨Rel_blame R hc, sameF_trans sameF_blm sameF_mts, (mSame_blm R.1).1, (mSame_blm R.1).2.1⟩
theorem laC (l : Int32) : cal E (d + 1) kX3_isLane [.int l] h = some (some (.int (if l < 0 ∨ 2 < l then 0 else 1)), h) := by
  rw [c_X3_isLane]
  by_cases c1 : l < 0 <;> by_cases c2 : 2 < l <;> simp [c1, c2]
theorem laI (l : Int32) : cal E (d + 1) kX4_in [.long l.toInt64, .long 0, .long 2] h = some (some (.int (if l < 0 ∨ 2 < l then 0 else 1)), h) := by
  rw [c_X4_in]
  have e1 : (0 : Int64) = (0 : Int32).toInt64 := rfl
  have e3 : (2 : Int64) = (2 : Int32).toInt64 := rfl
  have j1 : ((0 : Int64) ≤ l.toInt64) ↔ ¬ l < 0 := by rw [e1, i64_le, n32_lt]
  have j2 : (l.toInt64 ≤ (2 : Int64)) ↔ ¬ 2 < l := by rw [e3, i64_le, n32_lt]
  by_cases c1 : l < 0 <;> by_cases c2 : 2 < l <;> simp [j1, j2, c1, c2]
theorem la3 {l : Int32} (c : ¬ (l < 0 ∨ 2 < l)) : l = 0 ∨ l = 1 ∨ l = 2 := by
  rcases rng (N := 3) (by decide) l with q | ⟨k, hk, e⟩
  · exfalso
    apply c
    rcases q with q | q
    · exact Or.inl q
    · right
      rw [Int32.le_iff_toInt_le] at q
      rw [Int32.lt_iff_toInt_lt]
      have e3 : (nI 3).toInt = 3 := rfl
      have e2 : (2 : Int32).toInt = 2 := rfl
      omega
  · match k, hk, e with
    | 0, _, e => exact Or.inl e
    | 1, _, e => exact Or.inr (Or.inl e)
    | 2, _, e => exact Or.inr (Or.inr e)
/-- a sheet is new on both sides -/
theorem Rel_new {H : mH} {o : Nat → Nat} {z : Nat → Option Nat} {k m : Nat} {l : Int32} (R : Rel b o z h) (hk : k < 4) (hm : m ≤ 150) (hl : l ≠ -1) (LH : Lay b H) (nI_ : ∀ a, a ≠ aT b k → a ≠ b + 72 → a ≠ b + 73 → a ≠ b + 74 → hI H a = hI h a) (nT : ∀ p, p < 150 → hI H (aT b k) p = 0) (n72 : ∀ x, hI H (b + 72) x = if x = k then l else hI h (b + 72) x) (n73 : ∀ x, hI H (b + 73) x = if x = k then nI m else hI h (b + 73) x) (n74 : ∀ x, hI H (b + 74) x = if 150 * k ≤ x ∧ x < 150 * k + 150 then 0 else hI h (b + 74) x) (hf : ∀ a j, hF H a j = if a = aS b k ∧ j = 2 then .int (nI m) else if a = aS b k ∧ j = 1 then .int l else hF h a j) : Rel b o (fu z k (some m)) H := by
  obtain ⟨L, r1, r2, r3, r4, r5, r6, r7, r8, r9, r10, r11⟩ := R
  have f0 : ∀ a j, a ≠ aS b k → hF H a j = hF h a j := fun a j ha => by
    rw [hf, if_neg (fun q => ha q.1), if_neg (fun q => ha q.1)]
  refine ⟨LH, ?_, ?_, ?_, ?_, ?_, ?_, ?_, ?_, ?_, ?_, ?_⟩
  · intro q hq
    rw [f0 _ _ (by unfold aQ aS; omega)]
    exact r1 q hq
  · intro q hq
    rw [nI_ _ (by unfold aT; omega) (by omega) (by omega) (by omega)]
    exact r2 q hq
  · intro s hs
    unfold fu
    by_cases c : s = k
    · subst c
      rw [if_pos rfl, hf, if_pos ⟨rfl, rfl⟩]
      exact ⟨rfl, hm⟩
    · rw [if_neg c, f0 _ _ (by unfold aS; omega)]
      exact r3 s hs
  · intro s hs
    rw [n72, n73]
    unfold fu
    by_cases c : s = k
    · rw [if_pos c, if_pos c, if_pos c]
      refine ⟨⟨fun q => absurd q hl, fun q => by cases q⟩, fun n hn => ?_, hm⟩
      cases hn
      rfl
    · rw [if_neg c, if_neg c, if_neg c]
      exact r4 s hs
  · intro q hq
    rw [nI_ (b + 77) (by unfold aT; omega) (by omega) (by omega) (by omega), nI_ (aR b q) (by unfold aR aT; omega) (by unfold aR; omega) (by unfold aR; omega) (by unfold aR; omega)]
    exact r5 q hq
  · intro s hs p hp
    show _ = hI H (b + 74) (150 * s + p)
    rw [n74]
    by_cases c : s = k
    · subst c
      rw [nT p hp, if_pos (by omega)]
    · rw [if_neg (by omega), nI_ (aT b s) (by unfold aT; omega) (by unfold aT; omega) (by unfold aT; omega) (by unfold aT; omega)]
      exact r6 s hs p hp
  · intro s hs
    rw [n72]
    unfold fu
    by_cases c : s = k
    · subst c
      intro _
      rw [hf, if_neg (by omega), if_pos ⟨rfl, rfl⟩, if_pos rfl]
    · rw [if_neg c, if_neg c, f0 _ _ (by unfold aS; omega)]
      exact r7 s hs
  · rw [f0 b 7 (by unfold aS; omega), f0 (b + 70) 0 (by unfold aS; omega)]
    exact r8
  · intro c hc
    rw [nI_ (b + 13) (by unfold aT; omega) (by omega) (by omega) (by omega), nI_ (b + 71) (by unfold aT; omega) (by omega) (by omega) (by omega)]
    exact r9 c hc
  · rw [f0 b 8 (by unfold aS; omega), f0 (b + 70) 13 (by unfold aS; omega)]
    exact r10
  · rw [f0 (b + 8) 3 (by unfold aS; omega), f0 (b + 70) 12 (by unfold aS; omega)]
    exact r11
theorem pfS1 : ∀ s, s < 4 → PF (14 + 2 * s) 1 = none := by decide +kernel
theorem op_sheet {o : Nat → Nat} {z : Nat → Option Nat} {s l n : Int32} (R : Rel b o z h) : Good E (d + 9) b kX3_sheet kX4_sheet [.int s, .int l, .int n] h := by
  have L := R.1
  have s1 := fun h => shC (E := E) (d := d + 7) (h := h) s
  have s2 := fun h => shM (E := E) (d := d + 6) (h := h) s
  have l1 := fun h => laC (E := E) (d := d + 7) (h := h) l
  have l2 := fun h => laI (E := E) (d := d + 7) (h := h) l
  rcases rng (N := 4) (by decide) s with c | ⟨k, hk, e⟩
  · simp only [c, if_true] at s1 s2
    refine ⟨h, o, z, ⟨.int (-101), h, ?_, ?_⟩, R, sameF_refl⟩
    · simp (decide := true) only [e_X3_sheet, s_X3_sheet_0, s_X3_sheet_1, s_X3_sheet_4, s_X3_sheet_7, s_X3_sheet_9, s_X3_sheet_10, s_X3_sheet_11, s_X3_sheet_14, s_X3_sheet_17, s_X3_sheet_18, s_X3_sheet_21, s_X3_sheet_24, s_X3_sheet_26, s_X3_sheet_27, s_X3_sheet_28, s_X3_sheet_31, s_X3_sheet_32, s_X3_sheet_33, s_X3_sheet_36, s_X3_sheet_37, s_X3_sheet_38, s_X3_sheet_41, s_X3_sheet_42, s_X3_sheet_43, s_X3_sheet_44, s_X3_sheet_45, s_X3_sheet_48, s_X3_sheet_49, if_true, if_false, and_true, true_and, and_false, false_and, true_or, or_true, or_false, false_or, eq_self, not_true_eq_false, not_false_eq_true, zv_int, zv_ref, zv_null, zv_none, hK_sI, hF_sI, hJ_sI, hN_sI, hZ_sI, hI_sI_same, hK_sJ, hF_sJ, hI_sJ, hN_sJ, hZ_sJ, hJ_sJ_same, hK_sF, hI_sF, hJ_sF, hN_sF, hZ_sF, Option.bind_some, Option.toList_some, Option.toList_none, List.cons_append, List.nil_append, zq_ref, zq_null, s1]
    · simp (decide := true) only [e_X4_sheet, s_X4_sheet_0, s_X4_sheet_1, s_X4_sheet_4, s_X4_sheet_7, s_X4_sheet_9, s_X4_sheet_10, s_X4_sheet_11, s_X4_sheet_12, s_X4_sheet_13, s_X4_sheet_16, s_X4_sheet_19, s_X4_sheet_22, s_X4_sheet_23, s_X4_sheet_26, s_X4_sheet_29, s_X4_sheet_31, s_X4_sheet_32, s_X4_sheet_33, s_X4_sheet_36, s_X4_sheet_37, s_X4_sheet_38, s_X4_sheet_41, s_X4_sheet_42, s_X4_sheet_43, s_X4_sheet_46, s_X4_sheet_47, s_X4_sheet_48, s_X4_sheet_49, s_X4_sheet_50, s_X4_sheet_53, s_X4_sheet_54, s_X4_sheet_55, s_X4_sheet_56, s_X4_sheet_57, s_X4_sheet_61, s_X4_sheet_64, s_X4_sheet_67, s_X4_sheet_68, s_X4_sheet_71, s_X4_sheet_74, s_X4_sheet_75, s_X4_sheet_76, s_X4_sheet_78, s_X4_sheet_79, s_X4_sheet_80, s_X4_sheet_81, s_X4_sheet_84, s_X4_sheet_87, s_X4_sheet_88, if_true, if_false, and_true, true_and, and_false, false_and, true_or, or_true, or_false, false_or, eq_self, not_true_eq_false, not_false_eq_true, zv_int, zv_ref, zv_null, zv_none, hK_sI, hF_sI, hJ_sI, hN_sI, hZ_sI, hI_sI_same, hK_sJ, hF_sJ, hI_sJ, hN_sJ, hZ_sJ, hJ_sJ_same, hK_sF, hI_sF, hJ_sF, hN_sF, hZ_sF, Option.bind_some, Option.toList_some, Option.toList_none, List.cons_append, List.nil_append, zq_ref, zq_null, s2]
  · have c : ¬ (s < 0 ∨ nI 4 ≤ s) := by
      rw [e]
      exact fun c => c.elim (fun c => nI_nlt (b := 0) (by omega) (by omega) c) (fun c => nI_ge hk (by omega) c)
    simp only [c, if_false] at s1 s2
    by_cases cl : l < 0 ∨ 2 < l
    · simp only [cl, if_true] at l1 l2
      refine ⟨h, o, z, ⟨.int (-102), h, ?_, ?_⟩, R, sameF_refl⟩
      · simp (decide := true) only [e_X3_sheet, s_X3_sheet_0, s_X3_sheet_1, s_X3_sheet_4, s_X3_sheet_7, s_X3_sheet_9, s_X3_sheet_10, s_X3_sheet_11, s_X3_sheet_14, s_X3_sheet_17, s_X3_sheet_18, s_X3_sheet_21, s_X3_sheet_24, s_X3_sheet_26, s_X3_sheet_27, s_X3_sheet_28, s_X3_sheet_31, s_X3_sheet_32, s_X3_sheet_33, s_X3_sheet_36, s_X3_sheet_37, s_X3_sheet_38, s_X3_sheet_41, s_X3_sheet_42, s_X3_sheet_43, s_X3_sheet_44, s_X3_sheet_45, s_X3_sheet_48, s_X3_sheet_49, if_true, if_false, and_true, true_and, and_false, false_and, true_or, or_true, or_false, false_or, eq_self, not_true_eq_false, not_false_eq_true, zv_int, zv_ref, zv_null, zv_none, hK_sI, hF_sI, hJ_sI, hN_sI, hZ_sI, hI_sI_same, hK_sJ, hF_sJ, hI_sJ, hN_sJ, hZ_sJ, hJ_sJ_same, hK_sF, hI_sF, hJ_sF, hN_sF, hZ_sF, Option.bind_some, Option.toList_some, Option.toList_none, List.cons_append, List.nil_append, zq_ref, zq_null, s1, l1]
      · simp (decide := true) only [e_X4_sheet, s_X4_sheet_0, s_X4_sheet_1, s_X4_sheet_4, s_X4_sheet_7, s_X4_sheet_9, s_X4_sheet_10, s_X4_sheet_11, s_X4_sheet_12, s_X4_sheet_13, s_X4_sheet_16, s_X4_sheet_19, s_X4_sheet_22, s_X4_sheet_23, s_X4_sheet_26, s_X4_sheet_29, s_X4_sheet_31, s_X4_sheet_32, s_X4_sheet_33, s_X4_sheet_36, s_X4_sheet_37, s_X4_sheet_38, s_X4_sheet_41, s_X4_sheet_42, s_X4_sheet_43, s_X4_sheet_46, s_X4_sheet_47, s_X4_sheet_48, s_X4_sheet_49, s_X4_sheet_50, s_X4_sheet_53, s_X4_sheet_54, s_X4_sheet_55, s_X4_sheet_56, s_X4_sheet_57, s_X4_sheet_61, s_X4_sheet_64, s_X4_sheet_67, s_X4_sheet_68, s_X4_sheet_71, s_X4_sheet_74, s_X4_sheet_75, s_X4_sheet_76, s_X4_sheet_78, s_X4_sheet_79, s_X4_sheet_80, s_X4_sheet_81, s_X4_sheet_84, s_X4_sheet_87, s_X4_sheet_88, if_true, if_false, and_true, true_and, and_false, false_and, true_or, or_true, or_false, false_or, eq_self, not_true_eq_false, not_false_eq_true, zv_int, zv_ref, zv_null, zv_none, hK_sI, hF_sI, hJ_sI, hN_sI, hZ_sI, hI_sI_same, hK_sJ, hF_sJ, hI_sJ, hN_sJ, hZ_sJ, hJ_sJ_same, hK_sF, hI_sF, hJ_sF, hN_sF, hZ_sF, Option.bind_some, Option.toList_some, Option.toList_none, List.cons_append, List.nil_append, zq_ref, zq_null, s2, l2]
    · simp only [cl, if_false] at l1 l2
      by_cases c1 : n ≤ 150
      · by_cases c0 : 0 ≤ n
        · obtain ⟨m, hm, em⟩ : ∃ m, m ≤ 150 ∧ n = nI m := by
            rcases rng (N := 151) (by decide) n with q | ⟨m, hm, em⟩
            · exfalso
              rcases q with q | q
              · exact n32_le.mpr q c0
              · rw [Int32.le_iff_toInt_le] at q c1
                have e1 : (nI 151).toInt = 151 := rfl
                have e2 : (150 : Int32).toInt = 150 := rfl
                omega
            · exact ⟨m, by omega, em⟩
          have hl : l ≠ -1 := fun q => cl (Or.inl (by rw [q]; decide))
          have z0 : zR s 4 := by rw [e]; exact zR_to (by decide) hk
          have z1 : s.toNatClampNeg = k := by rw [e]; exact nI_clamp (by omega)
          have eR := c_X1_renew (E := E) (d := d + 6) (l := l) (n := n) (L.kS hk) (L.kT hk) (L.pS hk)
          obtain ⟨h1, eh1⟩ : ∃ h1, h1 = sI (sF (sF h (aS b k) 1 (.int l)) (aS b k) 2 (.int n)) (aT b k) (rw_ (fun _ => 0) (hI h (aT b k)) 150) := ⟨_, rfl⟩
          rw [← eh1] at eR
          have L1 : Lay b h1 := by rw [eh1]; exact ((L.sF (14 + 2 * k) 1 _ (pfS1 k hk)).sF (14 + 2 * k) 2 _ (pfS2 k hk)).sI _ _
          obtain ⟨h2, eh2⟩ : ∃ h2, h2 = sI (sI h1 (b + 72) (upd (hI h1 (b + 72)) k l)) (b + 73) (upd (hI (sI h1 (b + 72) (upd (hI h1 (b + 72)) k l)) (b + 73)) k n) := ⟨_, rfl⟩
          have L2 : Lay b h2 := by rw [eh2]; exact (L1.sI _ _).sI _ _
          have eS := lp_msh (E := E) (d := d + 8) (s := k) (l := l) (n := n) (z := hI h2 (b + 74)) L2 hk 150 0 (by omega)
          rw [shz_0, sI_self, nI_0, ← e] at eS
          have g1 : ∀ a, a ≠ aT b k → hI h1 a = hI h a := fun a ha => by rw [eh1, hI_sI_ne _ _ ha, hI_sF, hI_sF]
          have g2 : ∀ a, a ≠ b + 72 → a ≠ b + 73 → hI h2 a = hI h1 a := fun a h1 h2 => by rw [eh2, hI_sI_ne _ _ h2, hI_sI_ne _ _ h1]
          refine ⟨sI h2 (b + 74) (shz (hI h2 (b + 74)) k 150), o, fu z k (some m), ⟨.int n, h1, ?_, ?_⟩, Rel_new (l := l) R hk hm hl (L2.sI _ _) ?_ ?_ ?_ ?_ ?_ ?_, ?_⟩
          · simp (decide := true) only [e_X3_sheet, s_X3_sheet_0, s_X3_sheet_1, s_X3_sheet_4, s_X3_sheet_7, s_X3_sheet_9, s_X3_sheet_10, s_X3_sheet_11, s_X3_sheet_14, s_X3_sheet_17, s_X3_sheet_18, s_X3_sheet_21, s_X3_sheet_24, s_X3_sheet_26, s_X3_sheet_27, s_X3_sheet_28, s_X3_sheet_31, s_X3_sheet_32, s_X3_sheet_33, s_X3_sheet_36, s_X3_sheet_37, s_X3_sheet_38, s_X3_sheet_41, s_X3_sheet_42, s_X3_sheet_43, s_X3_sheet_44, s_X3_sheet_45, s_X3_sheet_48, s_X3_sheet_49, if_true, if_false, and_true, true_and, and_false, false_and, true_or, or_true, or_false, false_or, eq_self, not_true_eq_false, not_false_eq_true, zv_int, zv_ref, zv_null, zv_none, hK_sI, hF_sI, hJ_sI, hN_sI, hZ_sI, hI_sI_same, hK_sJ, hF_sJ, hI_sJ, hN_sJ, hZ_sJ, hJ_sJ_same, hK_sF, hI_sF, hJ_sF, hN_sF, hZ_sF, Option.bind_some, Option.toList_some, Option.toList_none, List.cons_append, List.nil_append, zq_ref, zq_null, L.k0, L.p0_0, L.k1, L.p1 hk, L.kS hk, z0, z1, s1, l1, c1, c0, eR]
          · simp (decide := true) only [e_X4_sheet, s_X4_sheet_0, s_X4_sheet_1, s_X4_sheet_4, s_X4_sheet_7, s_X4_sheet_9, s_X4_sheet_10, s_X4_sheet_11, s_X4_sheet_12, s_X4_sheet_13, s_X4_sheet_16, s_X4_sheet_19, s_X4_sheet_22, s_X4_sheet_23, s_X4_sheet_26, s_X4_sheet_29, s_X4_sheet_31, s_X4_sheet_32, s_X4_sheet_33, s_X4_sheet_36, s_X4_sheet_37, s_X4_sheet_38, s_X4_sheet_41, s_X4_sheet_42, s_X4_sheet_43, s_X4_sheet_46, s_X4_sheet_47, s_X4_sheet_48, s_X4_sheet_49, s_X4_sheet_50, s_X4_sheet_53, s_X4_sheet_54, s_X4_sheet_55, s_X4_sheet_56, s_X4_sheet_57, s_X4_sheet_61, s_X4_sheet_64, s_X4_sheet_67, s_X4_sheet_68, s_X4_sheet_71, s_X4_sheet_74, s_X4_sheet_75, s_X4_sheet_76, s_X4_sheet_78, s_X4_sheet_79, s_X4_sheet_80, s_X4_sheet_81, s_X4_sheet_84, s_X4_sheet_87, s_X4_sheet_88, if_true, if_false, and_true, true_and, and_false, false_and, true_or, or_true, or_false, false_or, eq_self, not_true_eq_false, not_false_eq_true, zv_int, zv_ref, zv_null, zv_none, hK_sI, hF_sI, hJ_sI, hN_sI, hZ_sI, hI_sI_same, hK_sJ, hF_sJ, hI_sJ, hN_sJ, hZ_sJ, hJ_sJ_same, hK_sF, hI_sF, hJ_sF, hN_sF, hZ_sF, Option.bind_some, Option.toList_some, Option.toList_none, List.cons_append, List.nil_append, zq_ref, zq_null, L1.k70, L1.p70_2, L1.p70_3, L1.k72, L1.k73, z0, z1, s2, l2, c1, c0]
            rw [← eh2]
            exact eS
          · intro a a1 a2 a3 a4
            rw [hI_sI_ne _ _ a4, g2 a a2 a3, g1 a a1]
          · intro p hp
            rw [hI_sI_ne _ _ (by unfold aT; omega), g2 _ (by unfold aT; omega) (by unfold aT; omega), eh1, hI_sI_same, rw_in hp]
          · intro x
            rw [hI_sI_ne _ _ (by omega), eh2, hI_sI_ne _ _ (by omega), hI_sI_same, g1 _ (by unfold aT; omega)]
            rfl
          · intro x
            rw [hI_sI_ne _ _ (by omega), eh2, hI_sI_same, hI_sI_ne _ _ (by omega), g1 _ (by unfold aT; omega), em]
            rfl
          · intro x
            rw [hI_sI_same, g2 _ (by omega) (by omega), g1 _ (by unfold aT; omega)]
            rfl
          · intro a j
            rw [hF_sI, eh2, hF_sI, hF_sI, eh1, hF_sI, hF_sF, hF_sF, em]
          · rw [eh2, eh1]
            refine sameF_trans (sameF_trans (sameF_trans (sameF_trans (sameF_trans (sameF_sF _ ?_ ?_ ?_) (sameF_sF _ ?_ ?_ ?_)) (sameF_sI _ ?_)) (sameF_sI _ ?_)) (sameF_sI _ ?_)) (sameF_sI _ ?_) <;> (first | omega | (unfold aS; omega) | (unfold aT; omega))
        · obtain ⟨RB, fB, LB, _⟩ := bl_end (c := 3) R (by decide)
          refine ⟨_, o, z, ⟨.int (-13), blm b h 3, ?_, ?_⟩, RB, fB⟩
          · simp (decide := true) only [e_X3_sheet, s_X3_sheet_0, s_X3_sheet_1, s_X3_sheet_4, s_X3_sheet_7, s_X3_sheet_9, s_X3_sheet_10, s_X3_sheet_11, s_X3_sheet_14, s_X3_sheet_17, s_X3_sheet_18, s_X3_sheet_21, s_X3_sheet_24, s_X3_sheet_26, s_X3_sheet_27, s_X3_sheet_28, s_X3_sheet_31, s_X3_sheet_32, s_X3_sheet_33, s_X3_sheet_36, s_X3_sheet_37, s_X3_sheet_38, s_X3_sheet_41, s_X3_sheet_42, s_X3_sheet_43, s_X3_sheet_44, s_X3_sheet_45, s_X3_sheet_48, s_X3_sheet_49, if_true, if_false, and_true, true_and, and_false, false_and, true_or, or_true, or_false, false_or, eq_self, not_true_eq_false, not_false_eq_true, zv_int, zv_ref, zv_null, zv_none, hK_sI, hF_sI, hJ_sI, hN_sI, hZ_sI, hI_sI_same, hK_sJ, hF_sJ, hI_sJ, hN_sJ, hZ_sJ, hJ_sJ_same, hK_sF, hI_sF, hJ_sF, hN_sF, hZ_sF, Option.bind_some, Option.toList_some, Option.toList_none, List.cons_append, List.nil_append, zq_ref, zq_null, L.k0, s1, l1, c1, c0, bl3 L]
          · simp (decide := true) only [e_X4_sheet, s_X4_sheet_0, s_X4_sheet_1, s_X4_sheet_4, s_X4_sheet_7, s_X4_sheet_9, s_X4_sheet_10, s_X4_sheet_11, s_X4_sheet_12, s_X4_sheet_13, s_X4_sheet_16, s_X4_sheet_19, s_X4_sheet_22, s_X4_sheet_23, s_X4_sheet_26, s_X4_sheet_29, s_X4_sheet_31, s_X4_sheet_32, s_X4_sheet_33, s_X4_sheet_36, s_X4_sheet_37, s_X4_sheet_38, s_X4_sheet_41, s_X4_sheet_42, s_X4_sheet_43, s_X4_sheet_46, s_X4_sheet_47, s_X4_sheet_48, s_X4_sheet_49, s_X4_sheet_50, s_X4_sheet_53, s_X4_sheet_54, s_X4_sheet_55, s_X4_sheet_56, s_X4_sheet_57, s_X4_sheet_61, s_X4_sheet_64, s_X4_sheet_67, s_X4_sheet_68, s_X4_sheet_71, s_X4_sheet_74, s_X4_sheet_75, s_X4_sheet_76, s_X4_sheet_78, s_X4_sheet_79, s_X4_sheet_80, s_X4_sheet_81, s_X4_sheet_84, s_X4_sheet_87, s_X4_sheet_88, if_true, if_false, and_true, true_and, and_false, false_and, true_or, or_true, or_false, false_or, eq_self, not_true_eq_false, not_false_eq_true, zv_int, zv_ref, zv_null, zv_none, hK_sI, hF_sI, hJ_sI, hN_sI, hZ_sI, hI_sI_same, hK_sJ, hF_sJ, hI_sJ, hN_sJ, hZ_sJ, hJ_sJ_same, hK_sF, hI_sF, hJ_sF, hN_sF, hZ_sF, Option.bind_some, Option.toList_some, Option.toList_none, List.cons_append, List.nil_append, zq_ref, zq_null, LB.k70, s2, l2, c1, c0, mt3 LB]
      · refine ⟨h, o, z, ⟨.int (-102), h, ?_, ?_⟩, R, sameF_refl⟩
        · simp (decide := true) only [e_X3_sheet, s_X3_sheet_0, s_X3_sheet_1, s_X3_sheet_4, s_X3_sheet_7, s_X3_sheet_9, s_X3_sheet_10, s_X3_sheet_11, s_X3_sheet_14, s_X3_sheet_17, s_X3_sheet_18, s_X3_sheet_21, s_X3_sheet_24, s_X3_sheet_26, s_X3_sheet_27, s_X3_sheet_28, s_X3_sheet_31, s_X3_sheet_32, s_X3_sheet_33, s_X3_sheet_36, s_X3_sheet_37, s_X3_sheet_38, s_X3_sheet_41, s_X3_sheet_42, s_X3_sheet_43, s_X3_sheet_44, s_X3_sheet_45, s_X3_sheet_48, s_X3_sheet_49, if_true, if_false, and_true, true_and, and_false, false_and, true_or, or_true, or_false, false_or, eq_self, not_true_eq_false, not_false_eq_true, zv_int, zv_ref, zv_null, zv_none, hK_sI, hF_sI, hJ_sI, hN_sI, hZ_sI, hI_sI_same, hK_sJ, hF_sJ, hI_sJ, hN_sJ, hZ_sJ, hJ_sJ_same, hK_sF, hI_sF, hJ_sF, hN_sF, hZ_sF, Option.bind_some, Option.toList_some, Option.toList_none, List.cons_append, List.nil_append, zq_ref, zq_null, s1, l1, c1]
        · simp (decide := true) only [e_X4_sheet, s_X4_sheet_0, s_X4_sheet_1, s_X4_sheet_4, s_X4_sheet_7, s_X4_sheet_9, s_X4_sheet_10, s_X4_sheet_11, s_X4_sheet_12, s_X4_sheet_13, s_X4_sheet_16, s_X4_sheet_19, s_X4_sheet_22, s_X4_sheet_23, s_X4_sheet_26, s_X4_sheet_29, s_X4_sheet_31, s_X4_sheet_32, s_X4_sheet_33, s_X4_sheet_36, s_X4_sheet_37, s_X4_sheet_38, s_X4_sheet_41, s_X4_sheet_42, s_X4_sheet_43, s_X4_sheet_46, s_X4_sheet_47, s_X4_sheet_48, s_X4_sheet_49, s_X4_sheet_50, s_X4_sheet_53, s_X4_sheet_54, s_X4_sheet_55, s_X4_sheet_56, s_X4_sheet_57, s_X4_sheet_61, s_X4_sheet_64, s_X4_sheet_67, s_X4_sheet_68, s_X4_sheet_71, s_X4_sheet_74, s_X4_sheet_75, s_X4_sheet_76, s_X4_sheet_78, s_X4_sheet_79, s_X4_sheet_80, s_X4_sheet_81, s_X4_sheet_84, s_X4_sheet_87, s_X4_sheet_88, if_true, if_false, and_true, true_and, and_false, false_and, true_or, or_true, or_false, false_or, eq_self, not_true_eq_false, not_false_eq_true, zv_int, zv_ref, zv_null, zv_none, hK_sI, hF_sI, hJ_sI, hN_sI, hZ_sI, hI_sI_same, hK_sJ, hF_sJ, hI_sJ, hN_sJ, hZ_sJ, hJ_sJ_same, hK_sF, hI_sF, hJ_sF, hN_sF, hZ_sF, Option.bind_some, Option.toList_some, Option.toList_none, List.cons_append, List.nil_append, zq_ref, zq_null, s2, l2, c1]
end
