/-! ===== a number of a sheet ===== -/
section
variable {E : mE} {d : Nat} {h : mH} {b : Nat}
theorem shC (s : Int32) : cal E (d + 1) kX3_isSheet [.int s] h = some (some (.int (if s < 0 ∨ nI 4 ≤ s then 0 else 1)), h) := by
  rw [c_X3_isSheet]
  have e4 : (4 : Int32) = nI 4 := rfl
  rw [e4]
  by_cases c1 : s < 0 <;> by_cases c2 : nI 4 ≤ s <;> simp [c1, c2]
theorem shM (s : Int32) : cal E (d + 2) kX4_isSheet [.int s] h = some (some (.int (if s < 0 ∨ nI 4 ≤ s then 0 else 1)), h) := by
  rw [c_X4_isSheet]
  have j1 : (0 ≤ s) ↔ ¬ s < 0 := by rw [n32_lt]
  have j2 : (s ≤ 3) ↔ ¬ nI 4 ≤ s := by
    rw [n32_le, Int32.le_iff_toInt_le, Int32.lt_iff_toInt_lt]
    have e3 : (3 : Int32).toInt = 3 := rfl
    have e4 : (nI 4).toInt = 4 := rfl
    omega
  by_cases c1 : s < 0 <;> by_cases c2 : nI 4 ≤ s <;> simp [j1, j2, c1, c2]
theorem pfS2 : ∀ s, s < 4 → PF (14 + 2 * s) 2 = none := by decide +kernel
theorem Rel_lose {o : Nat → Nat} {z : Nat → Option Nat} {k : Nat} (R : Rel b o z h) (hk : k < 4) : Rel b o (fu z k none) (sI (sF h (aS b k) 2 (.int (-1))) (b + 72) (upd (hI h (b + 72)) k (-1))) := by
  obtain ⟨L, r1, r2, r3, r4, r5, r6, r7, r8, r9, r10, r11⟩ := R
  have n : ∀ a, a ≠ b + 72 → hI (sI (sF h (aS b k) 2 (.int (-1))) (b + 72) (upd (hI h (b + 72)) k (-1))) a = hI h a := fun a ha => hI_sI_ne (sF h (aS b k) 2 (.int (-1))) _ ha
  have f : ∀ a j, ¬ (a = aS b k ∧ j = 2) → hF (sI (sF h (aS b k) 2 (.int (-1))) (b + 72) (upd (hI h (b + 72)) k (-1))) a j = hF h a j := fun a j ha => by
    rw [hF_sI, hF_sF, if_neg ha]
  have u : ∀ x, hI (sI (sF h (aS b k) 2 (.int (-1))) (b + 72) (upd (hI h (b + 72)) k (-1))) (b + 72) x = if x = k then -1 else hI h (b + 72) x := fun x => by
    rw [hI_sI_same]; rfl
  refine ⟨(L.sF (14 + 2 * k) 2 _ (pfS2 k hk)).sI _ _, ?_, ?_, ?_, ?_, ?_, ?_, ?_, ?_, ?_, ?_, ?_⟩
  · intro q hq
    rw [f _ _ (by unfold aQ aS; omega)]
    exact r1 q hq
  · intro q hq
    rw [n _ (by omega)]
    exact r2 q hq
  · intro s hs
    unfold fu
    by_cases c : s = k
    · subst c
      rw [if_pos rfl, hF_sI, hF_sF, if_pos ⟨rfl, rfl⟩]
      exact ⟨rfl, by decide⟩
    · rw [if_neg c, f _ _ (by unfold aS; omega)]
      exact r3 s hs
  · intro s hs
    rw [u, n (b + 73) (by omega)]
    unfold fu
    by_cases c : s = k
    · rw [if_pos c, if_pos c]
      exact ⟨⟨fun _ => rfl, fun _ => rfl⟩, (fun m hm => by cases hm), by decide⟩
    · rw [if_neg c, if_neg c]
      exact r4 s hs
  · intro q hq
    rw [n (b + 77) (by omega), n (aR b q) (by unfold aR; omega)]
    exact r5 q hq
  · intro s hs
    rw [n (b + 74) (by omega), n (aT b s) (by unfold aT; omega)]
    exact r6 s hs
  · intro s hs
    rw [u, f _ _ (by omega)]
    unfold fu
    by_cases c : s = k
    · rw [if_pos c]
      exact fun q => absurd rfl q
    · rw [if_neg c, if_neg c]
      exact r7 s hs
  · rw [f b 7 (by omega), f (b + 70) 0 (by omega)]
    exact r8
  · intro c hc
    rw [n (b + 13) (by omega), n (b + 71) (by omega)]
    exact r9 c hc
  · rw [f b 8 (by omega), f (b + 70) 13 (by omega)]
    exact r10
  · rw [f (b + 8) 3 (by omega), f (b + 70) 12 (by omega)]
    exact r11
theorem op_lose {o : Nat → Nat} {z : Nat → Option Nat} {q : Int32} (R : Rel b o z h) : ∃ h2, Op E (d + 9) b kX3_lose kX4_lose [.int q] h h2 ∧ (h2 = h ∨ h2 = mts b (blm b h 1) 1 ∨ ∃ k, k < 4 ∧ h2 = sI (sF h (aS b k) 2 (.int (-1))) (b + 72) (upd (hI h (b + 72)) k (-1))) := by
  have R' := R
  obtain ⟨L, _, _, hz, hy, _⟩ := R'
  have s1 := shC (E := E) (d := d + 7) (h := h) q
  rcases rng (N := 4) (by decide) q with c | ⟨k, hk, e⟩
  · have s2 := shM (E := E) (d := d + 6) (h := h) q
    simp only [c, if_true] at s1 s2
    refine ⟨h, ⟨.int (-101), h, ?_, ?_⟩, Or.inl rfl⟩
    · simp (decide := true) only [e_X3_lose, s_X3_lose_0, s_X3_lose_1, s_X3_lose_4, s_X3_lose_7, s_X3_lose_9, s_X3_lose_10, s_X3_lose_11, s_X3_lose_14, s_X3_lose_15, s_X3_lose_16, s_X3_lose_16n, s_X3_lose_17, s_X3_lose_17n, s_X3_lose_18, s_X3_lose_21, s_X3_lose_24, s_X3_lose_25, s_X3_lose_26, s_X3_lose_29, s_X3_lose_30, s_X3_lose_30n, s_X3_lose_31, s_X3_lose_34, s_X3_lose_35, s_X3_lose_35n, s_X3_lose_36, s_X3_lose_37, s_X3_lose_40, s_X3_lose_41, if_true, if_false, and_true, true_and, and_false, false_and, true_or, or_true, or_false, false_or, eq_self, not_true_eq_false, not_false_eq_true, zv_int, zv_ref, zv_null, zv_none, hK_sI, hF_sI, hJ_sI, hN_sI, hZ_sI, hI_sI_same, hK_sJ, hF_sJ, hI_sJ, hN_sJ, hZ_sJ, hJ_sJ_same, hK_sF, hI_sF, hJ_sF, hN_sF, hZ_sF, Option.bind_some, Option.toList_some, Option.toList_none, List.cons_append, List.nil_append, zq_ref, zq_null, s1]
    · simp (decide := true) only [e_X4_lose, s_X4_lose_0, s_X4_lose_1, s_X4_lose_4, s_X4_lose_7, s_X4_lose_9, s_X4_lose_10, s_X4_lose_11, s_X4_lose_14, s_X4_lose_15, s_X4_lose_16, s_X4_lose_17, s_X4_lose_20, s_X4_lose_21, s_X4_lose_22, s_X4_lose_25, s_X4_lose_26, s_X4_lose_27, s_X4_lose_30, s_X4_lose_31, s_X4_lose_32, s_X4_lose_33, s_X4_lose_34, s_X4_lose_37, s_X4_lose_38, s_X4_lose_39, if_true, if_false, and_true, true_and, and_false, false_and, true_or, or_true, or_false, false_or, eq_self, not_true_eq_false, not_false_eq_true, zv_int, zv_ref, zv_null, zv_none, hK_sI, hF_sI, hJ_sI, hN_sI, hZ_sI, hI_sI_same, hK_sJ, hF_sJ, hI_sJ, hN_sJ, hZ_sJ, hJ_sJ_same, hK_sF, hI_sF, hJ_sF, hN_sF, hZ_sF, Option.bind_some, Option.toList_some, Option.toList_none, List.cons_append, List.nil_append, zq_ref, zq_null, s2]
  · have c : ¬ (q < 0 ∨ nI 4 ≤ q) := by
      rw [e]
      exact fun c => c.elim (fun c => nI_nlt (b := 0) (by omega) (by omega) c) (fun c => nI_ge hk (by omega) c)
    have z0 : zR q 4 := by rw [e]; exact zR_to (by decide) hk
    have z1 : q.toNatClampNeg = k := by rw [e]; exact nI_clamp (by omega)
    have hzk := hz k hk
    have hyk := hy k hk
    have e1 := c_X1_isMissing (E := E) (d := d + 7) (L.kS hk) hzk.1
    have n1 : nI 1 = 1 := rfl
    have n11 : (-10 : Int32) - 1 = -11 := by decide
    cases c0 : z k with
    | none =>
      have s2 := shM (E := E) (d := d + 6) (h := blm b h 1) q
      simp only [c, if_false] at s1 s2
      simp only [c0, zs_lt (x := none) (by decide), if_true] at e1
      have e2 := c_X3_blame (E := E) (d := d + 7) (c := 1) L (by decide) (by decide)
      have L1 : Lay b (blm b h 1) := (L.sF 0 7 _ (by decide +kernel)).sI _ _
      have e3 := c_X4_meets (E := E) (d := d + 7) (c := 1) L1 (by decide)
      have n72 : hI (blm b h 1) (b + 72) = hI h (b + 72) := by unfold blm; rw [hI_sI_ne _ _ (by omega), hI_sF]
      simp only [n1, n11] at e2 e3
      have c1 : hI h (b + 72) k = -1 := hyk.1.2 c0
      refine ⟨_, ⟨.int (-11), blm b h 1, ?_, ?_⟩, Or.inr (Or.inl rfl)⟩
      · simp (decide := true) only [e_X3_lose, s_X3_lose_0, s_X3_lose_1, s_X3_lose_4, s_X3_lose_7, s_X3_lose_9, s_X3_lose_10, s_X3_lose_11, s_X3_lose_14, s_X3_lose_15, s_X3_lose_16, s_X3_lose_16n, s_X3_lose_17, s_X3_lose_17n, s_X3_lose_18, s_X3_lose_21, s_X3_lose_24, s_X3_lose_25, s_X3_lose_26, s_X3_lose_29, s_X3_lose_30, s_X3_lose_30n, s_X3_lose_31, s_X3_lose_34, s_X3_lose_35, s_X3_lose_35n, s_X3_lose_36, s_X3_lose_37, s_X3_lose_40, s_X3_lose_41, if_true, if_false, and_true, true_and, and_false, false_and, true_or, or_true, or_false, false_or, eq_self, not_true_eq_false, not_false_eq_true, zv_int, zv_ref, zv_null, zv_none, hK_sI, hF_sI, hJ_sI, hN_sI, hZ_sI, hI_sI_same, hK_sJ, hF_sJ, hI_sJ, hN_sJ, hZ_sJ, hJ_sJ_same, hK_sF, hI_sF, hJ_sF, hN_sF, hZ_sF, Option.bind_some, Option.toList_some, Option.toList_none, List.cons_append, List.nil_append, zq_ref, zq_null, L.k0, L.p0_0, L.k1, L.p1 hk, L.kS hk, z0, z1, s1, e1, e2]
        rfl
      · simp (decide := true) only [e_X4_lose, s_X4_lose_0, s_X4_lose_1, s_X4_lose_4, s_X4_lose_7, s_X4_lose_9, s_X4_lose_10, s_X4_lose_11, s_X4_lose_14, s_X4_lose_15, s_X4_lose_16, s_X4_lose_17, s_X4_lose_20, s_X4_lose_21, s_X4_lose_22, s_X4_lose_25, s_X4_lose_26, s_X4_lose_27, s_X4_lose_30, s_X4_lose_31, s_X4_lose_32, s_X4_lose_33, s_X4_lose_34, s_X4_lose_37, s_X4_lose_38, s_X4_lose_39, if_true, if_false, and_true, true_and, and_false, false_and, true_or, or_true, or_false, false_or, eq_self, not_true_eq_false, not_false_eq_true, zv_int, zv_ref, zv_null, zv_none, hK_sI, hF_sI, hJ_sI, hN_sI, hZ_sI, hI_sI_same, hK_sJ, hF_sJ, hI_sJ, hN_sJ, hZ_sJ, hJ_sJ_same, hK_sF, hI_sF, hJ_sF, hN_sF, hZ_sF, Option.bind_some, Option.toList_some, Option.toList_none, List.cons_append, List.nil_append, zq_ref, zq_null, L1.k70, L1.p70_2, L1.k72, z0, z1, s2, n72, c1, e3]
        rfl
    | some m =>
      have s2 := shM (E := E) (d := d + 6) (h := sF h (aS b k) 2 (.int (-1))) q
      simp only [c, if_false] at s1 s2
      have e3 : ¬ zs (some m) < 0 := fun x => by have := (zs_lt (by rw [← c0]; exact hzk.2)).1 x; cases this
      simp only [c0, e3, if_false] at e1
      have L1 : Lay b (sF h (aS b k) 2 (.int (-1))) := L.sF (14 + 2 * k) 2 _ (pfS2 k hk)
      have c1 : ¬ hI h (b + 72) k = -1 := fun x => by have := hyk.1.1 x; rw [c0] at this; cases this
      have c2 := hyk.2.1 m c0
      have c3 : hF h (aS b k) 2 = .int (nI m) := by rw [hzk.1, c0]; rfl
      have n73 : hI (sI (sF h (aS b k) 2 (.int (-1))) (b + 72) (upd (hI h (b + 72)) k (-1))) (b + 73) = hI h (b + 73) := hI_sI_ne (sF h (aS b k) 2 (.int (-1))) _ (by omega)
      refine ⟨_, ⟨.int (nI m), sF h (aS b k) 2 (.int (-1)), ?_, ?_⟩, Or.inr (Or.inr ⟨k, hk, rfl⟩)⟩
      · simp (decide := true) only [e_X3_lose, s_X3_lose_0, s_X3_lose_1, s_X3_lose_4, s_X3_lose_7, s_X3_lose_9, s_X3_lose_10, s_X3_lose_11, s_X3_lose_14, s_X3_lose_15, s_X3_lose_16, s_X3_lose_16n, s_X3_lose_17, s_X3_lose_17n, s_X3_lose_18, s_X3_lose_21, s_X3_lose_24, s_X3_lose_25, s_X3_lose_26, s_X3_lose_29, s_X3_lose_30, s_X3_lose_30n, s_X3_lose_31, s_X3_lose_34, s_X3_lose_35, s_X3_lose_35n, s_X3_lose_36, s_X3_lose_37, s_X3_lose_40, s_X3_lose_41, if_true, if_false, and_true, true_and, and_false, false_and, true_or, or_true, or_false, false_or, eq_self, not_true_eq_false, not_false_eq_true, zv_int, zv_ref, zv_null, zv_none, hK_sI, hF_sI, hJ_sI, hN_sI, hZ_sI, hI_sI_same, hK_sJ, hF_sJ, hI_sJ, hN_sJ, hZ_sJ, hJ_sJ_same, hK_sF, hI_sF, hJ_sF, hN_sF, hZ_sF, Option.bind_some, Option.toList_some, Option.toList_none, List.cons_append, List.nil_append, zq_ref, zq_null, L.k0, L.p0_0, L.k1, L.p1 hk, L.kS hk, z0, z1, s1, e1, c3]
      · simp (decide := true) only [e_X4_lose, s_X4_lose_0, s_X4_lose_1, s_X4_lose_4, s_X4_lose_7, s_X4_lose_9, s_X4_lose_10, s_X4_lose_11, s_X4_lose_14, s_X4_lose_15, s_X4_lose_16, s_X4_lose_17, s_X4_lose_20, s_X4_lose_21, s_X4_lose_22, s_X4_lose_25, s_X4_lose_26, s_X4_lose_27, s_X4_lose_30, s_X4_lose_31, s_X4_lose_32, s_X4_lose_33, s_X4_lose_34, s_X4_lose_37, s_X4_lose_38, s_X4_lose_39, if_true, if_false, and_true, true_and, and_false, false_and, true_or, or_true, or_false, false_or, eq_self, not_true_eq_false, not_false_eq_true, zv_int, zv_ref, zv_null, zv_none, hK_sI, hF_sI, hJ_sI, hN_sI, hZ_sI, hI_sI_same, hK_sJ, hF_sJ, hI_sJ, hN_sJ, hZ_sJ, hJ_sJ_same, hK_sF, hI_sF, hJ_sF, hN_sF, hZ_sF, Option.bind_some, Option.toList_some, Option.toList_none, List.cons_append, List.nil_append, zq_ref, zq_null, L1.k70, L1.p70_2, L1.p70_3, L1.k72, L1.k73, L.k70, L.k72, L.k73, z0, z1, s2, c1, n73, c2]
end
