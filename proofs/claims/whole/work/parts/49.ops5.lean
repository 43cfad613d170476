/-! ===== kinds, drop ===== -/
section
variable {E : mE} {d : Nat} {h : mH} {b : Nat}
theorem op_kinds {o : Nat → Nat} {z : Nat → Option Nat} {q : Int32} (R : Rel b o z h) : ∃ h2, Op E (d + 9) b kX3_kinds kX4_kinds [.int q] h h2 ∧ (h2 = h ∨ ∃ f g, h2 = sI (sI h (b + 7) f) (b + 79) g) := by
  have R' := R
  obtain ⟨L, ho, hm, _, _, hr, _⟩ := R'
  rcases kn2 R q with ⟨e1, e2⟩ | ⟨k, hk, e, h1, e1, e2⟩
  · refine ⟨h, ⟨.int (-101), h, ?_, ?_⟩, Or.inl rfl⟩
    · simp only [e_X3_kinds, s_X3_kinds_0, s_X3_kinds_1, s_X3_kinds_2, s_X3_kinds_5n, s_X3_kinds_6n, s_X3_kinds_7n, s_X3_kinds_10, s_X3_kinds_12, s_X3_kinds_23, if_true, if_false, and_true, true_and, and_false, false_and, true_or, or_true, or_false, false_or, eq_self, not_true_eq_false, not_false_eq_true, zv_int, zv_ref, zv_null, zv_none, hK_sI, hF_sI, hJ_sI, hN_sI, hZ_sI, hI_sI_same, hK_sJ, hF_sJ, hI_sJ, hN_sJ, hZ_sJ, hJ_sJ_same, hK_sF, hI_sF, hJ_sF, hN_sF, hZ_sF, Option.bind_some, Option.toList_some, Option.toList_none, List.cons_append, List.nil_append, zq_ref, zq_null, L.k0, e1 E (d + 7)]
    · simp (decide := true) only [e_X4_kinds, s_X4_kinds_0, s_X4_kinds_1, s_X4_kinds_2, s_X4_kinds_5, s_X4_kinds_8, s_X4_kinds_10, s_X4_kinds_11, s_X4_kinds_12, s_X4_kinds_13, s_X4_kinds_16, s_X4_kinds_19, s_X4_kinds_21, s_X4_kinds_24, s_X4_kinds_25, s_X4_kinds_26, s_X4_kinds_27, s_X4_kinds_28, s_X4_kinds_29, s_X4_kinds_30, s_X4_kinds_33, s_X4_kinds_34, s_X4_kinds_37, s_X4_kinds_38, s_X4_kinds_39, s_X4_kinds_40, s_X4_kinds_41, s_X4_kinds_42, s_X4_kinds_43, s_X4_kinds_44, s_X4_kinds_45, s_X4_kinds_46, s_X4_kinds_47, s_X4_kinds_50, s_X4_kinds_51, s_X4_kinds_54, s_X4_kinds_55, s_X4_kinds_56, s_X4_kinds_57, s_X4_kinds_58, s_X4_kinds_59, s_X4_kinds_60, s_X4_kinds_61, s_X4_kinds_62, s_X4_kinds_63, s_X4_kinds_64, s_X4_kinds_65, s_X4_kinds_68, s_X4_kinds_69, s_X4_kinds_72, s_X4_kinds_73, s_X4_kinds_76, s_X4_kinds_77, s_X4_kinds_78, s_X4_kinds_79, s_X4_kinds_80, s_X4_kinds_81, s_X4_kinds_82, s_X4_kinds_85, s_X4_kinds_88, s_X4_kinds_90, s_X4_kinds_93, s_X4_kinds_94, s_X4_kinds_95, s_X4_kinds_96, s_X4_kinds_97, s_X4_kinds_98, s_X4_kinds_99, s_X4_kinds_100, s_X4_kinds_103, s_X4_kinds_104, s_X4_kinds_107, s_X4_kinds_108, s_X4_kinds_111, s_X4_kinds_112, s_X4_kinds_113, s_X4_kinds_114, s_X4_kinds_115, s_X4_kinds_118, s_X4_kinds_120, s_X4_kinds_123, s_X4_kinds_124, s_X4_kinds_125, s_X4_kinds_126, s_X4_kinds_127, s_X4_kinds_130, s_X4_kinds_131, s_X4_kinds_132, s_X4_kinds_133, s_X4_kinds_134, s_X4_kinds_137, s_X4_kinds_138, s_X4_kinds_141, s_X4_kinds_142, s_X4_kinds_144, s_X4_kinds_145, s_X4_kinds_148, s_X4_kinds_149, if_true, if_false, and_true, true_and, and_false, false_and, true_or, or_true, or_false, false_or, eq_self, not_true_eq_false, not_false_eq_true, zv_int, zv_ref, zv_null, zv_none, hK_sI, hF_sI, hJ_sI, hN_sI, hZ_sI, hI_sI_same, hK_sJ, hF_sJ, hI_sJ, hN_sJ, hZ_sJ, hJ_sJ_same, hK_sF, hI_sF, hJ_sF, hN_sF, hZ_sF, Option.bind_some, Option.toList_some, Option.toList_none, List.cons_append, List.nil_append, zq_ref, zq_null, L.k70, e2 E (d + 6)]
  · have hne : aR b k ≠ b + 7 := by unfold aR; omega
    obtain ⟨f, e3⟩ := c_X2_kindBits (E := E) (d := d + 3) (L.kQ hk) (L.kR hk) L.k7 hne (L.pQ hk) (ho k hk).1 ⟨h1, (ho k hk).2⟩
    have n76 : hI (sI h (b + 7) f) (b + 76) = hI h (b + 76) := hI_sI_ne h _ (by omega)
    have n77 : hI (sI h (b + 7) f) (b + 77) = hI h (b + 77) := hI_sI_ne h _ (by omega)
    obtain ⟨g, e4⟩ := c_X4_kinds (E := E) (d := d + 5) (h := sI h (b + 7) f) (L.sI _ _) hk (by rw [n76]; exact (hm k hk).1) ⟨h1, (hm k hk).2⟩
    rw [n77, ← KB_cg (hr k hk).1, ← e] at e4
    refine ⟨_, ⟨.int (KB (hI h (aR b k)) (o k)), sI h (b + 7) f, ?_, e4⟩, Or.inr ⟨f, g, rfl⟩⟩
    simp only [e_X3_kinds, s_X3_kinds_0, s_X3_kinds_1, s_X3_kinds_2, s_X3_kinds_5, s_X3_kinds_5n, s_X3_kinds_6, s_X3_kinds_6n, s_X3_kinds_7, s_X3_kinds_7n, s_X3_kinds_10, s_X3_kinds_12, s_X3_kinds_15, s_X3_kinds_15n, s_X3_kinds_16, s_X3_kinds_17, s_X3_kinds_20, s_X3_kinds_23, if_true, if_false, and_true, true_and, and_false, false_and, true_or, or_true, or_false, false_or, eq_self, not_true_eq_false, not_false_eq_true, zv_int, zv_ref, zv_null, zv_none, hK_sI, hF_sI, hJ_sI, hN_sI, hZ_sI, hI_sI_same, hK_sJ, hF_sJ, hI_sJ, hN_sJ, hZ_sJ, hJ_sJ_same, hK_sF, hI_sF, hJ_sF, hN_sF, hZ_sF, Option.bind_some, Option.toList_some, Option.toList_none, List.cons_append, List.nil_append, zq_ref, zq_null, L.k0, L.p0_4, e1 E (d + 7), L.kQ hk, e3]
theorem pfQ : ∀ q, q < 24 → PF (22 + 2 * q) 1 = none := by decide +kernel
/-- a function changed at one place -/
def fu {A : Type} (o : Nat → A) (k : Nat) (v : A) : Nat → A := fun x => if x = k then v else o x
theorem Rel_ord {o : Nat → Nat} {z : Nat → Option Nat} {k : Nat} (R : Rel b o z h) (hk : k < 24) : Rel b (fu o k 0) z (sI (sF h (aQ b k) 1 (.int 0)) (b + 76) (upd (hI h (b + 76)) k 0)) := by
  obtain ⟨L, r1, r2, r3, r4, r5, r6, r7, r8, r9, r10, r11⟩ := R
  have n : ∀ j, j ≠ 76 → hI (sI (sF h (aQ b k) 1 (.int 0)) (b + 76) (upd (hI h (b + 76)) k 0)) (b + j) = hI h (b + j) := fun j hj => hI_sI_ne (sF h (aQ b k) 1 (.int 0)) _ (by omega)
  have nR : ∀ q, q < 24 → hI (sI (sF h (aQ b k) 1 (.int 0)) (b + 76) (upd (hI h (b + 76)) k 0)) (aR b q) = hI h (aR b q) := fun q hq => hI_sI_ne (sF h (aQ b k) 1 (.int 0)) _ (by unfold aR; omega)
  have nT : ∀ s, s < 4 → hI (sI (sF h (aQ b k) 1 (.int 0)) (b + 76) (upd (hI h (b + 76)) k 0)) (aT b s) = hI h (aT b s) := fun s hs => hI_sI_ne (sF h (aQ b k) 1 (.int 0)) _ (by unfold aT; omega)
  have f : ∀ a j, a ≠ aQ b k → hF (sI (sF h (aQ b k) 1 (.int 0)) (b + 76) (upd (hI h (b + 76)) k 0)) a j = hF h a j := fun a j ha => by
    rw [hF_sI, hF_sF, if_neg (fun q => ha q.1)]
  have nb : ∀ j, j < 22 ∨ 70 ≤ j → b + j ≠ aQ b k := fun j hj => by unfold aQ; omega
  refine ⟨(L.sF (22 + 2 * k) 1 _ (pfQ k hk)).sI _ _, ?_, ?_, ?_, ?_, ?_, ?_, ?_, ?_, ?_, ?_, ?_⟩
  · intro q hq
    unfold fu
    by_cases c : q = k
    · subst c
      rw [if_pos rfl, hF_sI, hF_sF, if_pos ⟨rfl, rfl⟩]
      exact ⟨rfl, by omega⟩
    · rw [if_neg c, f _ _ (by unfold aQ; omega)]
      exact r1 q hq
  · intro q hq
    unfold fu
    rw [hI_sI_same]
    unfold upd
    by_cases c : q = k
    · rw [if_pos c, if_pos c]
      exact ⟨rfl, by omega⟩
    · rw [if_neg c, if_neg c]
      exact r2 q hq
  · intro s hs
    rw [f _ _ (by unfold aS aQ; omega)]
    exact r3 s hs
  · intro s hs
    rw [n 72 (by omega), n 73 (by omega)]
    exact r4 s hs
  · intro q hq
    rw [n 77 (by omega), nR q hq]
    unfold fu
    by_cases c : q = k
    · rw [if_pos c]
      exact ⟨fun p hp => absurd hp (by omega), fun p hp => absurd hp (by omega)⟩
    · rw [if_neg c]
      exact r5 q hq
  · intro s hs
    rw [n 74 (by omega), nT s hs]
    exact r6 s hs
  · intro s hs
    rw [n 72 (by omega), f _ _ (by unfold aS aQ; omega)]
    exact r7 s hs
  · rw [f b 7 (nb 0 (by omega)), f (b + 70) 0 (nb 70 (by omega))]
    exact r8
  · intro c hc
    rw [n 13 (by omega), n 71 (by omega)]
    exact r9 c hc
  · rw [f b 8 (nb 0 (by omega)), f (b + 70) 13 (nb 70 (by omega))]
    exact r10
  · rw [f (b + 8) 3 (nb 8 (by omega)), f (b + 70) 12 (nb 70 (by omega))]
    exact r11
end
