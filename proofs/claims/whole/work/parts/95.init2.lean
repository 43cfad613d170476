/-! ===== the class is made ===== -/
section
variable {E : mE} {d : Nat} {b : Nat} {m z : Nat} {kf : Nat → Nat × Nat} {ff : Nat → Nat → Value}
/-- kinds and fields with s sheets made -/
def kSh (kf : Nat → Nat × Nat) (s : Nat) : Nat → Nat × Nat := fun o => if 14 ≤ o ∧ o < 14 + 2 * s then (if o % 2 = 0 then (11, 3) else (1, 150)) else kf o
def shv (b o j : Nat) : Value := if j = 0 then .ref (b + (o + 1)) else if j = 1 then .int 0 else if j = 2 then .int (-1) else zd 1 j
def fSh (b : Nat) (ff : Nat → Nat → Value) (s : Nat) : Nat → Nat → Value := fun o j => if 14 ≤ o ∧ o < 14 + 2 * s then (if o % 2 = 0 then shv b o j else .null) else if o = 1 ∧ j < s then .ref (b + (14 + 2 * j)) else ff o j
theorem kSh_s {s : Nat} : kS (kS (kSh kf s) (14 + 2 * s) (11, 3)) (14 + 2 * s + 1) (1, 150) = kSh kf (s + 1) := by
  funext o
  unfold kS kSh
  by_cases c1 : o = 14 + 2 * s + 1
  · rw [if_pos c1, if_pos (by omega), if_neg (by omega)]
  · rw [if_neg c1]
    by_cases c2 : o = 14 + 2 * s
    · rw [if_pos c2, if_pos (by omega), if_pos (by omega)]
    · rw [if_neg c2]
      by_cases c3 : 14 ≤ o ∧ o < 14 + 2 * s
      · rw [if_pos c3, if_pos (show 14 ≤ o ∧ o < 14 + 2 * (s + 1) by omega)]
      · rw [if_neg c3, if_neg (show ¬ (14 ≤ o ∧ o < 14 + 2 * (s + 1)) by omega)]
theorem fSh_s {s : Nat} : fS (fS (fS (fS (fN (fN (fSh b ff s) (14 + 2 * s) (zd 1)) (14 + 2 * s + 1) nul) (14 + 2 * s) 0 (.ref (b + (14 + 2 * s + 1)))) (14 + 2 * s) 1 (.int 0)) (14 + 2 * s) 2 (.int (-1))) 1 s (.ref (b + (14 + 2 * s))) = fSh b ff (s + 1) := by
  funext o j
  unfold fS fN fSh
  by_cases c1 : o = 14 + 2 * s
  · have c2 : ¬ o = 1 := by omega
    have c3 : ¬ o = 14 + 2 * s + 1 := by omega
    rw [if_neg (fun q => c2 q.1)]
    rw [if_pos (show 14 ≤ o ∧ o < 14 + 2 * (s + 1) by omega), if_pos (show o % 2 = 0 by omega)]
    unfold shv
    by_cases d2 : j = 2
    · rw [if_pos ⟨c1, d2⟩, if_neg (by omega), if_neg (by omega), if_pos d2]
    · rw [if_neg (fun q => d2 q.2)]
      by_cases d1 : j = 1
      · rw [if_pos ⟨c1, d1⟩, if_neg (by omega), if_pos d1]
      · rw [if_neg (fun q => d1 q.2)]
        by_cases d0 : j = 0
        · rw [if_pos ⟨c1, d0⟩, if_pos d0, c1]
        · rw [if_neg (fun q => d0 q.2), if_neg c3, if_pos c1, if_neg d0, if_neg d1, if_neg d2]
  · have n1 : ∀ k, ¬ (o = 14 + 2 * s ∧ j = k) := fun k q => c1 q.1
    by_cases c3 : o = 14 + 2 * s + 1
    · have c2 : ¬ o = 1 := by omega
      rw [if_neg (fun q => c2 q.1), if_neg (n1 2), if_neg (n1 1), if_neg (n1 0), if_pos c3, if_pos (by omega), if_neg (by omega)]
      rfl
    · by_cases c2 : o = 1
      · by_cases d1 : j = s
        · rw [if_pos ⟨c2, d1⟩, if_neg (show ¬ (14 ≤ o ∧ o < 14 + 2 * (s + 1)) by omega), if_pos (show o = 1 ∧ j < s + 1 by omega), d1]
        · rw [if_neg (fun q => d1 q.2), if_neg (n1 2), if_neg (n1 1), if_neg (n1 0), if_neg c3, if_neg c1, if_neg (show ¬ (14 ≤ o ∧ o < 14 + 2 * s) by omega), if_neg (show ¬ (14 ≤ o ∧ o < 14 + 2 * (s + 1)) by omega)]
          by_cases d2 : j < s
          · rw [if_pos (show o = 1 ∧ j < s from ⟨c2, d2⟩), if_pos (show o = 1 ∧ j < s + 1 by omega)]
          · rw [if_neg (show ¬ (o = 1 ∧ j < s) by omega), if_neg (show ¬ (o = 1 ∧ j < s + 1) by omega)]
      · rw [if_neg (fun q => c2 q.1), if_neg (n1 2), if_neg (n1 1), if_neg (n1 0), if_neg c3, if_neg c1]
        by_cases c4 : 14 ≤ o ∧ o < 14 + 2 * s
        · rw [if_pos c4, if_pos (show 14 ≤ o ∧ o < 14 + 2 * (s + 1) by omega)]
        · rw [if_neg c4, if_neg (show ¬ (14 ≤ o ∧ o < 14 + 2 * (s + 1)) by omega), if_neg (show ¬ (o = 1 ∧ j < s) by omega), if_neg (show ¬ (o = 1 ∧ j < s + 1) by omega)]
theorem lp_sheets (f0 : ff 0 0 = .ref (b + 1)) (k0 : kf 0 = (13, 10)) (k1 : kf 1 = (4, 4)) : ∀ k s, s + k = 4 → zl E (d + 1) kX3_init 88 [some (.ref b), some (.int (nI s))] [] (bh b (14 + 2 * s) (z + 153 * s) (kSh kf s) (fSh b ff s)) = zl E (d + 1) kX3_init 112 [some (.ref b), some (.int (nI 4))] [] (bh b (14 + 2 * 4) (z + 153 * 4) (kSh kf 4) (fSh b ff 4))
  | 0, s, e => by
    have : s = 4 := by omega
    subst this
    rw [s_X3_init_88]
    simp (decide := true) only [s_X3_init_0, s_X3_init_1, s_X3_init_4, s_X3_init_5, s_X3_init_6, s_X3_init_9, s_X3_init_12, s_X3_init_13, s_X3_init_15, s_X3_init_18, s_X3_init_21, s_X3_init_22, s_X3_init_25, s_X3_init_26, s_X3_init_29, s_X3_init_32, s_X3_init_33, s_X3_init_36, s_X3_init_37, s_X3_init_40, s_X3_init_43, s_X3_init_44, s_X3_init_47, s_X3_init_49, s_X3_init_52, s_X3_init_53, s_X3_init_56, s_X3_init_57, s_X3_init_60, s_X3_init_63, s_X3_init_64, s_X3_init_66, s_X3_init_68, s_X3_init_71, s_X3_init_72, s_X3_init_73, s_X3_init_76, s_X3_init_77, s_X3_init_78, s_X3_init_81, s_X3_init_82, s_X3_init_83, s_X3_init_86, s_X3_init_87, s_X3_init_89, s_X3_init_90, s_X3_init_93, s_X3_init_94, s_X3_init_97, s_X3_init_98, s_X3_init_101, s_X3_init_102, s_X3_init_105, s_X3_init_106, s_X3_init_109, s_X3_init_113, s_X3_init_115, s_X3_init_117, s_X3_init_120, s_X3_init_121, s_X3_init_124, s_X3_init_125, s_X3_init_128, s_X3_init_129, s_X3_init_132, s_X3_init_133, s_X3_init_136, s_X3_init_139, if_true, if_false, and_true, true_and, and_false, false_and, true_or, or_true, or_false, false_or, eq_self, not_true_eq_false, not_false_eq_true, zv_int, zv_ref, zv_null, zv_none, hK_sI, hF_sI, hJ_sI, hN_sI, hZ_sI, hI_sI_same, hK_sJ, hF_sJ, hI_sJ, hN_sJ, hZ_sJ, hJ_sJ_same, hK_sF, hI_sF, hJ_sF, hN_sF, hZ_sF, Option.bind_some, Option.toList_some, Option.toList_none, List.cons_append, List.nil_append, zq_ref, zq_null]
  | k + 1, s, e => by
    have q1 : ¬ 4 ≤ nI s := nI_ge (b := 4) (by omega) (by decide)
    have h0 : 0 < 14 + 2 * s := by omega
    have h1 : 1 < 14 + 2 * s + 1 + 1 := by omega
    have hm : 14 + 2 * s < 14 + 2 * s + 1 + 1 := by omega
    have a0 : kSh kf s 0 = (13, 10) := by unfold kSh; rw [if_neg (by omega)]; exact k0
    have a1 : kSh kf (s + 1) 1 = (4, 4) := by unfold kSh; rw [if_neg (by omega)]; exact k1
    have b0 : fSh b ff s 0 0 = .ref (b + 1) := by unfold fSh; rw [if_neg (by omega), if_neg (by omega)]; exact f0
    have a2 : kS (kSh kf s) (14 + 2 * s) (11, 3) (14 + 2 * s) = (11, 3) := by rw [kS_n, if_pos rfl]
    have a3 : kSh kf (s + 1) (14 + 2 * s) = (11, 3) := by unfold kSh; rw [if_pos (by omega), if_pos (by omega)]
    have z0 : zR (nI s) 4 := zR_to (by decide) (by omega)
    have z1 : (nI s).toNatClampNeg = s := nI_clamp (by omega)
    have ez : (fun k => (zdf 1).getD k .null : Nat → Value) = zd 1 := rfl
    have eS := c_X1_init (E := E) (d := d) (b := b) (m := 14 + 2 * s + 1) (z := z + 153 * s + 3) (kf := kS (kSh kf s) (14 + 2 * s) (11, 3)) (ff := fN (fSh b ff s) (14 + 2 * s) (zd 1)) (o := 14 + 2 * s) (by omega) a2
    have hK1 : hK (bh b (14 + 2 * s + 1 + 1) (z + 153 * s + 3 + 150) (kSh kf (s + 1)) (fS (fS (fS (fN (fN (fSh b ff s) (14 + 2 * s) (zd 1)) (14 + 2 * s + 1) nul) (14 + 2 * s) 0 (.ref (b + (14 + 2 * s + 1)))) (14 + 2 * s) 1 (.int 0)) (14 + 2 * s) 2 (.int (-1)))) (b + 1) = (4, 4) := by rw [hK_bh (by omega)]; exact a1
    have hK2 : hK (bh b (14 + 2 * s + 1 + 1) (z + 153 * s + 3 + 150) (kSh kf (s + 1)) (fS (fS (fS (fN (fN (fSh b ff s) (14 + 2 * s) (zd 1)) (14 + 2 * s + 1) nul) (14 + 2 * s) 0 (.ref (b + (14 + 2 * s + 1)))) (14 + 2 * s) 1 (.int 0)) (14 + 2 * s) 2 (.int (-1)))) (b + (14 + 2 * s)) = (11, 3) := by rw [hK_bh (by omega)]; exact a3
    have ih := lp_sheets f0 k0 k1 k (s + 1) (by omega)
    rw [show 14 + 2 * (s + 1) = 14 + 2 * s + 1 + 1 by omega, show z + 153 * (s + 1) = z + 153 * s + 3 + 150 by omega] at ih
    rw [s_X3_init_88]
    simp (decide := true) only [s_X3_init_0, s_X3_init_1, s_X3_init_4, s_X3_init_5, s_X3_init_6, s_X3_init_9, s_X3_init_12, s_X3_init_13, s_X3_init_15, s_X3_init_18, s_X3_init_21, s_X3_init_22, s_X3_init_25, s_X3_init_26, s_X3_init_29, s_X3_init_32, s_X3_init_33, s_X3_init_36, s_X3_init_37, s_X3_init_40, s_X3_init_43, s_X3_init_44, s_X3_init_47, s_X3_init_49, s_X3_init_52, s_X3_init_53, s_X3_init_56, s_X3_init_57, s_X3_init_60, s_X3_init_63, s_X3_init_64, s_X3_init_66, s_X3_init_68, s_X3_init_71, s_X3_init_72, s_X3_init_73, s_X3_init_76, s_X3_init_77, s_X3_init_78, s_X3_init_81, s_X3_init_82, s_X3_init_83, s_X3_init_86, s_X3_init_87, s_X3_init_89, s_X3_init_90, s_X3_init_93, s_X3_init_94, s_X3_init_97, s_X3_init_98, s_X3_init_101, s_X3_init_102, s_X3_init_105, s_X3_init_106, s_X3_init_109, s_X3_init_113, s_X3_init_115, s_X3_init_117, s_X3_init_120, s_X3_init_121, s_X3_init_124, s_X3_init_125, s_X3_init_128, s_X3_init_129, s_X3_init_132, s_X3_init_133, s_X3_init_136, s_X3_init_139, if_true, if_false, and_true, true_and, and_false, false_and, true_or, or_true, or_false, false_or, eq_self, not_true_eq_false, not_false_eq_true, zv_int, zv_ref, zv_null, zv_none, hK_sI, hF_sI, hJ_sI, hN_sI, hZ_sI, hI_sI_same, hK_sJ, hF_sJ, hI_sJ, hN_sJ, hZ_sJ, hJ_sJ_same, hK_sF, hI_sF, hJ_sF, hN_sF, hZ_sF, Option.bind_some, Option.toList_some, Option.toList_none, List.cons_append, List.nil_append, zq_ref, zq_null, q1, hK_bh0 h0, hF_bh0 h0, a0, b0, hN_bh, aH_bh, ez, eS, kSh_s, hK1, hK2, z0, z1, sF_bh h1, fSh_s, nI_1]
    exact ih
/-- kinds and fields with q squares made -/
def kSq (kf : Nat → Nat × Nat) (q : Nat) : Nat → Nat × Nat := fun o => if 22 ≤ o ∧ o < 22 + 2 * q then (if o % 2 = 0 then (12, 2) else (1, 144)) else kf o
def sqv (b o j : Nat) : Value := if j = 0 then .ref (b + (o + 1)) else if j = 1 then .int 0 else zd 2 j
def fSq (b : Nat) (ff : Nat → Nat → Value) (q : Nat) : Nat → Nat → Value := fun o j => if 22 ≤ o ∧ o < 22 + 2 * q then (if o % 2 = 0 then sqv b o j else .null) else if o = 2 ∧ j < q then .ref (b + (22 + 2 * j)) else ff o j
theorem kSq_s {s : Nat} : kS (kS (kSq kf s) (22 + 2 * s) (12, 2)) (22 + 2 * s + 1) (1, 144) = kSq kf (s + 1) := by
  funext o
  unfold kS kSq
  by_cases c1 : o = 22 + 2 * s + 1
  · rw [if_pos c1, if_pos (by omega), if_neg (by omega)]
  · rw [if_neg c1]
    by_cases c2 : o = 22 + 2 * s
    · rw [if_pos c2, if_pos (by omega), if_pos (by omega)]
    · rw [if_neg c2]
      by_cases c3 : 22 ≤ o ∧ o < 22 + 2 * s
      · rw [if_pos c3, if_pos (show 22 ≤ o ∧ o < 22 + 2 * (s + 1) by omega)]
      · rw [if_neg c3, if_neg (show ¬ (22 ≤ o ∧ o < 22 + 2 * (s + 1)) by omega)]
theorem fSq_s {s : Nat} : fS (fS (fS (fN (fN (fSq b ff s) (22 + 2 * s) (zd 2)) (22 + 2 * s + 1) nul) (22 + 2 * s) 0 (.ref (b + (22 + 2 * s + 1)))) (22 + 2 * s) 1 (.int 0)) 2 s (.ref (b + (22 + 2 * s))) = fSq b ff (s + 1) := by
  funext o j
  unfold fS fN fSq
  by_cases c1 : o = 22 + 2 * s
  · have c2 : ¬ o = 2 := by omega
    have c3 : ¬ o = 22 + 2 * s + 1 := by omega
    rw [if_neg (fun q => c2 q.1)]
    rw [if_pos (show 22 ≤ o ∧ o < 22 + 2 * (s + 1) by omega), if_pos (show o % 2 = 0 by omega)]
    unfold sqv
    by_cases d1 : j = 1
    · rw [if_pos ⟨c1, d1⟩, if_neg (by omega), if_pos d1]
    · rw [if_neg (fun q => d1 q.2)]
      by_cases d0 : j = 0
      · rw [if_pos ⟨c1, d0⟩, if_pos d0, c1]
      · rw [if_neg (fun q => d0 q.2), if_neg c3, if_pos c1, if_neg d0, if_neg d1]
  · have n1 : ∀ k, ¬ (o = 22 + 2 * s ∧ j = k) := fun k q => c1 q.1
    by_cases c3 : o = 22 + 2 * s + 1
    · have c2 : ¬ o = 2 := by omega
      rw [if_neg (fun q => c2 q.1), if_neg (n1 1), if_neg (n1 0), if_pos c3, if_pos (by omega), if_neg (by omega)]
      rfl
    · by_cases c2 : o = 2
      · by_cases d1 : j = s
        · rw [if_pos ⟨c2, d1⟩, if_neg (show ¬ (22 ≤ o ∧ o < 22 + 2 * (s + 1)) by omega), if_pos (show o = 2 ∧ j < s + 1 by omega), d1]
        · rw [if_neg (fun q => d1 q.2), if_neg (n1 1), if_neg (n1 0), if_neg c3, if_neg c1, if_neg (show ¬ (22 ≤ o ∧ o < 22 + 2 * s) by omega), if_neg (show ¬ (22 ≤ o ∧ o < 22 + 2 * (s + 1)) by omega)]
          by_cases d2 : j < s
          · rw [if_pos (show o = 2 ∧ j < s from ⟨c2, d2⟩), if_pos (show o = 2 ∧ j < s + 1 by omega)]
          · rw [if_neg (show ¬ (o = 2 ∧ j < s) by omega), if_neg (show ¬ (o = 2 ∧ j < s + 1) by omega)]
      · rw [if_neg (fun q => c2 q.1), if_neg (n1 1), if_neg (n1 0), if_neg c3, if_neg c1]
        by_cases c4 : 22 ≤ o ∧ o < 22 + 2 * s
        · rw [if_pos c4, if_pos (show 22 ≤ o ∧ o < 22 + 2 * (s + 1) by omega)]
        · rw [if_neg c4, if_neg (show ¬ (22 ≤ o ∧ o < 22 + 2 * (s + 1)) by omega), if_neg (show ¬ (o = 2 ∧ j < s) by omega), if_neg (show ¬ (o = 2 ∧ j < s + 1) by omega)]
theorem lp_squares (f1 : ff 0 1 = .ref (b + 2)) (k0 : kf 0 = (13, 10)) (k2 : kf 2 = (5, 24)) : ∀ k s, s + k = 24 → zl E (d + 1) kX3_init 114 [some (.ref b), some (.int (nI s))] [] (bh b (22 + 2 * s) (z + 146 * s) (kSq kf s) (fSq b ff s)) = some (none, bh b (22 + 2 * 24) (z + 146 * 24) (kSq kf 24) (fSq b ff 24))
  | 0, s, e => by
    have : s = 24 := by omega
    subst this
    rw [s_X3_init_114]
    simp (decide := true) only [s_X3_init_0, s_X3_init_1, s_X3_init_4, s_X3_init_5, s_X3_init_6, s_X3_init_9, s_X3_init_12, s_X3_init_13, s_X3_init_15, s_X3_init_18, s_X3_init_21, s_X3_init_22, s_X3_init_25, s_X3_init_26, s_X3_init_29, s_X3_init_32, s_X3_init_33, s_X3_init_36, s_X3_init_37, s_X3_init_40, s_X3_init_43, s_X3_init_44, s_X3_init_47, s_X3_init_49, s_X3_init_52, s_X3_init_53, s_X3_init_56, s_X3_init_57, s_X3_init_60, s_X3_init_63, s_X3_init_64, s_X3_init_66, s_X3_init_68, s_X3_init_71, s_X3_init_72, s_X3_init_73, s_X3_init_76, s_X3_init_77, s_X3_init_78, s_X3_init_81, s_X3_init_82, s_X3_init_83, s_X3_init_86, s_X3_init_87, s_X3_init_89, s_X3_init_90, s_X3_init_93, s_X3_init_94, s_X3_init_97, s_X3_init_98, s_X3_init_101, s_X3_init_102, s_X3_init_105, s_X3_init_106, s_X3_init_109, s_X3_init_112, s_X3_init_113, s_X3_init_115, s_X3_init_117, s_X3_init_120, s_X3_init_121, s_X3_init_124, s_X3_init_125, s_X3_init_128, s_X3_init_129, s_X3_init_132, s_X3_init_133, s_X3_init_136, s_X3_init_139, if_true, if_false, and_true, true_and, and_false, false_and, true_or, or_true, or_false, false_or, eq_self, not_true_eq_false, not_false_eq_true, zv_int, zv_ref, zv_null, zv_none, hK_sI, hF_sI, hJ_sI, hN_sI, hZ_sI, hI_sI_same, hK_sJ, hF_sJ, hI_sJ, hN_sJ, hZ_sJ, hJ_sJ_same, hK_sF, hI_sF, hJ_sF, hN_sF, hZ_sF, Option.bind_some, Option.toList_some, Option.toList_none, List.cons_append, List.nil_append, zq_ref, zq_null]
  | k + 1, s, e => by
    have q1 : ¬ 24 ≤ nI s := nI_ge (b := 24) (by omega) (by decide)
    have h0 : 0 < 22 + 2 * s := by omega
    have h2 : 2 < 22 + 2 * s + 1 + 1 := by omega
    have a0 : kSq kf s 0 = (13, 10) := by unfold kSq; rw [if_neg (by omega)]; exact k0
    have a1 : kSq kf (s + 1) 2 = (5, 24) := by unfold kSq; rw [if_neg (by omega)]; exact k2
    have b0 : fSq b ff s 0 1 = .ref (b + 2) := by unfold fSq; rw [if_neg (by omega), if_neg (by omega)]; exact f1
    have a2 : kS (kSq kf s) (22 + 2 * s) (12, 2) (22 + 2 * s) = (12, 2) := by rw [kS_n, if_pos rfl]
    have a3 : kSq kf (s + 1) (22 + 2 * s) = (12, 2) := by unfold kSq; rw [if_pos (by omega), if_pos (by omega)]
    have z0 : zR (nI s) 24 := zR_to (by decide) (by omega)
    have z1 : (nI s).toNatClampNeg = s := nI_clamp (by omega)
    have ez : (fun k => (zdf 2).getD k .null : Nat → Value) = zd 2 := rfl
    have eS := c_X2_init (E := E) (d := d) (b := b) (m := 22 + 2 * s + 1) (z := z + 146 * s + 2) (kf := kS (kSq kf s) (22 + 2 * s) (12, 2)) (ff := fN (fSq b ff s) (22 + 2 * s) (zd 2)) (o := 22 + 2 * s) (by omega) a2
    have hK1 : hK (bh b (22 + 2 * s + 1 + 1) (z + 146 * s + 2 + 144) (kSq kf (s + 1)) (fS (fS (fN (fN (fSq b ff s) (22 + 2 * s) (zd 2)) (22 + 2 * s + 1) nul) (22 + 2 * s) 0 (.ref (b + (22 + 2 * s + 1)))) (22 + 2 * s) 1 (.int 0))) (b + 2) = (5, 24) := by rw [hK_bh (by omega)]; exact a1
    have hK2 : hK (bh b (22 + 2 * s + 1 + 1) (z + 146 * s + 2 + 144) (kSq kf (s + 1)) (fS (fS (fN (fN (fSq b ff s) (22 + 2 * s) (zd 2)) (22 + 2 * s + 1) nul) (22 + 2 * s) 0 (.ref (b + (22 + 2 * s + 1)))) (22 + 2 * s) 1 (.int 0))) (b + (22 + 2 * s)) = (12, 2) := by rw [hK_bh (by omega)]; exact a3
    have ih := lp_squares f1 k0 k2 k (s + 1) (by omega)
    rw [show 22 + 2 * (s + 1) = 22 + 2 * s + 1 + 1 by omega, show z + 146 * (s + 1) = z + 146 * s + 2 + 144 by omega] at ih
    rw [s_X3_init_114]
    simp (decide := true) only [s_X3_init_0, s_X3_init_1, s_X3_init_4, s_X3_init_5, s_X3_init_6, s_X3_init_9, s_X3_init_12, s_X3_init_13, s_X3_init_15, s_X3_init_18, s_X3_init_21, s_X3_init_22, s_X3_init_25, s_X3_init_26, s_X3_init_29, s_X3_init_32, s_X3_init_33, s_X3_init_36, s_X3_init_37, s_X3_init_40, s_X3_init_43, s_X3_init_44, s_X3_init_47, s_X3_init_49, s_X3_init_52, s_X3_init_53, s_X3_init_56, s_X3_init_57, s_X3_init_60, s_X3_init_63, s_X3_init_64, s_X3_init_66, s_X3_init_68, s_X3_init_71, s_X3_init_72, s_X3_init_73, s_X3_init_76, s_X3_init_77, s_X3_init_78, s_X3_init_81, s_X3_init_82, s_X3_init_83, s_X3_init_86, s_X3_init_87, s_X3_init_89, s_X3_init_90, s_X3_init_93, s_X3_init_94, s_X3_init_97, s_X3_init_98, s_X3_init_101, s_X3_init_102, s_X3_init_105, s_X3_init_106, s_X3_init_109, s_X3_init_112, s_X3_init_113, s_X3_init_115, s_X3_init_117, s_X3_init_120, s_X3_init_121, s_X3_init_124, s_X3_init_125, s_X3_init_128, s_X3_init_129, s_X3_init_132, s_X3_init_133, s_X3_init_136, s_X3_init_139, if_true, if_false, and_true, true_and, and_false, false_and, true_or, or_true, or_false, false_or, eq_self, not_true_eq_false, not_false_eq_true, zv_int, zv_ref, zv_null, zv_none, hK_sI, hF_sI, hJ_sI, hN_sI, hZ_sI, hI_sI_same, hK_sJ, hF_sJ, hI_sJ, hN_sJ, hZ_sJ, hJ_sJ_same, hK_sF, hI_sF, hJ_sF, hN_sF, hZ_sF, Option.bind_some, Option.toList_some, Option.toList_none, List.cons_append, List.nil_append, zq_ref, zq_null, q1, hK_bh0 h0, hF_bh0 h0, a0, b0, hN_bh, aH_bh, ez, eS, kSq_s, hK1, hK2, z0, z1, sF_bh h2, fSq_s, nI_1]
    exact ih
end
