/-! ===== make ===== -/
section
variable {E : mE} {d : Nat} {h h1 h2 : mH} {b : Nat}
theorem rem2 (x : Nat) (hx : x < 2 ^ 31) : nI x - nI x / 2 * 2 = nI (x % 2) := pk_rem (d := 2) hx (by decide) (by decide)
theorem odR_cg {n : Nat} {f g : Nat → Int32} (hn : 1 ≤ n ∧ n ≤ 12) (a : ag f g (n * n)) : ag (odR n f) (odR n g) (n * n) := od_cg hn.2 _ _ _ _ hn.1 (Nat.div_lt_self hn.1 (by decide)) a
theorem zr_ag {n : Nat} {f g : Nat → Int32} (hn : n ≤ 12) : ag (zr f) (rw_ (fun _ => 0) g (n * n)) (n * n) := fun p hp => by
  have := Nat.mul_le_mul hn hn
  unfold zr
  rw [rw_in (by omega), rw_in hp]
theorem lH_cg {f g : Nat → Int32} {m mid p : Nat} (hm : m ≤ 12) (a : ag f g (m * m)) (hp : p < m * 2 * (m * 2)) : lH f m mid p = lH g m mid p := by
  have m0 : 0 < m * 2 := Nat.pos_of_ne_zero fun c => by rw [c] at hp; omega
  have i1 : p / (m * 2) < m * 2 := Nat.div_lt_of_lt_mul hp
  have j1 : p % (m * 2) < m * 2 := Nat.mod_lt _ m0
  unfold lH
  rw [a _ (ijn hm (show p / (m * 2) / 2 < m by omega) (show p % (m * 2) / 2 < m by omega))]
theorem op_make {o : Nat → Nat} {z : Nat → Option Nat} {n : Int32} (hE : zES E) (hS : ∀ k, k < 7 → (hK h (E.1 k)).1 = 0) (R : Rel b o z h) : Good E (d + 9) b kX3_make kX4_make [.int n] h := by
  have L := R.1
  have l2 := fun h => inI1 (E := E) (d := d + 7) (h := h) (N := 12) (by decide) n
  have e12 : (12 : Int32).toInt64 = 12 := by decide
  have n12 : nI 12 = 12 := rfl
  simp only [n12, e12] at l2
  rcases rng1 (N := 12) (by decide) n with c | ⟨w, hw1, hw, en⟩
  · rw [n12] at c
    simp only [c, if_true] at l2
    refine ⟨h, o, z, ⟨.int (-102), h, ?_, ?_⟩, R, sameF_refl⟩
    · by_cases c1 : n < 1
      · have c1' : n ≤ 0 := by
          rw [Int32.lt_iff_toInt_lt] at c1
          rw [Int32.le_iff_toInt_le]
          have e0 : (0 : Int32).toInt = 0 := rfl
          have e1 : (1 : Int32).toInt = 1 := rfl
          omega
        simp (decide := true) only [e_X3_make, s_X3_make_0, s_X3_make_1, s_X3_make_2, s_X3_make_5, s_X3_make_6, s_X3_make_8, s_X3_make_11, s_X3_make_12, s_X3_make_13, s_X3_make_16, s_X3_make_18, s_X3_make_19, s_X3_make_20, s_X3_make_21, s_X3_make_22, s_X3_make_23, s_X3_make_26, s_X3_make_27, s_X3_make_30, s_X3_make_31, s_X3_make_34, s_X3_make_37, s_X3_make_38, s_X3_make_39, s_X3_make_40, s_X3_make_43, s_X3_make_44, s_X3_make_47, s_X3_make_48, s_X3_make_51, s_X3_make_54, s_X3_make_55, s_X3_make_58, s_X3_make_59, s_X3_make_60, s_X3_make_61, s_X3_make_64, s_X3_make_65, s_X3_make_68, s_X3_make_69, s_X3_make_72, s_X3_make_75, s_X3_make_76, s_X3_make_79, if_true, if_false, and_true, true_and, and_false, false_and, true_or, or_true, or_false, false_or, eq_self, not_true_eq_false, not_false_eq_true, zv_int, zv_ref, zv_null, zv_none, hK_sI, hF_sI, hJ_sI, hN_sI, hZ_sI, hI_sI_same, hK_sJ, hF_sJ, hI_sJ, hN_sJ, hZ_sJ, hJ_sJ_same, hK_sF, hI_sF, hJ_sF, hN_sF, hZ_sF, Option.bind_some, Option.toList_some, Option.toList_none, List.cons_append, List.nil_append, zq_ref, zq_null, c1, c1']
      · have c2 : 12 < n := c.elim (fun q => absurd q c1) id
        have c2' : ¬ n ≤ 12 := n32_le.mpr c2
        simp (decide := true) only [e_X3_make, s_X3_make_0, s_X3_make_1, s_X3_make_2, s_X3_make_5, s_X3_make_6, s_X3_make_8, s_X3_make_11, s_X3_make_12, s_X3_make_13, s_X3_make_16, s_X3_make_18, s_X3_make_19, s_X3_make_20, s_X3_make_21, s_X3_make_22, s_X3_make_23, s_X3_make_26, s_X3_make_27, s_X3_make_30, s_X3_make_31, s_X3_make_34, s_X3_make_37, s_X3_make_38, s_X3_make_39, s_X3_make_40, s_X3_make_43, s_X3_make_44, s_X3_make_47, s_X3_make_48, s_X3_make_51, s_X3_make_54, s_X3_make_55, s_X3_make_58, s_X3_make_59, s_X3_make_60, s_X3_make_61, s_X3_make_64, s_X3_make_65, s_X3_make_68, s_X3_make_69, s_X3_make_72, s_X3_make_75, s_X3_make_76, s_X3_make_79, if_true, if_false, and_true, true_and, and_false, false_and, true_or, or_true, or_false, false_or, eq_self, not_true_eq_false, not_false_eq_true, zv_int, zv_ref, zv_null, zv_none, hK_sI, hF_sI, hJ_sI, hN_sI, hZ_sI, hI_sI_same, hK_sJ, hF_sJ, hI_sJ, hN_sJ, hZ_sJ, hJ_sJ_same, hK_sF, hI_sF, hJ_sF, hN_sF, hZ_sF, Option.bind_some, Option.toList_some, Option.toList_none, List.cons_append, List.nil_append, zq_ref, zq_null, c1, c2, c2']
    · simp (decide := true) only [e_X4_make, s_X4_make_0, s_X4_make_1, s_X4_make_2, s_X4_make_3, s_X4_make_6, s_X4_make_9, s_X4_make_12, s_X4_make_13, s_X4_make_14, s_X4_make_17, s_X4_make_19, s_X4_make_20, s_X4_make_21, s_X4_make_22, s_X4_make_25, s_X4_make_26, s_X4_make_27, s_X4_make_28, s_X4_make_29, s_X4_make_32, s_X4_make_33, s_X4_make_34, s_X4_make_37, s_X4_make_38, s_X4_make_40, s_X4_make_41, s_X4_make_42, s_X4_make_43, s_X4_make_46, s_X4_make_47, s_X4_make_50, s_X4_make_51, s_X4_make_52, s_X4_make_55, s_X4_make_56, s_X4_make_57, s_X4_make_58, s_X4_make_59, s_X4_make_62, s_X4_make_65, s_X4_make_68, s_X4_make_69, s_X4_make_70, s_X4_make_71, s_X4_make_74, s_X4_make_75, s_X4_make_77, s_X4_make_78, s_X4_make_79, s_X4_make_80, s_X4_make_83, s_X4_make_84, s_X4_make_85, s_X4_make_86, s_X4_make_87, s_X4_make_88, s_X4_make_89, s_X4_make_90, s_X4_make_91, s_X4_make_92, s_X4_make_93, s_X4_make_94, s_X4_make_96, s_X4_make_97, s_X4_make_100, s_X4_make_101, s_X4_make_102, s_X4_make_104, s_X4_make_107, s_X4_make_108, s_X4_make_110, s_X4_make_111, s_X4_make_112, s_X4_make_115, s_X4_make_116, s_X4_make_117, s_X4_make_118, s_X4_make_119, s_X4_make_120, s_X4_make_121, s_X4_make_124, s_X4_make_125, s_X4_make_126, s_X4_make_127, s_X4_make_128, s_X4_make_129, s_X4_make_132, s_X4_make_135, s_X4_make_138, s_X4_make_139, s_X4_make_140, s_X4_make_143, s_X4_make_144, s_X4_make_147, if_true, if_false, and_true, true_and, and_false, false_and, true_or, or_true, or_false, false_or, eq_self, not_true_eq_false, not_false_eq_true, zv_int, zv_ref, zv_null, zv_none, hK_sI, hF_sI, hJ_sI, hN_sI, hZ_sI, hI_sI_same, hK_sJ, hF_sJ, hI_sJ, hN_sJ, hZ_sJ, hJ_sJ_same, hK_sF, hI_sF, hJ_sF, hN_sF, hZ_sF, Option.bind_some, Option.toList_some, Option.toList_none, List.cons_append, List.nil_append, zq_ref, zq_null, l2]
  · have c0 : ¬ n < 1 := by rw [en]; exact nI_nlt (a := w) (b := 1) hw1 (by omega)
    have c1 : ¬ 12 < n := by rw [en]; exact nI_nlt (a := 12) (b := w) hw (by omega)
    have c1' : n ≤ 12 := n32_lt.mp c1
    simp only [c0, c1, or_self, if_false] at l2
    by_cases c2 : w = 2
    · have c2' : n = 2 := by rw [en, c2]; rfl
      refine ⟨h, o, z, ⟨.int (-102), h, ?_, ?_⟩, R, sameF_refl⟩
      · simp (decide := true) only [e_X3_make, s_X3_make_0, s_X3_make_1, s_X3_make_2, s_X3_make_5, s_X3_make_6, s_X3_make_8, s_X3_make_11, s_X3_make_12, s_X3_make_13, s_X3_make_16, s_X3_make_18, s_X3_make_19, s_X3_make_20, s_X3_make_21, s_X3_make_22, s_X3_make_23, s_X3_make_26, s_X3_make_27, s_X3_make_30, s_X3_make_31, s_X3_make_34, s_X3_make_37, s_X3_make_38, s_X3_make_39, s_X3_make_40, s_X3_make_43, s_X3_make_44, s_X3_make_47, s_X3_make_48, s_X3_make_51, s_X3_make_54, s_X3_make_55, s_X3_make_58, s_X3_make_59, s_X3_make_60, s_X3_make_61, s_X3_make_64, s_X3_make_65, s_X3_make_68, s_X3_make_69, s_X3_make_72, s_X3_make_75, s_X3_make_76, s_X3_make_79, if_true, if_false, and_true, true_and, and_false, false_and, true_or, or_true, or_false, false_or, eq_self, not_true_eq_false, not_false_eq_true, zv_int, zv_ref, zv_null, zv_none, hK_sI, hF_sI, hJ_sI, hN_sI, hZ_sI, hI_sI_same, hK_sJ, hF_sJ, hI_sJ, hN_sJ, hZ_sJ, hJ_sJ_same, hK_sF, hI_sF, hJ_sF, hN_sF, hZ_sF, Option.bind_some, Option.toList_some, Option.toList_none, List.cons_append, List.nil_append, zq_ref, zq_null, c0, c1, c1', eq_true c2']
      · simp (decide := true) only [e_X4_make, s_X4_make_0, s_X4_make_1, s_X4_make_2, s_X4_make_3, s_X4_make_6, s_X4_make_9, s_X4_make_12, s_X4_make_13, s_X4_make_14, s_X4_make_17, s_X4_make_19, s_X4_make_20, s_X4_make_21, s_X4_make_22, s_X4_make_25, s_X4_make_26, s_X4_make_27, s_X4_make_28, s_X4_make_29, s_X4_make_32, s_X4_make_33, s_X4_make_34, s_X4_make_37, s_X4_make_38, s_X4_make_40, s_X4_make_41, s_X4_make_42, s_X4_make_43, s_X4_make_46, s_X4_make_47, s_X4_make_50, s_X4_make_51, s_X4_make_52, s_X4_make_55, s_X4_make_56, s_X4_make_57, s_X4_make_58, s_X4_make_59, s_X4_make_62, s_X4_make_65, s_X4_make_68, s_X4_make_69, s_X4_make_70, s_X4_make_71, s_X4_make_74, s_X4_make_75, s_X4_make_77, s_X4_make_78, s_X4_make_79, s_X4_make_80, s_X4_make_83, s_X4_make_84, s_X4_make_85, s_X4_make_86, s_X4_make_87, s_X4_make_88, s_X4_make_89, s_X4_make_90, s_X4_make_91, s_X4_make_92, s_X4_make_93, s_X4_make_94, s_X4_make_96, s_X4_make_97, s_X4_make_100, s_X4_make_101, s_X4_make_102, s_X4_make_104, s_X4_make_107, s_X4_make_108, s_X4_make_110, s_X4_make_111, s_X4_make_112, s_X4_make_115, s_X4_make_116, s_X4_make_117, s_X4_make_118, s_X4_make_119, s_X4_make_120, s_X4_make_121, s_X4_make_124, s_X4_make_125, s_X4_make_126, s_X4_make_127, s_X4_make_128, s_X4_make_129, s_X4_make_132, s_X4_make_135, s_X4_make_138, s_X4_make_139, s_X4_make_140, s_X4_make_143, s_X4_make_144, s_X4_make_147, if_true, if_false, and_true, true_and, and_false, false_and, true_or, or_true, or_false, false_or, eq_self, not_true_eq_false, not_false_eq_true, zv_int, zv_ref, zv_null, zv_none, hK_sI, hF_sI, hJ_sI, hN_sI, hZ_sI, hI_sI_same, hK_sJ, hF_sJ, hI_sJ, hN_sJ, hZ_sJ, hJ_sJ_same, hK_sF, hI_sF, hJ_sF, hN_sF, hZ_sF, Option.bind_some, Option.toList_some, Option.toList_none, List.cons_append, List.nil_append, zq_ref, zq_null, l2, eq_true c2']
    · have c2' : ¬ n = 2 := fun q => c2 ((nI_eq (a := w) (b := 2) (by omega) (by omega)).mp (by rw [← en, q]; rfl))
      have r2 : n - n / 2 * 2 = nI (w % 2) := by rw [en, rem2 w (by omega)]
      have r4 : n - n / 4 * 4 = nI (w % 4) := by rw [en, rem4 w (by omega)]
      have ww : w * w ≤ 144 := Nat.mul_le_mul hw hw
      by_cases c3 : w % 2 = 1
      · have r2' : nI (w % 2) = 1 := by rw [c3]; rfl
        have eB := c_X2_becomeOdd (E := E) (d := d + 5) L.k3 L.k4 L.p3_0 ⟨hw1, hw⟩
        change cal _ _ _ _ _ = some (none, drf b h w (odR w (zr (hI h (b + 4))))) at eB
        obtain ⟨LA, r, k1, eK, L1, hI1, hF1, K⟩ := mk_end0 (odR w (zr (hI h (b + 4)))) R hw
        have eY := c_X4_lay (E := E) (d := d + 7) (n := n) L1
        obtain ⟨h3, eh3⟩ : ∃ h3, h3 = sF k1 (b + 70) 8 (.int n) := ⟨_, rfl⟩
        rw [← eh3] at eY
        have L3 : Lay b h3 := by rw [eh3]; exact L1.sF 70 8 _ (by decide +kernel)
        have eO := c_X4_odds (E := E) (d := d + 7) L3 ⟨hw1, hw⟩
        obtain ⟨h4, eh4⟩ : ∃ h4, h4 = sI h3 (b + 80) (odR w (rw_ (fun _ => 0) (hI h3 (b + 80)) (w * w))) := ⟨_, rfl⟩
        rw [← eh4] at eO
        have L4 : Lay b h4 := by rw [eh4]; exact L3.sI _ _
        have eL := lp_mk1 (E := E) (d := d + 8) (z := hJ h4 (b + 78)) (v3 := none) (v4 := none) L4 hw (w * w) 0 (by omega)
        rw [rl_0, sJ_self, nI_0] at eL
        obtain ⟨h5, eh5⟩ : ∃ h5, h5 = sJ h4 (b + 78) (rl (fun p => (hI h4 (b + 80) p).toInt64) (hJ h4 (b + 78)) (w * w)) := ⟨_, rfl⟩
        rw [← eh5] at eL
        have L5 : Lay b h5 := by rw [eh5]; exact L4.sJ _ _
        have sB : scr b k1 h5 := by
          have s1 : scr b k1 h3 := by rw [eh3]; exact scr_sF L1 _ (Or.inr ⟨rfl, rfl⟩)
          have s2 : scr b h3 h4 := by rw [eh4]; exact scr_sI L3 _ (by omega)
          have s3 : scr b h4 h5 := by rw [eh5]; exact scr_sJ L4 _
          exact scr_trans (scr_trans s1 s2) s3
        have fB : sameF b k1 h5 := by
          have s1 : sameF b k1 h3 := by rw [eh3]; exact sameF_sF (a := b + 70) (j := 8) _ (by omega) (by omega) (by omega)
          have s2 : sameF b h3 h4 := by rw [eh4]; exact sameF_sI _ (by omega)
          have s3 : sameF b h4 h5 := by rw [eh5]; exact sameF_sJ _
          exact sameF_trans (sameF_trans s1 s2) s3
        obtain ⟨k2, o', eM, RM, fM⟩ := K h5 sB fB (by rw [eh5, hF_sJ, eh4, hF_sI, eh3, hF_sF, if_pos ⟨rfl, rfl⟩, en]) (fun p hp => by
          rw [eh5, hJ_sJ_same, rl_in hp, eh4, hI_sI_same, odR_cg ⟨hw1, hw⟩ (zr_ag hw) p hp])
        rw [← en] at eB eO eL
        refine ⟨k2, o', z, ⟨.int r, k1, ?_, ?_⟩, RM, fM⟩
        · simp (decide := true) only [e_X3_make, s_X3_make_0, s_X3_make_1, s_X3_make_2, s_X3_make_5, s_X3_make_6, s_X3_make_8, s_X3_make_11, s_X3_make_12, s_X3_make_13, s_X3_make_16, s_X3_make_18, s_X3_make_19, s_X3_make_20, s_X3_make_21, s_X3_make_22, s_X3_make_23, s_X3_make_26, s_X3_make_27, s_X3_make_30, s_X3_make_31, s_X3_make_34, s_X3_make_37, s_X3_make_38, s_X3_make_39, s_X3_make_40, s_X3_make_43, s_X3_make_44, s_X3_make_47, s_X3_make_48, s_X3_make_51, s_X3_make_54, s_X3_make_55, s_X3_make_58, s_X3_make_59, s_X3_make_60, s_X3_make_61, s_X3_make_64, s_X3_make_65, s_X3_make_68, s_X3_make_69, s_X3_make_72, s_X3_make_75, s_X3_make_76, s_X3_make_79, if_true, if_false, and_true, true_and, and_false, false_and, true_or, or_true, or_false, false_or, eq_self, not_true_eq_false, not_false_eq_true, zv_int, zv_ref, zv_null, zv_none, hK_sI, hF_sI, hJ_sI, hN_sI, hZ_sI, hI_sI_same, hK_sJ, hF_sJ, hI_sJ, hN_sJ, hZ_sJ, hJ_sJ_same, hK_sF, hI_sF, hJ_sF, hN_sF, hZ_sF, Option.bind_some, Option.toList_some, Option.toList_none, List.cons_append, List.nil_append, zq_ref, zq_null, L.k0, L.p0_2, L.k3, LA.k0, c0, c1, c1', eq_false c2', r2, r2', eB, eK E (d + 6)]
        · simp (decide := true) only [e_X4_make, s_X4_make_0, s_X4_make_1, s_X4_make_2, s_X4_make_3, s_X4_make_6, s_X4_make_9, s_X4_make_12, s_X4_make_13, s_X4_make_14, s_X4_make_17, s_X4_make_19, s_X4_make_20, s_X4_make_21, s_X4_make_22, s_X4_make_25, s_X4_make_26, s_X4_make_27, s_X4_make_28, s_X4_make_29, s_X4_make_32, s_X4_make_33, s_X4_make_34, s_X4_make_37, s_X4_make_38, s_X4_make_40, s_X4_make_41, s_X4_make_42, s_X4_make_43, s_X4_make_46, s_X4_make_47, s_X4_make_50, s_X4_make_51, s_X4_make_52, s_X4_make_55, s_X4_make_56, s_X4_make_57, s_X4_make_58, s_X4_make_59, s_X4_make_62, s_X4_make_65, s_X4_make_68, s_X4_make_69, s_X4_make_70, s_X4_make_71, s_X4_make_74, s_X4_make_75, s_X4_make_77, s_X4_make_78, s_X4_make_79, s_X4_make_80, s_X4_make_83, s_X4_make_84, s_X4_make_85, s_X4_make_86, s_X4_make_87, s_X4_make_88, s_X4_make_89, s_X4_make_90, s_X4_make_91, s_X4_make_92, s_X4_make_93, s_X4_make_94, s_X4_make_96, s_X4_make_97, s_X4_make_100, s_X4_make_101, s_X4_make_102, s_X4_make_104, s_X4_make_107, s_X4_make_108, s_X4_make_110, s_X4_make_111, s_X4_make_112, s_X4_make_115, s_X4_make_116, s_X4_make_117, s_X4_make_118, s_X4_make_119, s_X4_make_120, s_X4_make_121, s_X4_make_124, s_X4_make_125, s_X4_make_126, s_X4_make_127, s_X4_make_128, s_X4_make_129, s_X4_make_132, s_X4_make_135, s_X4_make_138, s_X4_make_139, s_X4_make_140, s_X4_make_144, s_X4_make_147, if_true, if_false, and_true, true_and, and_false, false_and, true_or, or_true, or_false, false_or, eq_self, not_true_eq_false, not_false_eq_true, zv_int, zv_ref, zv_null, zv_none, hK_sI, hF_sI, hJ_sI, hN_sI, hZ_sI, hI_sI_same, hK_sJ, hF_sJ, hI_sJ, hN_sJ, hZ_sJ, hJ_sJ_same, hK_sF, hI_sF, hJ_sF, hN_sF, hZ_sF, Option.bind_some, Option.toList_some, Option.toList_none, List.cons_append, List.nil_append, zq_ref, zq_null, L1.k70, L3.k70, l2, eq_false c2', r2, r2', eY, eO]
          rw [eL]
          simp (decide := true) only [s_X4_make_0, s_X4_make_1, s_X4_make_2, s_X4_make_3, s_X4_make_6, s_X4_make_9, s_X4_make_12, s_X4_make_13, s_X4_make_14, s_X4_make_17, s_X4_make_19, s_X4_make_20, s_X4_make_21, s_X4_make_22, s_X4_make_25, s_X4_make_26, s_X4_make_27, s_X4_make_28, s_X4_make_29, s_X4_make_32, s_X4_make_33, s_X4_make_34, s_X4_make_37, s_X4_make_38, s_X4_make_40, s_X4_make_41, s_X4_make_42, s_X4_make_43, s_X4_make_46, s_X4_make_47, s_X4_make_50, s_X4_make_51, s_X4_make_52, s_X4_make_55, s_X4_make_56, s_X4_make_57, s_X4_make_58, s_X4_make_59, s_X4_make_62, s_X4_make_65, s_X4_make_68, s_X4_make_69, s_X4_make_70, s_X4_make_71, s_X4_make_74, s_X4_make_75, s_X4_make_77, s_X4_make_78, s_X4_make_79, s_X4_make_80, s_X4_make_83, s_X4_make_84, s_X4_make_85, s_X4_make_86, s_X4_make_87, s_X4_make_88, s_X4_make_89, s_X4_make_90, s_X4_make_91, s_X4_make_92, s_X4_make_93, s_X4_make_94, s_X4_make_96, s_X4_make_97, s_X4_make_100, s_X4_make_101, s_X4_make_102, s_X4_make_104, s_X4_make_107, s_X4_make_108, s_X4_make_110, s_X4_make_111, s_X4_make_112, s_X4_make_115, s_X4_make_116, s_X4_make_117, s_X4_make_118, s_X4_make_119, s_X4_make_120, s_X4_make_121, s_X4_make_124, s_X4_make_125, s_X4_make_126, s_X4_make_127, s_X4_make_128, s_X4_make_129, s_X4_make_132, s_X4_make_135, s_X4_make_138, s_X4_make_139, s_X4_make_140, s_X4_make_143, s_X4_make_144, s_X4_make_147, if_true, if_false, and_true, true_and, and_false, false_and, true_or, or_true, or_false, false_or, eq_self, not_true_eq_false, not_false_eq_true, zv_int, zv_ref, zv_null, zv_none, hK_sI, hF_sI, hJ_sI, hN_sI, hZ_sI, hI_sI_same, hK_sJ, hF_sJ, hI_sJ, hN_sJ, hZ_sJ, hJ_sJ_same, hK_sF, hI_sF, hJ_sF, hN_sF, hZ_sF, Option.bind_some, Option.toList_some, Option.toList_none, List.cons_append, List.nil_append, zq_ref, zq_null, L5.k70, eM E (d + 6)]
      · have c3' : w % 2 = 0 := by omega
        have r2' : nI (w % 2) = 0 := by rw [c3']; rfl
        by_cases c4 : w % 4 = 0
        · have r4' : nI (w % 4) = 0 := by rw [c4]; rfl
          have eB := c_X2_becomeFourfold (E := E) (d := d + 5) L.k3 L.k4 L.p3_0 hw
          change cal _ _ _ _ _ = some (none, drf b h w (rw_ (ffr w) (zr (hI h (b + 4))) (w * w))) at eB
          obtain ⟨LA, r, k1, eK, L1, hI1, hF1, K⟩ := mk_end (rw_ (ffr w) (zr (hI h (b + 4))) (w * w)) R hw
          have L1' : Lay b (sF k1 (b + 70) 8 (.int (nI w))) := L1.sF 70 8 _ (by decide +kernel)
          have eY := c_X4_lay (E := E) (d := d + 7) (n := n) L1
          obtain ⟨w3, w4, eL⟩ := lp_mk2 (E := E) (d := d + 8) (z := hJ k1 (b + 78)) L1' ⟨hw1, hw⟩ (w * w) 0 none none (by omega)
          have e00 : sJ (sF k1 (b + 70) 8 (.int (nI w))) (b + 78) (hJ k1 (b + 78)) = sF k1 (b + 70) 8 (.int (nI w)) := sJ_self (sF k1 (b + 70) 8 (.int (nI w))) (b + 78)
          rw [rl_0, e00, nI_0] at eL
          obtain ⟨k2, o', eM, RM, fM⟩ := K (rl (fun p => (ffr w p).toInt64) (hJ k1 (b + 78)) (w * w)) (fun p hp => by
            rw [rl_in hp, rw_in hp])
          have L2 : Lay b (nxt b k1 w (rl (fun p => (ffr w p).toInt64) (hJ k1 (b + 78)) (w * w))) := L1'.sJ _ _
          change _ = zl _ _ _ _ _ _ (nxt b k1 _ _) at eL
          rw [← en] at eB eL
          refine ⟨k2, o', z, ⟨.int r, k1, ?_, ?_⟩, RM, fM⟩
          · simp (decide := true) only [e_X3_make, s_X3_make_0, s_X3_make_1, s_X3_make_2, s_X3_make_5, s_X3_make_6, s_X3_make_8, s_X3_make_11, s_X3_make_12, s_X3_make_13, s_X3_make_16, s_X3_make_18, s_X3_make_19, s_X3_make_20, s_X3_make_21, s_X3_make_22, s_X3_make_23, s_X3_make_26, s_X3_make_27, s_X3_make_30, s_X3_make_31, s_X3_make_34, s_X3_make_37, s_X3_make_38, s_X3_make_39, s_X3_make_40, s_X3_make_43, s_X3_make_44, s_X3_make_47, s_X3_make_48, s_X3_make_51, s_X3_make_54, s_X3_make_55, s_X3_make_58, s_X3_make_59, s_X3_make_60, s_X3_make_61, s_X3_make_64, s_X3_make_65, s_X3_make_68, s_X3_make_69, s_X3_make_72, s_X3_make_75, s_X3_make_76, s_X3_make_79, if_true, if_false, and_true, true_and, and_false, false_and, true_or, or_true, or_false, false_or, eq_self, not_true_eq_false, not_false_eq_true, zv_int, zv_ref, zv_null, zv_none, hK_sI, hF_sI, hJ_sI, hN_sI, hZ_sI, hI_sI_same, hK_sJ, hF_sJ, hI_sJ, hN_sJ, hZ_sJ, hJ_sJ_same, hK_sF, hI_sF, hJ_sF, hN_sF, hZ_sF, Option.bind_some, Option.toList_some, Option.toList_none, List.cons_append, List.nil_append, zq_ref, zq_null, L.k0, L.p0_2, L.k3, LA.k0, c0, c1, c1', eq_false c2', r2, r2', r4, r4', eB, eK E (d + 6)]
          · simp (decide := true) only [e_X4_make, s_X4_make_0, s_X4_make_1, s_X4_make_2, s_X4_make_3, s_X4_make_6, s_X4_make_9, s_X4_make_12, s_X4_make_13, s_X4_make_14, s_X4_make_17, s_X4_make_19, s_X4_make_20, s_X4_make_21, s_X4_make_22, s_X4_make_25, s_X4_make_26, s_X4_make_27, s_X4_make_28, s_X4_make_29, s_X4_make_32, s_X4_make_33, s_X4_make_34, s_X4_make_37, s_X4_make_38, s_X4_make_40, s_X4_make_41, s_X4_make_42, s_X4_make_43, s_X4_make_46, s_X4_make_47, s_X4_make_50, s_X4_make_51, s_X4_make_52, s_X4_make_55, s_X4_make_56, s_X4_make_57, s_X4_make_58, s_X4_make_59, s_X4_make_62, s_X4_make_65, s_X4_make_68, s_X4_make_69, s_X4_make_70, s_X4_make_71, s_X4_make_74, s_X4_make_75, s_X4_make_77, s_X4_make_78, s_X4_make_79, s_X4_make_80, s_X4_make_83, s_X4_make_84, s_X4_make_85, s_X4_make_86, s_X4_make_87, s_X4_make_88, s_X4_make_89, s_X4_make_90, s_X4_make_91, s_X4_make_92, s_X4_make_93, s_X4_make_94, s_X4_make_96, s_X4_make_97, s_X4_make_100, s_X4_make_101, s_X4_make_102, s_X4_make_104, s_X4_make_107, s_X4_make_108, s_X4_make_110, s_X4_make_111, s_X4_make_112, s_X4_make_115, s_X4_make_116, s_X4_make_117, s_X4_make_118, s_X4_make_119, s_X4_make_120, s_X4_make_121, s_X4_make_124, s_X4_make_125, s_X4_make_126, s_X4_make_127, s_X4_make_128, s_X4_make_129, s_X4_make_132, s_X4_make_135, s_X4_make_138, s_X4_make_139, s_X4_make_140, s_X4_make_144, s_X4_make_147, if_true, if_false, and_true, true_and, and_false, false_and, true_or, or_true, or_false, false_or, eq_self, not_true_eq_false, not_false_eq_true, zv_int, zv_ref, zv_null, zv_none, hK_sI, hF_sI, hJ_sI, hN_sI, hZ_sI, hI_sI_same, hK_sJ, hF_sJ, hI_sJ, hN_sJ, hZ_sJ, hJ_sJ_same, hK_sF, hI_sF, hJ_sF, hN_sF, hZ_sF, Option.bind_some, Option.toList_some, Option.toList_none, List.cons_append, List.nil_append, zq_ref, zq_null, L1.k70, l2, eq_false c2', r2, r2', r4, r4', eY]
            rw [eL]
            simp (decide := true) only [s_X4_make_0, s_X4_make_1, s_X4_make_2, s_X4_make_3, s_X4_make_6, s_X4_make_9, s_X4_make_12, s_X4_make_13, s_X4_make_14, s_X4_make_17, s_X4_make_19, s_X4_make_20, s_X4_make_21, s_X4_make_22, s_X4_make_25, s_X4_make_26, s_X4_make_27, s_X4_make_28, s_X4_make_29, s_X4_make_32, s_X4_make_33, s_X4_make_34, s_X4_make_37, s_X4_make_38, s_X4_make_40, s_X4_make_41, s_X4_make_42, s_X4_make_43, s_X4_make_46, s_X4_make_47, s_X4_make_50, s_X4_make_51, s_X4_make_52, s_X4_make_55, s_X4_make_56, s_X4_make_57, s_X4_make_58, s_X4_make_59, s_X4_make_62, s_X4_make_65, s_X4_make_68, s_X4_make_69, s_X4_make_70, s_X4_make_71, s_X4_make_74, s_X4_make_75, s_X4_make_77, s_X4_make_78, s_X4_make_79, s_X4_make_80, s_X4_make_83, s_X4_make_84, s_X4_make_85, s_X4_make_86, s_X4_make_87, s_X4_make_88, s_X4_make_89, s_X4_make_90, s_X4_make_91, s_X4_make_92, s_X4_make_93, s_X4_make_94, s_X4_make_96, s_X4_make_97, s_X4_make_100, s_X4_make_101, s_X4_make_102, s_X4_make_104, s_X4_make_107, s_X4_make_108, s_X4_make_110, s_X4_make_111, s_X4_make_112, s_X4_make_115, s_X4_make_116, s_X4_make_117, s_X4_make_118, s_X4_make_119, s_X4_make_120, s_X4_make_121, s_X4_make_124, s_X4_make_125, s_X4_make_126, s_X4_make_127, s_X4_make_128, s_X4_make_129, s_X4_make_132, s_X4_make_135, s_X4_make_138, s_X4_make_139, s_X4_make_140, s_X4_make_143, s_X4_make_144, s_X4_make_147, if_true, if_false, and_true, true_and, and_false, false_and, true_or, or_true, or_false, false_or, eq_self, not_true_eq_false, not_false_eq_true, zv_int, zv_ref, zv_null, zv_none, hK_sI, hF_sI, hJ_sI, hN_sI, hZ_sI, hI_sI_same, hK_sJ, hF_sJ, hI_sJ, hN_sJ, hZ_sJ, hJ_sJ_same, hK_sF, hI_sF, hJ_sF, hN_sF, hZ_sF, Option.bind_some, Option.toList_some, Option.toList_none, List.cons_append, List.nil_append, zq_ref, zq_null, L2.k70, eM E (d + 6)]
        · obtain ⟨mid, emid⟩ : ∃ mid, w = (2 * mid + 1) * 2 := ⟨w / 4, by omega⟩
          obtain ⟨m, em⟩ : ∃ m, m = 2 * mid + 1 := ⟨_, rfl⟩
          rw [← em] at emid
          have hN : m * 2 ≤ 12 := by omega
          have hm : m ≤ 12 := by omega
          have r4' : ¬ nI (w % 4) = 0 := nI_ne0 (by omega) (by omega)
          have dh : n / 2 = nI m := by
            rw [en, show (2 : Int32) = nI 2 from rfl, pk_div (by omega) (by omega) (by omega)]
            congr 1
            omega
          have r2a : n - nI m * 2 = 0 := by rw [← dh, r2, r2']
          have eO := c_X2_becomeOdd (E := E) (d := d + 5) (n := m) L.k5 L.k6 L.p5_0 ⟨by omega, hm⟩
          obtain ⟨hH, ehH⟩ : ∃ hH, hH = sI (sF h (b + 5) 1 (.int (nI m))) (b + 6) (odR m (zr (hI h (b + 6)))) := ⟨_, rfl⟩
          rw [← ehH] at eO
          have L5 : Lay b (sF h (b + 5) 1 (.int (nI m))) := L.sF 5 1 _ (by decide +kernel)
          have LH : Lay b hH := by rw [ehH]; exact L5.sI _ _
          have sH : scr b h hH := by rw [ehH]; exact scr_trans (scr_sF L _ (Or.inl ⟨Or.inr (Or.inl rfl), rfl⟩)) (scr_sI L5 _ (by omega))
          have fH : sameF b h hH := by rw [ehH]; exact sameF_trans (sameF_sF (a := b + 5) (j := 1) _ (by omega) (by omega) (by omega)) (sameF_sI _ (by omega))
          have kH : hK hH = hK h := fH.2.2.2.2.2.1
          have eB := c_X2_becomeLettered (E := E) (d := d + 5) (m := m) (mid := mid) hE (fun k hk => by rw [kH]; exact hS k hk) LH.k3 LH.k4 LH.p3_0 LH.k5 LH.k6 LH.p5_0 (by rw [ehH, hF_sI, hF_sF, if_pos ⟨rfl, rfl⟩]) (by omega) (by omega) em hN
          change cal _ _ _ _ _ = some (none, drf b hH (m * 2) (pgq (lH (hI hH (b + 6)) m mid) (zr (hI hH (b + 4))) (m * 2) 2 m 0)) at eB
          obtain ⟨LA, r, k1, eK, L1, hI1, hF1, K⟩ := mk_end0 (pgq (lH (hI hH (b + 6)) m mid) (zr (hI hH (b + 4))) (m * 2) 2 m 0) (Rel_scr' R sH) hN
          have eY := c_X4_lay (E := E) (d := d + 7) (n := n) L1
          obtain ⟨h3, eh3⟩ : ∃ h3, h3 = sF k1 (b + 70) 8 (.int n) := ⟨_, rfl⟩
          rw [← eh3] at eY
          have L3 : Lay b h3 := by rw [eh3]; exact L1.sF 70 8 _ (by decide +kernel)
          obtain ⟨s, es, eF⟩ := c_X4_fours (E := E) (d := d + 6) L3 em hN
          obtain ⟨h4, eh4⟩ : ∃ h4, h4 = sI h3 (b + 80) s := ⟨_, rfl⟩
          obtain ⟨h5, eh5⟩ : ∃ h5, h5 = sJ h4 (b + 78) (pgl (fun y => (lH s m mid y).toInt64) (hJ h3 (b + 78)) (m * 2) 2 m 0) := ⟨_, rfl⟩
          rw [← eh4, ← eh5] at eF
          have L4 : Lay b h4 := by rw [eh4]; exact L3.sI _ _
          have L6 : Lay b h5 := by rw [eh5]; exact L4.sJ _ _
          have sB : scr b k1 h5 := by
            have s1 : scr b k1 h3 := by rw [eh3]; exact scr_sF L1 _ (Or.inr ⟨rfl, rfl⟩)
            have s2 : scr b h3 h4 := by rw [eh4]; exact scr_sI L3 _ (by omega)
            have s3 : scr b h4 h5 := by rw [eh5]; exact scr_sJ L4 _
            exact scr_trans (scr_trans s1 s2) s3
          have fB : sameF b k1 h5 := by
            have s1 : sameF b k1 h3 := by rw [eh3]; exact sameF_sF (a := b + 70) (j := 8) _ (by omega) (by omega) (by omega)
            have s2 : sameF b h3 h4 := by rw [eh4]; exact sameF_sI _ (by omega)
            have s3 : sameF b h4 h5 := by rw [eh5]; exact sameF_sJ _
            exact sameF_trans (sameF_trans s1 s2) s3
          obtain ⟨k2, o', eM, RM, fM⟩ := K h5 sB fB (by rw [eh5, hF_sJ, eh4, hF_sI, eh3, hF_sF, if_pos ⟨rfl, rfl⟩, en, emid]) (fun p hp => by
            rw [eh5, hJ_sJ_same, pgl_in rfl hp, pgq_in rfl hp, es]
            congr 1
            refine (lH_cg hm ?_ hp).symm
            rw [ehH, hI_sI_same]
            exact odR_cg ⟨by omega, hm⟩ (zr_ag hm))
          have en' : nI (m * 2) = n := by rw [en, emid]
          rw [en'] at eF
          refine ⟨k2, o', z, ⟨.int r, k1, ?_, ?_⟩, RM, sameF_trans fH fM⟩
          · simp (decide := true) only [e_X3_make, s_X3_make_0, s_X3_make_1, s_X3_make_2, s_X3_make_5, s_X3_make_6, s_X3_make_8, s_X3_make_11, s_X3_make_12, s_X3_make_13, s_X3_make_16, s_X3_make_18, s_X3_make_19, s_X3_make_20, s_X3_make_21, s_X3_make_22, s_X3_make_23, s_X3_make_26, s_X3_make_27, s_X3_make_30, s_X3_make_31, s_X3_make_34, s_X3_make_37, s_X3_make_38, s_X3_make_39, s_X3_make_40, s_X3_make_43, s_X3_make_44, s_X3_make_47, s_X3_make_48, s_X3_make_51, s_X3_make_54, s_X3_make_55, s_X3_make_58, s_X3_make_59, s_X3_make_60, s_X3_make_61, s_X3_make_64, s_X3_make_65, s_X3_make_68, s_X3_make_69, s_X3_make_72, s_X3_make_75, s_X3_make_76, s_X3_make_79, if_true, if_false, and_true, true_and, and_false, false_and, true_or, or_true, or_false, false_or, eq_self, not_true_eq_false, not_false_eq_true, zv_int, zv_ref, zv_null, zv_none, hK_sI, hF_sI, hJ_sI, hN_sI, hZ_sI, hI_sI_same, hK_sJ, hF_sJ, hI_sJ, hN_sJ, hZ_sJ, hJ_sJ_same, hK_sF, hI_sF, hJ_sF, hN_sF, hZ_sF, Option.bind_some, Option.toList_some, Option.toList_none, List.cons_append, List.nil_append, zq_ref, zq_null, L.k0, L.p0_2, L.p0_3, L.k3, L.k5, LH.k0, LH.p0_2, LH.p0_3, LH.k3, LH.k5, LA.k0, c0, c1, c1', eq_false c2', r2, r2', r4, r4', dh, r2a, eO, eB, eK E (d + 6)]
          · simp (decide := true) only [e_X4_make, s_X4_make_0, s_X4_make_1, s_X4_make_2, s_X4_make_3, s_X4_make_6, s_X4_make_9, s_X4_make_12, s_X4_make_13, s_X4_make_14, s_X4_make_17, s_X4_make_19, s_X4_make_20, s_X4_make_21, s_X4_make_22, s_X4_make_25, s_X4_make_26, s_X4_make_27, s_X4_make_28, s_X4_make_29, s_X4_make_32, s_X4_make_33, s_X4_make_34, s_X4_make_37, s_X4_make_38, s_X4_make_40, s_X4_make_41, s_X4_make_42, s_X4_make_43, s_X4_make_46, s_X4_make_47, s_X4_make_50, s_X4_make_51, s_X4_make_52, s_X4_make_55, s_X4_make_56, s_X4_make_57, s_X4_make_58, s_X4_make_59, s_X4_make_62, s_X4_make_65, s_X4_make_68, s_X4_make_69, s_X4_make_70, s_X4_make_71, s_X4_make_74, s_X4_make_75, s_X4_make_77, s_X4_make_78, s_X4_make_79, s_X4_make_80, s_X4_make_83, s_X4_make_84, s_X4_make_85, s_X4_make_86, s_X4_make_87, s_X4_make_88, s_X4_make_89, s_X4_make_90, s_X4_make_91, s_X4_make_92, s_X4_make_93, s_X4_make_94, s_X4_make_96, s_X4_make_97, s_X4_make_100, s_X4_make_101, s_X4_make_102, s_X4_make_104, s_X4_make_107, s_X4_make_108, s_X4_make_110, s_X4_make_111, s_X4_make_112, s_X4_make_115, s_X4_make_116, s_X4_make_117, s_X4_make_118, s_X4_make_119, s_X4_make_120, s_X4_make_121, s_X4_make_124, s_X4_make_125, s_X4_make_126, s_X4_make_127, s_X4_make_128, s_X4_make_129, s_X4_make_132, s_X4_make_135, s_X4_make_138, s_X4_make_139, s_X4_make_140, s_X4_make_143, s_X4_make_144, s_X4_make_147, if_true, if_false, and_true, true_and, and_false, false_and, true_or, or_true, or_false, false_or, eq_self, not_true_eq_false, not_false_eq_true, zv_int, zv_ref, zv_null, zv_none, hK_sI, hF_sI, hJ_sI, hN_sI, hZ_sI, hI_sI_same, hK_sJ, hF_sJ, hI_sJ, hN_sJ, hZ_sJ, hJ_sJ_same, hK_sF, hI_sF, hJ_sF, hN_sF, hZ_sF, Option.bind_some, Option.toList_some, Option.toList_none, List.cons_append, List.nil_append, zq_ref, zq_null, L1.k70, L3.k70, L6.k70, l2, eq_false c2', r2, r2', r4, r4', eY, eF, eM E (d + 6)]
end
