/-! ===== the reference's seek, where it seeks ===== -/
section
variable {E : mE} {d : Nat} {h h1 h2 : mH} {b : Nat}
theorem cn_le {p : Nat → Bool} : ∀ (k i : Nat), cn p k i ≤ k
  | 0, _ => Nat.le_refl _
  | k + 1, i => by
    unfold cn
    have := cn_le (p := p) k (i + 1)
    cases p i <;> simp only [cond_true, cond_false] <;> omega
def wid (r : Nat → Int32) (w : Nat) : Bool := decide (w = 4) && decide (cn (hp r) (w * w) 0 < 3)
theorem c_mseek {kk w k m : Nat} {x : Int32} {bare rd pd : Bool} {r : Nat → Int32} (L : Lay b h) (hk : kk < 4) (hw : 1 ≤ w ∧ w ≤ 4) (lane : ¬ hI h (b + 72) kk = -1) (sz : hI h (b + 73) kk = nI m) (hm : w * w ≤ m ∧ m ≤ 150) (f13 : hF h (b + 70) 13 = .int (nI k)) (k12 : k < 12) (f14 : hF h (b + 70) 14 = .int (if bare = true then 1 else 0)) (hr : ∀ i, i < w * w → hI h (b + 74) (150 * kk + i) = r i) (nw : ¬ (wid r w = true ∧ bare = true)) (k4 : x &&& 4 = 0 ↔ rd = false) (k8 : x &&& 8 = 0 ↔ pd = false) : ∃ h' K, cal E (d + 4) kX4_seek [.ref (b + 70), .int (nI kk), .int (nI w), .int x] h = some (some (.int (nI K.length)), h') ∧ Lay b h' ∧ (∀ a, ¬ (b + 81 ≤ a ∧ a ≤ b + 85) → hI h' a = hI h a) ∧ (∀ a j, ¬ (a = b + 70 ∧ 12 ≤ j ∧ j ≤ 15) → hF h' a j = hF h a j) ∧ (hJ h' = hJ h ∧ hK h' = hK h ∧ hN h' = hN h ∧ hZ h' = hZ h) ∧ hF h' (b + 70) 12 = .int (nI K.length) ∧ hF h' (b + 70) 13 = .int (nI (k + 1)) ∧ hF h' (b + 70) 14 = .int (if (bare || wid r w) = true then 1 else 0) ∧ hF h' (b + 70) 15 = .int (nI w) ∧ (∀ j, j < K.length → ∀ c, c < w * w → hI h' (b + 81) (16 * j + c) = nI (kdg (K.getD j 0) (w * w) c + 1)) ∧ sor K ∧ ∀ κ, κ ∈ K ↔ hokP r (w * w) (w * w) ∧ ∃ f, Sol w rd pd (hdv r) f ∧ kyr f (w * w) = κ := by
  have nn : w * w ≤ 16 := Nat.mul_le_mul hw.2 hw.2
  have n0 : 1 ≤ w * w := Nat.mul_pos hw.1 hw.1
  have s2 := shM (E := E) (d := d + 1) (h := h) (nI kk)
  have cs_ : ¬ (nI kk < 0 ∨ nI 4 ≤ nI kk) := fun c => c.elim (fun c => nI_nlt (a := kk) (b := 0) (by omega) (by omega) c) (fun c => nI_ge hk (by omega) c)
  rw [if_neg cs_] at s2
  have i4 := inI1 (E := E) (d := d + 2) (h := h) (N := 4) (by decide) (nI w)
  have cw_ : ¬ (nI w < 1 ∨ nI 4 < nI w) := fun c => c.elim (fun c => nI_nlt (a := w) (b := 1) hw.1 (by omega) c) (fun c => nI_nlt (a := 4) (b := w) hw.2 (by omega) c)
  have e4 : (nI 4).toInt64 = 4 := rfl
  rw [if_neg cw_, e4] at i4
  have z0 : zR (nI kk) 4 := zR_to (by decide) hk
  have z1 : (nI kk).toNatClampNeg = kk := nI_clamp (by omega)
  have q12 : ¬ nI k = 12 := fun q => by
    have := (nI_eq (a := k) (b := 12) (by omega) (by decide)).mp q
    omega
  have qsz : nI (w * w) ≤ nI m := nI_le hm.1 (by omega)
  have lg := lp_given (E := E) (d := d + 3) (x3 := x) (w6 := none) (w7 := none) L hw hk (w * w) 0 0 (by omega)
  rw [Nat.zero_add, nI_0] at lg
  have cge : cn (hp (fun i => hI h (b + 74) (150 * kk + i))) (w * w) 0 = cn (hp r) (w * w) 0 := cn_cg fun j _ hj => by
    show decide (¬ hI h (b + 74) (150 * kk + j) = 0) = decide (¬ r j = 0)
    rw [hr j (by omega)]
  rw [cge] at lg
  have cb := cn_le (p := hp r) (w * w) 0
  obtain ⟨h1, eh1⟩ : ∃ h1, h1 = (if wid r w = true then sF h (b + 70) 14 (.int 1) else h) := ⟨_, rfl⟩
  have L1 : Lay b h1 := by
    rw [eh1]
    split
    · exact L.sF 70 14 _ (by decide +kernel)
    · exact L
  have fo1 : ∀ a j, ¬ (a = b + 70 ∧ j = 14) → hF h1 a j = hF h a j := fun a j q => by
    rw [eh1]
    split
    · rw [hF_sF, if_neg q]
    · rfl
  have f14' : hF h1 (b + 70) 14 = .int (if (bare || wid r w) = true then 1 else 0) := by
    rw [eh1]
    cases c : wid r w with
    | true =>
      rw [if_pos rfl, hF_sF, if_pos ⟨rfl, rfl⟩, Bool.or_true, if_pos rfl]
    | false =>
      rw [if_neg (by decide), Bool.or_false]
      exact f14
  have s1 : hI h1 = hI h ∧ hJ h1 = hJ h ∧ hK h1 = hK h ∧ hN h1 = hN h ∧ hZ h1 = hZ h := by
    rw [eh1]
    split <;> exact ⟨rfl, rfl, rfl, rfl, rfl⟩
  obtain ⟨i1, j1, k1, n1, zz1⟩ := s1
  -- to 143
  have A : cal E (d + 4) kX4_seek [.ref (b + 70), .int (nI kk), .int (nI w), .int x] h = zl E (d + 3) kX4_seek 143 [some (.ref (b + 70)), some (.int (nI kk)), some (.int (nI w)), some (.int x), some (.int (nI (cn (hp r) (w * w) 0))), some (.int (nI (w * w))), none, none] [] h1 := by
    simp (decide := true) only [e_X4_seek, s_X4_seek_0, s_X4_seek_1, s_X4_seek_4, s_X4_seek_7, s_X4_seek_9, s_X4_seek_10, s_X4_seek_11, s_X4_seek_12, s_X4_seek_13, s_X4_seek_16, s_X4_seek_19, s_X4_seek_22, s_X4_seek_24, s_X4_seek_25, s_X4_seek_26, s_X4_seek_29, s_X4_seek_31, s_X4_seek_34, s_X4_seek_36, s_X4_seek_37, s_X4_seek_38, s_X4_seek_41, s_X4_seek_42, s_X4_seek_43, s_X4_seek_44, s_X4_seek_47, s_X4_seek_48, s_X4_seek_49, s_X4_seek_52, s_X4_seek_53, s_X4_seek_54, s_X4_seek_57, s_X4_seek_58, s_X4_seek_59, s_X4_seek_60, s_X4_seek_61, s_X4_seek_62, s_X4_seek_65, s_X4_seek_66, s_X4_seek_67, s_X4_seek_70, s_X4_seek_71, s_X4_seek_72, s_X4_seek_74, s_X4_seek_75, s_X4_seek_79, s_X4_seek_80, s_X4_seek_81, s_X4_seek_82, s_X4_seek_85, s_X4_seek_87, s_X4_seek_88, s_X4_seek_91, s_X4_seek_94, s_X4_seek_95, s_X4_seek_96, s_X4_seek_98, s_X4_seek_99, s_X4_seek_100, s_X4_seek_103, s_X4_seek_104, s_X4_seek_107, s_X4_seek_108, s_X4_seek_109, s_X4_seek_111, s_X4_seek_114, s_X4_seek_118, s_X4_seek_119, s_X4_seek_122, s_X4_seek_124, s_X4_seek_125, s_X4_seek_128, s_X4_seek_129, s_X4_seek_132, s_X4_seek_135, s_X4_seek_137, s_X4_seek_138, s_X4_seek_139, s_X4_seek_140, s_X4_seek_144, s_X4_seek_145, s_X4_seek_148, s_X4_seek_149, s_X4_seek_150, s_X4_seek_153, s_X4_seek_154, s_X4_seek_155, s_X4_seek_158, s_X4_seek_159, s_X4_seek_160, s_X4_seek_163, s_X4_seek_164, s_X4_seek_166, s_X4_seek_167, s_X4_seek_171, s_X4_seek_173, s_X4_seek_176, s_X4_seek_177, s_X4_seek_180, s_X4_seek_182, s_X4_seek_183, s_X4_seek_184, s_X4_seek_187, s_X4_seek_190, s_X4_seek_191, s_X4_seek_195, s_X4_seek_196, s_X4_seek_197, s_X4_seek_198, s_X4_seek_201, s_X4_seek_202, s_X4_seek_205, s_X4_seek_208, s_X4_seek_209, s_X4_seek_210, s_X4_seek_212, s_X4_seek_213, s_X4_seek_214, s_X4_seek_216, s_X4_seek_218, s_X4_seek_221, s_X4_seek_223, s_X4_seek_224, s_X4_seek_225, s_X4_seek_226, s_X4_seek_227, s_X4_seek_228, s_X4_seek_229, s_X4_seek_232, s_X4_seek_235, s_X4_seek_237, s_X4_seek_240, s_X4_seek_241, s_X4_seek_244, s_X4_seek_246, s_X4_seek_247, s_X4_seek_248, s_X4_seek_251, s_X4_seek_252, s_X4_seek_255, s_X4_seek_256, s_X4_seek_258, s_X4_seek_259, s_X4_seek_262, s_X4_seek_264, s_X4_seek_266, s_X4_seek_267, s_X4_seek_269, s_X4_seek_272, s_X4_seek_274, s_X4_seek_277, s_X4_seek_278, s_X4_seek_281, s_X4_seek_283, s_X4_seek_285, s_X4_seek_286, s_X4_seek_289, s_X4_seek_292, s_X4_seek_294, s_X4_seek_297, s_X4_seek_298, s_X4_seek_299, s_X4_seek_300, s_X4_seek_303, s_X4_seek_304, s_X4_seek_307, if_true, if_false, and_true, true_and, and_false, false_and, true_or, or_true, or_false, false_or, eq_self, not_true_eq_false, not_false_eq_true, zv_int, zv_ref, zv_null, zv_none, hK_sI, hF_sI, hJ_sI, hN_sI, hZ_sI, hI_sI_same, hK_sJ, hF_sJ, hI_sJ, hN_sJ, hZ_sJ, hJ_sJ_same, hK_sF, hI_sF, hJ_sF, hN_sF, hZ_sF, Option.bind_some, Option.toList_some, Option.toList_none, List.cons_append, List.nil_append, zq_ref, zq_null, L.k70, L.p70_2, L.p70_3, L.k72, L.k73, s2, i4, f13, q12, z0, z1, lane, sz, pk_mul, qsz]
    rw [lg]
    have w4 : nI w = 4 ↔ w = 4 := nI_eq (a := w) (b := 4) (by omega) (by decide)
    by_cases c4 : w = 4
    · by_cases c3 : cn (hp r) (w * w) 0 < 3
      · have wt : wid r w = true := by unfold wid; rw [decide_eq_true c4, decide_eq_true c3]; rfl
        have bf : bare = false := by
          cases hb : bare with
          | true => exact absurd ⟨wt, hb⟩ nw
          | false => rfl
        rw [bf] at f14
        have q3 : ¬ 3 ≤ nI (cn (hp r) (w * w) 0) := nI_ge (b := 3) c3 (by decide)
        rw [wt, if_pos rfl] at eh1
        simp (decide := true) only [s_X4_seek_0, s_X4_seek_1, s_X4_seek_4, s_X4_seek_7, s_X4_seek_9, s_X4_seek_10, s_X4_seek_11, s_X4_seek_12, s_X4_seek_13, s_X4_seek_16, s_X4_seek_19, s_X4_seek_22, s_X4_seek_24, s_X4_seek_25, s_X4_seek_26, s_X4_seek_29, s_X4_seek_31, s_X4_seek_34, s_X4_seek_36, s_X4_seek_37, s_X4_seek_38, s_X4_seek_41, s_X4_seek_42, s_X4_seek_43, s_X4_seek_44, s_X4_seek_47, s_X4_seek_48, s_X4_seek_49, s_X4_seek_52, s_X4_seek_53, s_X4_seek_54, s_X4_seek_57, s_X4_seek_58, s_X4_seek_59, s_X4_seek_60, s_X4_seek_61, s_X4_seek_62, s_X4_seek_65, s_X4_seek_66, s_X4_seek_67, s_X4_seek_70, s_X4_seek_71, s_X4_seek_72, s_X4_seek_74, s_X4_seek_75, s_X4_seek_79, s_X4_seek_80, s_X4_seek_81, s_X4_seek_82, s_X4_seek_85, s_X4_seek_87, s_X4_seek_88, s_X4_seek_91, s_X4_seek_94, s_X4_seek_95, s_X4_seek_96, s_X4_seek_98, s_X4_seek_99, s_X4_seek_100, s_X4_seek_103, s_X4_seek_104, s_X4_seek_107, s_X4_seek_108, s_X4_seek_109, s_X4_seek_111, s_X4_seek_114, s_X4_seek_117, s_X4_seek_118, s_X4_seek_119, s_X4_seek_122, s_X4_seek_124, s_X4_seek_125, s_X4_seek_128, s_X4_seek_129, s_X4_seek_132, s_X4_seek_135, s_X4_seek_137, s_X4_seek_138, s_X4_seek_139, s_X4_seek_140, s_X4_seek_144, s_X4_seek_145, s_X4_seek_148, s_X4_seek_149, s_X4_seek_150, s_X4_seek_153, s_X4_seek_154, s_X4_seek_155, s_X4_seek_158, s_X4_seek_159, s_X4_seek_160, s_X4_seek_163, s_X4_seek_164, s_X4_seek_166, s_X4_seek_167, s_X4_seek_171, s_X4_seek_173, s_X4_seek_176, s_X4_seek_177, s_X4_seek_180, s_X4_seek_182, s_X4_seek_183, s_X4_seek_184, s_X4_seek_187, s_X4_seek_190, s_X4_seek_191, s_X4_seek_195, s_X4_seek_196, s_X4_seek_197, s_X4_seek_198, s_X4_seek_201, s_X4_seek_202, s_X4_seek_205, s_X4_seek_208, s_X4_seek_209, s_X4_seek_210, s_X4_seek_212, s_X4_seek_213, s_X4_seek_214, s_X4_seek_216, s_X4_seek_218, s_X4_seek_221, s_X4_seek_223, s_X4_seek_224, s_X4_seek_225, s_X4_seek_226, s_X4_seek_227, s_X4_seek_228, s_X4_seek_229, s_X4_seek_232, s_X4_seek_235, s_X4_seek_237, s_X4_seek_240, s_X4_seek_241, s_X4_seek_244, s_X4_seek_246, s_X4_seek_247, s_X4_seek_248, s_X4_seek_251, s_X4_seek_252, s_X4_seek_255, s_X4_seek_256, s_X4_seek_258, s_X4_seek_259, s_X4_seek_262, s_X4_seek_264, s_X4_seek_266, s_X4_seek_267, s_X4_seek_269, s_X4_seek_272, s_X4_seek_274, s_X4_seek_277, s_X4_seek_278, s_X4_seek_281, s_X4_seek_283, s_X4_seek_285, s_X4_seek_286, s_X4_seek_289, s_X4_seek_292, s_X4_seek_294, s_X4_seek_297, s_X4_seek_298, s_X4_seek_299, s_X4_seek_300, s_X4_seek_303, s_X4_seek_304, s_X4_seek_307, if_true, if_false, and_true, true_and, and_false, false_and, true_or, or_true, or_false, false_or, eq_self, not_true_eq_false, not_false_eq_true, zv_int, zv_ref, zv_null, zv_none, hK_sI, hF_sI, hJ_sI, hN_sI, hZ_sI, hI_sI_same, hK_sJ, hF_sJ, hI_sJ, hN_sJ, hZ_sJ, hJ_sJ_same, hK_sF, hI_sF, hJ_sF, hN_sF, hZ_sF, Option.bind_some, Option.toList_some, Option.toList_none, List.cons_append, List.nil_append, zq_ref, zq_null, L.k70, w4, eq_true c4, q3, f14, zfit]
        rw [← eh1]
      · have wf : wid r w = false := by unfold wid; rw [decide_eq_false c3, Bool.and_false]
        have q3 : 3 ≤ nI (cn (hp r) (w * w) 0) := nI_le (a := 3) (by omega) (by omega)
        rw [wf, if_neg (by decide)] at eh1
        simp (decide := true) only [s_X4_seek_0, s_X4_seek_1, s_X4_seek_4, s_X4_seek_7, s_X4_seek_9, s_X4_seek_10, s_X4_seek_11, s_X4_seek_12, s_X4_seek_13, s_X4_seek_16, s_X4_seek_19, s_X4_seek_22, s_X4_seek_24, s_X4_seek_25, s_X4_seek_26, s_X4_seek_29, s_X4_seek_31, s_X4_seek_34, s_X4_seek_36, s_X4_seek_37, s_X4_seek_38, s_X4_seek_41, s_X4_seek_42, s_X4_seek_43, s_X4_seek_44, s_X4_seek_47, s_X4_seek_48, s_X4_seek_49, s_X4_seek_52, s_X4_seek_53, s_X4_seek_54, s_X4_seek_57, s_X4_seek_58, s_X4_seek_59, s_X4_seek_60, s_X4_seek_61, s_X4_seek_62, s_X4_seek_65, s_X4_seek_66, s_X4_seek_67, s_X4_seek_70, s_X4_seek_71, s_X4_seek_72, s_X4_seek_74, s_X4_seek_75, s_X4_seek_79, s_X4_seek_80, s_X4_seek_81, s_X4_seek_82, s_X4_seek_85, s_X4_seek_87, s_X4_seek_88, s_X4_seek_91, s_X4_seek_94, s_X4_seek_95, s_X4_seek_96, s_X4_seek_98, s_X4_seek_99, s_X4_seek_100, s_X4_seek_103, s_X4_seek_104, s_X4_seek_107, s_X4_seek_108, s_X4_seek_109, s_X4_seek_111, s_X4_seek_114, s_X4_seek_117, s_X4_seek_118, s_X4_seek_119, s_X4_seek_122, s_X4_seek_124, s_X4_seek_125, s_X4_seek_128, s_X4_seek_129, s_X4_seek_132, s_X4_seek_135, s_X4_seek_137, s_X4_seek_138, s_X4_seek_139, s_X4_seek_140, s_X4_seek_144, s_X4_seek_145, s_X4_seek_148, s_X4_seek_149, s_X4_seek_150, s_X4_seek_153, s_X4_seek_154, s_X4_seek_155, s_X4_seek_158, s_X4_seek_159, s_X4_seek_160, s_X4_seek_163, s_X4_seek_164, s_X4_seek_166, s_X4_seek_167, s_X4_seek_171, s_X4_seek_173, s_X4_seek_176, s_X4_seek_177, s_X4_seek_180, s_X4_seek_182, s_X4_seek_183, s_X4_seek_184, s_X4_seek_187, s_X4_seek_190, s_X4_seek_191, s_X4_seek_195, s_X4_seek_196, s_X4_seek_197, s_X4_seek_198, s_X4_seek_201, s_X4_seek_202, s_X4_seek_205, s_X4_seek_208, s_X4_seek_209, s_X4_seek_210, s_X4_seek_212, s_X4_seek_213, s_X4_seek_214, s_X4_seek_216, s_X4_seek_218, s_X4_seek_221, s_X4_seek_223, s_X4_seek_224, s_X4_seek_225, s_X4_seek_226, s_X4_seek_227, s_X4_seek_228, s_X4_seek_229, s_X4_seek_232, s_X4_seek_235, s_X4_seek_237, s_X4_seek_240, s_X4_seek_241, s_X4_seek_244, s_X4_seek_246, s_X4_seek_247, s_X4_seek_248, s_X4_seek_251, s_X4_seek_252, s_X4_seek_255, s_X4_seek_256, s_X4_seek_258, s_X4_seek_259, s_X4_seek_262, s_X4_seek_264, s_X4_seek_266, s_X4_seek_267, s_X4_seek_269, s_X4_seek_272, s_X4_seek_274, s_X4_seek_277, s_X4_seek_278, s_X4_seek_281, s_X4_seek_283, s_X4_seek_285, s_X4_seek_286, s_X4_seek_289, s_X4_seek_292, s_X4_seek_294, s_X4_seek_297, s_X4_seek_298, s_X4_seek_299, s_X4_seek_300, s_X4_seek_303, s_X4_seek_304, s_X4_seek_307, if_true, if_false, and_true, true_and, and_false, false_and, true_or, or_true, or_false, false_or, eq_self, not_true_eq_false, not_false_eq_true, zv_int, zv_ref, zv_null, zv_none, hK_sI, hF_sI, hJ_sI, hN_sI, hZ_sI, hI_sI_same, hK_sJ, hF_sJ, hI_sJ, hN_sJ, hZ_sJ, hJ_sJ_same, hK_sF, hI_sF, hJ_sF, hN_sF, hZ_sF, Option.bind_some, Option.toList_some, Option.toList_none, List.cons_append, List.nil_append, zq_ref, zq_null, L.k70, w4, eq_true c4, q3]
        rw [← eh1]
    · have wf : wid r w = false := by unfold wid; rw [decide_eq_false c4, Bool.false_and]
      rw [wf, if_neg (by decide)] at eh1
      simp (decide := true) only [s_X4_seek_0, s_X4_seek_1, s_X4_seek_4, s_X4_seek_7, s_X4_seek_9, s_X4_seek_10, s_X4_seek_11, s_X4_seek_12, s_X4_seek_13, s_X4_seek_16, s_X4_seek_19, s_X4_seek_22, s_X4_seek_24, s_X4_seek_25, s_X4_seek_26, s_X4_seek_29, s_X4_seek_31, s_X4_seek_34, s_X4_seek_36, s_X4_seek_37, s_X4_seek_38, s_X4_seek_41, s_X4_seek_42, s_X4_seek_43, s_X4_seek_44, s_X4_seek_47, s_X4_seek_48, s_X4_seek_49, s_X4_seek_52, s_X4_seek_53, s_X4_seek_54, s_X4_seek_57, s_X4_seek_58, s_X4_seek_59, s_X4_seek_60, s_X4_seek_61, s_X4_seek_62, s_X4_seek_65, s_X4_seek_66, s_X4_seek_67, s_X4_seek_70, s_X4_seek_71, s_X4_seek_72, s_X4_seek_74, s_X4_seek_75, s_X4_seek_79, s_X4_seek_80, s_X4_seek_81, s_X4_seek_82, s_X4_seek_85, s_X4_seek_87, s_X4_seek_88, s_X4_seek_91, s_X4_seek_94, s_X4_seek_95, s_X4_seek_96, s_X4_seek_98, s_X4_seek_99, s_X4_seek_100, s_X4_seek_103, s_X4_seek_104, s_X4_seek_107, s_X4_seek_108, s_X4_seek_109, s_X4_seek_111, s_X4_seek_114, s_X4_seek_117, s_X4_seek_118, s_X4_seek_119, s_X4_seek_122, s_X4_seek_124, s_X4_seek_125, s_X4_seek_128, s_X4_seek_129, s_X4_seek_132, s_X4_seek_135, s_X4_seek_137, s_X4_seek_138, s_X4_seek_139, s_X4_seek_140, s_X4_seek_144, s_X4_seek_145, s_X4_seek_148, s_X4_seek_149, s_X4_seek_150, s_X4_seek_153, s_X4_seek_154, s_X4_seek_155, s_X4_seek_158, s_X4_seek_159, s_X4_seek_160, s_X4_seek_163, s_X4_seek_164, s_X4_seek_166, s_X4_seek_167, s_X4_seek_171, s_X4_seek_173, s_X4_seek_176, s_X4_seek_177, s_X4_seek_180, s_X4_seek_182, s_X4_seek_183, s_X4_seek_184, s_X4_seek_187, s_X4_seek_190, s_X4_seek_191, s_X4_seek_195, s_X4_seek_196, s_X4_seek_197, s_X4_seek_198, s_X4_seek_201, s_X4_seek_202, s_X4_seek_205, s_X4_seek_208, s_X4_seek_209, s_X4_seek_210, s_X4_seek_212, s_X4_seek_213, s_X4_seek_214, s_X4_seek_216, s_X4_seek_218, s_X4_seek_221, s_X4_seek_223, s_X4_seek_224, s_X4_seek_225, s_X4_seek_226, s_X4_seek_227, s_X4_seek_228, s_X4_seek_229, s_X4_seek_232, s_X4_seek_235, s_X4_seek_237, s_X4_seek_240, s_X4_seek_241, s_X4_seek_244, s_X4_seek_246, s_X4_seek_247, s_X4_seek_248, s_X4_seek_251, s_X4_seek_252, s_X4_seek_255, s_X4_seek_256, s_X4_seek_258, s_X4_seek_259, s_X4_seek_262, s_X4_seek_264, s_X4_seek_266, s_X4_seek_267, s_X4_seek_269, s_X4_seek_272, s_X4_seek_274, s_X4_seek_277, s_X4_seek_278, s_X4_seek_281, s_X4_seek_283, s_X4_seek_285, s_X4_seek_286, s_X4_seek_289, s_X4_seek_292, s_X4_seek_294, s_X4_seek_297, s_X4_seek_298, s_X4_seek_299, s_X4_seek_300, s_X4_seek_303, s_X4_seek_304, s_X4_seek_307, if_true, if_false, and_true, true_and, and_false, false_and, true_or, or_true, or_false, false_or, eq_self, not_true_eq_false, not_false_eq_true, zv_int, zv_ref, zv_null, zv_none, hK_sI, hF_sI, hJ_sI, hN_sI, hZ_sI, hI_sI_same, hK_sJ, hF_sJ, hI_sJ, hN_sJ, hZ_sJ, hJ_sJ_same, hK_sF, hI_sF, hJ_sF, hN_sF, hZ_sF, Option.bind_some, Option.toList_some, Option.toList_none, List.cons_append, List.nil_append, zq_ref, zq_null, L.k70, w4, eq_false c4]
      rw [← eh1]
  -- the fields
  obtain ⟨h2, eh2⟩ : ∃ h2, h2 = sF (sF (sF h1 (b + 70) 13 (.int (nI (k + 1)))) (b + 70) 15 (.int (nI w))) (b + 70) 12 (.int 0) := ⟨_, rfl⟩
  have L2 : Lay b h2 := by
    rw [eh2]
    exact ((L1.sF 70 13 _ (by decide +kernel)).sF 70 15 _ (by decide +kernel)).sF 70 12 _ (by decide +kernel)
  have fo2 : ∀ a j, ¬ (a = b + 70 ∧ (j = 12 ∨ j = 13 ∨ j = 15)) → hF h2 a j = hF h1 a j := fun a j q => by
    rw [eh2, hF_sF, if_neg (by omega), hF_sF, if_neg (by omega), hF_sF, if_neg (by omega)]
  have g12 : hF h2 (b + 70) 12 = .int 0 := by rw [eh2, hF_sF, if_pos ⟨rfl, rfl⟩]
  have g15 : hF h2 (b + 70) 15 = .int (nI w) := by rw [eh2, hF_sF, if_neg (by omega), hF_sF, if_pos ⟨rfl, rfl⟩]
  have g13 : hF h2 (b + 70) 13 = .int (nI (k + 1)) := by rw [eh2, hF_sF, if_neg (by omega), hF_sF, if_neg (by omega), hF_sF, if_pos ⟨rfl, rfl⟩]
  have g14 : hF h2 (b + 70) 14 = .int (if (bare || wid r w) = true then 1 else 0) := by rw [fo2 _ _ (by omega)]; exact f14'
  have i2 : hI h2 = hI h := by rw [eh2]; exact i1
  have f13a : hF h1 (b + 70) 13 = .int (nI k) := by rw [fo1 _ _ (by omega)]; exact f13
  obtain ⟨h3, eh3⟩ : ∃ h3, h3 = sI h2 (b + 85) (rw_ (fun _ => -1) (hI h2 (b + 85)) 17) := ⟨_, rfl⟩
  have L3 : Lay b h3 := by rw [eh3]; exact L2.sI _ _
  have lA := lp_hA (E := E) (d := d + 3) (w1 := some (.int (nI kk))) (w2 := some (.int (nI w))) (w3 := some (.int x)) (w4 := some (.int (nI (cn (hp r) (w * w) 0)))) (w7 := none) (x5 := 1) (g := hI h2 (b + 85)) L2 17 0 (by omega)
  rw [rw_0, sI_self, ← eh3, nI_0] at lA
  have B : zl E (d + 3) kX4_seek 143 [some (.ref (b + 70)), some (.int (nI kk)), some (.int (nI w)), some (.int x), some (.int (nI (cn (hp r) (w * w) 0))), some (.int (nI (w * w))), none, none] [] h1 = zl E (d + 3) kX4_seek 193 [some (.ref (b + 70)), some (.int (nI kk)), some (.int (nI w)), some (.int x), some (.int (nI (cn (hp r) (w * w) 0))), some (.int 1), some (.int 0), none] [] h3 := by
    have n1k := nI_1 k
    simp (decide := true) only [s_X4_seek_0, s_X4_seek_1, s_X4_seek_4, s_X4_seek_7, s_X4_seek_9, s_X4_seek_10, s_X4_seek_11, s_X4_seek_12, s_X4_seek_13, s_X4_seek_16, s_X4_seek_19, s_X4_seek_22, s_X4_seek_24, s_X4_seek_25, s_X4_seek_26, s_X4_seek_29, s_X4_seek_31, s_X4_seek_34, s_X4_seek_36, s_X4_seek_37, s_X4_seek_38, s_X4_seek_41, s_X4_seek_42, s_X4_seek_43, s_X4_seek_44, s_X4_seek_47, s_X4_seek_48, s_X4_seek_49, s_X4_seek_52, s_X4_seek_53, s_X4_seek_54, s_X4_seek_57, s_X4_seek_58, s_X4_seek_59, s_X4_seek_60, s_X4_seek_61, s_X4_seek_62, s_X4_seek_65, s_X4_seek_66, s_X4_seek_67, s_X4_seek_70, s_X4_seek_71, s_X4_seek_72, s_X4_seek_74, s_X4_seek_75, s_X4_seek_79, s_X4_seek_80, s_X4_seek_81, s_X4_seek_82, s_X4_seek_85, s_X4_seek_87, s_X4_seek_88, s_X4_seek_91, s_X4_seek_94, s_X4_seek_95, s_X4_seek_96, s_X4_seek_98, s_X4_seek_99, s_X4_seek_100, s_X4_seek_103, s_X4_seek_104, s_X4_seek_107, s_X4_seek_108, s_X4_seek_109, s_X4_seek_111, s_X4_seek_114, s_X4_seek_117, s_X4_seek_118, s_X4_seek_119, s_X4_seek_122, s_X4_seek_124, s_X4_seek_125, s_X4_seek_128, s_X4_seek_129, s_X4_seek_132, s_X4_seek_135, s_X4_seek_137, s_X4_seek_138, s_X4_seek_139, s_X4_seek_140, s_X4_seek_143, s_X4_seek_144, s_X4_seek_145, s_X4_seek_148, s_X4_seek_149, s_X4_seek_150, s_X4_seek_153, s_X4_seek_154, s_X4_seek_155, s_X4_seek_158, s_X4_seek_159, s_X4_seek_160, s_X4_seek_163, s_X4_seek_164, s_X4_seek_166, s_X4_seek_167, s_X4_seek_171, s_X4_seek_173, s_X4_seek_176, s_X4_seek_177, s_X4_seek_180, s_X4_seek_182, s_X4_seek_183, s_X4_seek_184, s_X4_seek_187, s_X4_seek_191, s_X4_seek_195, s_X4_seek_196, s_X4_seek_197, s_X4_seek_198, s_X4_seek_201, s_X4_seek_202, s_X4_seek_205, s_X4_seek_208, s_X4_seek_209, s_X4_seek_210, s_X4_seek_212, s_X4_seek_213, s_X4_seek_214, s_X4_seek_216, s_X4_seek_218, s_X4_seek_221, s_X4_seek_223, s_X4_seek_224, s_X4_seek_225, s_X4_seek_226, s_X4_seek_227, s_X4_seek_228, s_X4_seek_229, s_X4_seek_232, s_X4_seek_235, s_X4_seek_237, s_X4_seek_240, s_X4_seek_241, s_X4_seek_244, s_X4_seek_246, s_X4_seek_247, s_X4_seek_248, s_X4_seek_251, s_X4_seek_252, s_X4_seek_255, s_X4_seek_256, s_X4_seek_258, s_X4_seek_259, s_X4_seek_262, s_X4_seek_264, s_X4_seek_266, s_X4_seek_267, s_X4_seek_269, s_X4_seek_272, s_X4_seek_274, s_X4_seek_277, s_X4_seek_278, s_X4_seek_281, s_X4_seek_283, s_X4_seek_285, s_X4_seek_286, s_X4_seek_289, s_X4_seek_292, s_X4_seek_294, s_X4_seek_297, s_X4_seek_298, s_X4_seek_299, s_X4_seek_300, s_X4_seek_303, s_X4_seek_304, s_X4_seek_307, if_true, if_false, and_true, true_and, and_false, false_and, true_or, or_true, or_false, false_or, eq_self, not_true_eq_false, not_false_eq_true, zv_int, zv_ref, zv_null, zv_none, hK_sI, hF_sI, hJ_sI, hN_sI, hZ_sI, hI_sI_same, hK_sJ, hF_sJ, hI_sJ, hN_sJ, hZ_sJ, hJ_sJ_same, hK_sF, hI_sF, hJ_sF, hN_sF, hZ_sF, Option.bind_some, Option.toList_some, Option.toList_none, List.cons_append, List.nil_append, zq_ref, zq_null, L1.k70, f13a, n1k, zfit]
    rw [← eh2, lA]
    simp (decide := true) only [s_X4_seek_190, s_X4_seek_191, if_true, if_false, and_true, true_and, and_false, false_and, true_or, or_true, or_false, false_or, eq_self, not_true_eq_false, not_false_eq_true, zv_int, zv_ref, zv_null, zv_none, hK_sI, hF_sI, hJ_sI, hN_sI, hZ_sI, hI_sI_same, hK_sJ, hF_sJ, hI_sJ, hN_sJ, hZ_sJ, hJ_sJ_same, hK_sF, hI_sF, hJ_sF, hN_sF, hZ_sF, Option.bind_some, Option.toList_some, Option.toList_none, List.cons_append, List.nil_append, zq_ref, zq_null]
  have i3 : ∀ a, a ≠ b + 85 → hI h3 a = hI h a := fun a ha => by rw [eh3, hI_sI_ne _ _ ha, i2]
  have hr3 : ∀ i, i < w * w → hI h3 (b + 74) (150 * kk + i) = r i := fun i hi => by rw [i3 _ (by omega)]; exact hr i hi
  obtain ⟨u', g', w7, eH, hu1, hu0⟩ := lp_hol (E := E) (d := d + 2) (kd := x) (r := r) (g84 := hI h3 (b + 84)) (x4 := nI (cn (hp r) (w * w) 0)) L3 hw hk hr3 (w * w) 0 true (hI h3 (b + 85)) none (by omega) (fun _ => ⟨fun j hj => absurd hj (by omega), fun v v1 v2 => Or.inl ⟨by rw [eh3, hI_sI_same, rw_in (by omega)], fun c hc => absurd hc (by omega)⟩⟩) (fun q => by cases q)
  have h30 : hoM h3 b r (hI h3 (b + 84)) (hI h3 (b + 85)) 0 = h3 := by
    unfold hoM
    rw [rw_0, sI_self, sI_self]
  rw [h30, nI_0] at eH
  obtain ⟨h4, eh4⟩ : ∃ h4, h4 = hoM h3 b r (hI h3 (b + 84)) g' (w * w) := ⟨_, rfl⟩
  rw [← eh4] at eH
  change zl E (d + 3) kX4_seek 193 [some (.ref (b + 70)), some (.int (nI kk)), some (.int (nI w)), some (.int x), some (.int (nI (cn (hp r) (w * w) 0))), some (.int 1), some (.int 0), none] [] h3 = _ at eH
  have L4 : Lay b h4 := by rw [eh4]; exact hoM_L L3
  have i4_ : ∀ a, a ≠ b + 84 → a ≠ b + 85 → hI h4 a = hI h a := fun a a1 a2 => by
    rw [eh4]
    unfold hoM
    rw [hI_sI_ne _ _ a2, hI_sI_ne _ _ a1, i3 a a2]
  have i84 : hI h4 (b + 84) = rw_ r (hI h3 (b + 84)) (w * w) := by
    rw [eh4]
    unfold hoM
    rw [hI_sI_ne _ _ (by omega), hI_sI_same]
  have i85 : hI h4 (b + 85) = g' := by
    rw [eh4]
    unfold hoM
    rw [hI_sI_same]
  have f4 : hF h4 = hF h2 := by rw [eh4]; unfold hoM; rw [hF_sI, hF_sI, eh3, hF_sI]
  have jk4 : hJ h4 = hJ h ∧ hK h4 = hK h ∧ hN h4 = hN h ∧ hZ h4 = hZ h := by
    rw [eh4, eh3, eh2]
    exact ⟨j1, k1, n1, zz1⟩
  have fo4 : ∀ a j, ¬ (a = b + 70 ∧ 12 ≤ j ∧ j ≤ 15) → hF h4 a j = hF h a j := fun a j q => by
    rw [f4, fo2 a j (by omega), fo1 a j (by omega)]
  cases u' with
  | true =>
    obtain ⟨ok, hA⟩ := hu1 rfl
    have hv := hdv_ok nn ok
    obtain ⟨h5, K, eS, frS, L5, x12, rows, sK, mem⟩ := c_X4_seekAll (E := E) (d := d) (kd := x) (rd := rd) (pd := pd) (hd := hdv r) hw (hokP_HD hw ok) k4 k8 L4 (by rw [f4]; exact g12) (fun c hc => by rw [i84, rw_in hc]; exact (hv c hc).1) (fun v v1 v2 => by
      rw [i85]
      rcases hA v v1 v2 with ⟨y1, y2⟩ | ⟨c, hc, y1, y2⟩
      · refine Or.inl ⟨y1, fun c hc q => y2 c hc ?_⟩
        rw [(hv c hc).1, q]
      · refine Or.inr ⟨c, hc, ?_, y2⟩
        rw [(hv c hc).1] at y1
        have := (hv c hc).2
        exact (nI_eq (by omega) (by omega)).mp y1)
    refine ⟨h5, K, ?_, L5, fun a ha => ?_, fun a j q => ?_, ?_, x12, ?_, ?_, ?_, rows, sK, fun κ => ?_⟩
    · rw [A, B, eH]
      simp (decide := true) only [s_X4_seek_0, s_X4_seek_1, s_X4_seek_4, s_X4_seek_7, s_X4_seek_9, s_X4_seek_10, s_X4_seek_11, s_X4_seek_12, s_X4_seek_13, s_X4_seek_16, s_X4_seek_19, s_X4_seek_22, s_X4_seek_24, s_X4_seek_25, s_X4_seek_26, s_X4_seek_29, s_X4_seek_31, s_X4_seek_34, s_X4_seek_36, s_X4_seek_37, s_X4_seek_38, s_X4_seek_41, s_X4_seek_42, s_X4_seek_43, s_X4_seek_44, s_X4_seek_47, s_X4_seek_48, s_X4_seek_49, s_X4_seek_52, s_X4_seek_53, s_X4_seek_54, s_X4_seek_57, s_X4_seek_58, s_X4_seek_59, s_X4_seek_60, s_X4_seek_61, s_X4_seek_62, s_X4_seek_65, s_X4_seek_66, s_X4_seek_67, s_X4_seek_70, s_X4_seek_71, s_X4_seek_72, s_X4_seek_74, s_X4_seek_75, s_X4_seek_79, s_X4_seek_80, s_X4_seek_81, s_X4_seek_82, s_X4_seek_85, s_X4_seek_87, s_X4_seek_88, s_X4_seek_91, s_X4_seek_94, s_X4_seek_95, s_X4_seek_96, s_X4_seek_98, s_X4_seek_99, s_X4_seek_100, s_X4_seek_103, s_X4_seek_104, s_X4_seek_107, s_X4_seek_108, s_X4_seek_109, s_X4_seek_111, s_X4_seek_114, s_X4_seek_117, s_X4_seek_118, s_X4_seek_119, s_X4_seek_122, s_X4_seek_124, s_X4_seek_125, s_X4_seek_128, s_X4_seek_129, s_X4_seek_132, s_X4_seek_135, s_X4_seek_137, s_X4_seek_138, s_X4_seek_139, s_X4_seek_140, s_X4_seek_143, s_X4_seek_144, s_X4_seek_145, s_X4_seek_148, s_X4_seek_149, s_X4_seek_150, s_X4_seek_153, s_X4_seek_154, s_X4_seek_155, s_X4_seek_158, s_X4_seek_159, s_X4_seek_160, s_X4_seek_163, s_X4_seek_164, s_X4_seek_166, s_X4_seek_167, s_X4_seek_171, s_X4_seek_173, s_X4_seek_176, s_X4_seek_177, s_X4_seek_180, s_X4_seek_182, s_X4_seek_183, s_X4_seek_184, s_X4_seek_187, s_X4_seek_190, s_X4_seek_191, s_X4_seek_195, s_X4_seek_196, s_X4_seek_197, s_X4_seek_198, s_X4_seek_201, s_X4_seek_202, s_X4_seek_205, s_X4_seek_208, s_X4_seek_209, s_X4_seek_210, s_X4_seek_212, s_X4_seek_213, s_X4_seek_214, s_X4_seek_216, s_X4_seek_218, s_X4_seek_221, s_X4_seek_223, s_X4_seek_224, s_X4_seek_225, s_X4_seek_226, s_X4_seek_227, s_X4_seek_228, s_X4_seek_229, s_X4_seek_232, s_X4_seek_235, s_X4_seek_237, s_X4_seek_240, s_X4_seek_241, s_X4_seek_244, s_X4_seek_246, s_X4_seek_247, s_X4_seek_248, s_X4_seek_251, s_X4_seek_252, s_X4_seek_255, s_X4_seek_256, s_X4_seek_258, s_X4_seek_259, s_X4_seek_262, s_X4_seek_264, s_X4_seek_266, s_X4_seek_267, s_X4_seek_269, s_X4_seek_272, s_X4_seek_274, s_X4_seek_277, s_X4_seek_278, s_X4_seek_281, s_X4_seek_283, s_X4_seek_285, s_X4_seek_286, s_X4_seek_289, s_X4_seek_292, s_X4_seek_294, s_X4_seek_297, s_X4_seek_298, s_X4_seek_299, s_X4_seek_300, s_X4_seek_303, s_X4_seek_304, s_X4_seek_307, if_true, if_false, and_true, true_and, and_false, false_and, true_or, or_true, or_false, false_or, eq_self, not_true_eq_false, not_false_eq_true, zv_int, zv_ref, zv_null, zv_none, hK_sI, hF_sI, hJ_sI, hN_sI, hZ_sI, hI_sI_same, hK_sJ, hF_sJ, hI_sJ, hN_sJ, hZ_sJ, hJ_sJ_same, hK_sF, hI_sF, hJ_sF, hN_sF, hZ_sF, Option.bind_some, Option.toList_some, Option.toList_none, List.cons_append, List.nil_append, zq_ref, zq_null, L4.k70, eS, L5.k70, x12]
    · rw [frS.1 a (by omega) (by omega) (by omega), i4_ a (by omega) (by omega)]
    · rw [frS.2.1 a j (by omega), fo4 a j q]
    · rw [frS.2.2.1, frS.2.2.2.1, frS.2.2.2.2.1, frS.2.2.2.2.2]
      exact jk4
    · rw [frS.2.1 _ _ (by omega), f4]; exact g13
    · rw [frS.2.1 _ _ (by omega), f4]; exact g14
    · rw [frS.2.1 _ _ (by omega), f4]; exact g15
    · rw [mem]
      exact ⟨fun q => ⟨ok, q⟩, fun q => q.2⟩
  | false =>
    have nok := hu0 rfl
    refine ⟨h4, [], ?_, L4, fun a ha => i4_ a (by omega) (by omega), fo4, jk4, by rw [f4]; exact g12, by rw [f4]; exact g13, by rw [f4]; exact g14, by rw [f4]; exact g15, fun j hj => absurd hj (Nat.not_lt_zero j), List.Pairwise.nil, fun κ => ⟨fun q => (by cases q), fun q => absurd q.1 nok⟩⟩
    have f412 : hF h4 (b + 70) 12 = .int 0 := by rw [f4]; exact g12
    rw [A, B, eH]
    simp (decide := true) only [s_X4_seek_0, s_X4_seek_1, s_X4_seek_4, s_X4_seek_7, s_X4_seek_9, s_X4_seek_10, s_X4_seek_11, s_X4_seek_12, s_X4_seek_13, s_X4_seek_16, s_X4_seek_19, s_X4_seek_22, s_X4_seek_24, s_X4_seek_25, s_X4_seek_26, s_X4_seek_29, s_X4_seek_31, s_X4_seek_34, s_X4_seek_36, s_X4_seek_37, s_X4_seek_38, s_X4_seek_41, s_X4_seek_42, s_X4_seek_43, s_X4_seek_44, s_X4_seek_47, s_X4_seek_48, s_X4_seek_49, s_X4_seek_52, s_X4_seek_53, s_X4_seek_54, s_X4_seek_57, s_X4_seek_58, s_X4_seek_59, s_X4_seek_60, s_X4_seek_61, s_X4_seek_62, s_X4_seek_65, s_X4_seek_66, s_X4_seek_67, s_X4_seek_70, s_X4_seek_71, s_X4_seek_72, s_X4_seek_74, s_X4_seek_75, s_X4_seek_79, s_X4_seek_80, s_X4_seek_81, s_X4_seek_82, s_X4_seek_85, s_X4_seek_87, s_X4_seek_88, s_X4_seek_91, s_X4_seek_94, s_X4_seek_95, s_X4_seek_96, s_X4_seek_98, s_X4_seek_99, s_X4_seek_100, s_X4_seek_103, s_X4_seek_104, s_X4_seek_107, s_X4_seek_108, s_X4_seek_109, s_X4_seek_111, s_X4_seek_114, s_X4_seek_117, s_X4_seek_118, s_X4_seek_119, s_X4_seek_122, s_X4_seek_124, s_X4_seek_125, s_X4_seek_128, s_X4_seek_129, s_X4_seek_132, s_X4_seek_135, s_X4_seek_137, s_X4_seek_138, s_X4_seek_139, s_X4_seek_140, s_X4_seek_143, s_X4_seek_144, s_X4_seek_145, s_X4_seek_148, s_X4_seek_149, s_X4_seek_150, s_X4_seek_153, s_X4_seek_154, s_X4_seek_155, s_X4_seek_158, s_X4_seek_159, s_X4_seek_160, s_X4_seek_163, s_X4_seek_164, s_X4_seek_166, s_X4_seek_167, s_X4_seek_171, s_X4_seek_173, s_X4_seek_176, s_X4_seek_177, s_X4_seek_180, s_X4_seek_182, s_X4_seek_183, s_X4_seek_184, s_X4_seek_187, s_X4_seek_190, s_X4_seek_191, s_X4_seek_195, s_X4_seek_196, s_X4_seek_197, s_X4_seek_198, s_X4_seek_201, s_X4_seek_202, s_X4_seek_205, s_X4_seek_208, s_X4_seek_209, s_X4_seek_210, s_X4_seek_212, s_X4_seek_213, s_X4_seek_214, s_X4_seek_216, s_X4_seek_218, s_X4_seek_221, s_X4_seek_223, s_X4_seek_224, s_X4_seek_225, s_X4_seek_226, s_X4_seek_227, s_X4_seek_228, s_X4_seek_229, s_X4_seek_232, s_X4_seek_235, s_X4_seek_237, s_X4_seek_240, s_X4_seek_241, s_X4_seek_244, s_X4_seek_246, s_X4_seek_247, s_X4_seek_248, s_X4_seek_251, s_X4_seek_252, s_X4_seek_255, s_X4_seek_256, s_X4_seek_258, s_X4_seek_259, s_X4_seek_262, s_X4_seek_264, s_X4_seek_266, s_X4_seek_267, s_X4_seek_269, s_X4_seek_272, s_X4_seek_274, s_X4_seek_277, s_X4_seek_278, s_X4_seek_281, s_X4_seek_283, s_X4_seek_285, s_X4_seek_286, s_X4_seek_289, s_X4_seek_292, s_X4_seek_294, s_X4_seek_297, s_X4_seek_298, s_X4_seek_299, s_X4_seek_300, s_X4_seek_303, s_X4_seek_304, s_X4_seek_307, if_true, if_false, and_true, true_and, and_false, false_and, true_or, or_true, or_false, false_or, eq_self, not_true_eq_false, not_false_eq_true, zv_int, zv_ref, zv_null, zv_none, hK_sI, hF_sI, hJ_sI, hN_sI, hZ_sI, hI_sI_same, hK_sJ, hF_sJ, hI_sJ, hN_sJ, hZ_sJ, hJ_sJ_same, hK_sF, hI_sF, hJ_sF, hN_sF, hZ_sF, Option.bind_some, Option.toList_some, Option.toList_none, List.cons_append, List.nil_append, zq_ref, zq_null, L4.k70, f412]
    rfl
end
