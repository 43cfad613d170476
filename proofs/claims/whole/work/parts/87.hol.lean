/-! ===== what the reference holds ===== -/
section
variable {E : mE} {d : Nat} {h h1 h2 : mH} {b : Nat}
theorem in0N {N : Nat} (hN : N ≤ 1000) (x : Int32) : cal E (d + 1) kX4_in [.long x.toInt64, .long 0, .long (nI N).toInt64] h = some (some (.int (if x < 0 ∨ nI N < x then 0 else 1)), h) := by
  rw [c_X4_in]
  have e0 : (0 : Int64) = (0 : Int32).toInt64 := rfl
  have j1 : ((0 : Int64) ≤ x.toInt64) ↔ ¬ x < 0 := by rw [e0, i64_le, n32_lt]
  have j2 : (x.toInt64 ≤ (nI N).toInt64) ↔ ¬ nI N < x := by rw [i64_le, n32_lt]
  by_cases c1 : x < 0 <;> by_cases c2 : nI N < x <;> simp [j1, j2, c1, c2]
/-- where the first i numbers are held -/
def HAt (r g : Nat → Int32) (N i : Nat) : Prop := ∀ v, 1 ≤ v → v ≤ N → (g v = -1 ∧ ∀ c, c < i → r c ≠ nI v) ∨ ∃ c, c < i ∧ r c = nI v ∧ g v = nI c
def hoM (h : mH) (b : Nat) (r g84 g85 : Nat → Int32) (i : Nat) : mH := sI (sI h (b + 84) (rw_ r g84 i)) (b + 85) g85
theorem hoM_L {r g84 g85 : Nat → Int32} {i : Nat} (L : Lay b h) : Lay b (hoM h b r g84 g85 i) := (L.sI _ _).sI _ _
theorem lp_hol {n s : Nat} {kd : Int32} {r g84 : Nat → Int32} {x4 : Int32} (L : Lay b h) (hn : 1 ≤ n ∧ n ≤ 4) (hs : s < 4) (hr : ∀ i, i < n * n → hI h (b + 74) (150 * s + i) = r i) : ∀ (k i : Nat) (u : Bool) (g85 : Nat → Int32) (v7 : Option Value), i + k = n * n → (u = true → hokP r (n * n) i ∧ HAt r g85 (n * n) i) → (u = false → ¬ hokP r (n * n) (n * n)) → ∃ (u' : Bool) (g' : Nat → Int32) (w7 : Option Value), zl E (d + 1) kX4_seek 193 [some (.ref (b + 70)), some (.int (nI s)), some (.int (nI n)), some (.int kd), some (.int x4), some (.int (if u = true then 1 else 0)), some (.int (nI i)), v7] [] (hoM h b r g84 g85 i) = zl E (d + 1) kX4_seek 292 [some (.ref (b + 70)), some (.int (nI s)), some (.int (nI n)), some (.int kd), some (.int x4), some (.int (if u' = true then 1 else 0)), some (.int (nI (n * n))), w7] [] (hoM h b r g84 g' (n * n)) ∧ (u' = true → hokP r (n * n) (n * n) ∧ HAt r g' (n * n) (n * n)) ∧ (u' = false → ¬ hokP r (n * n) (n * n))
  | 0, i, u, g85, v7, e, ok, no => by
    have : i = n * n := by omega
    subst this
    refine ⟨u, g85, v7, ?_, ok, no⟩
    rw [s_X4_seek_193]
    simp (decide := true) only [s_X4_seek_0, s_X4_seek_1, s_X4_seek_4, s_X4_seek_7, s_X4_seek_9, s_X4_seek_10, s_X4_seek_11, s_X4_seek_12, s_X4_seek_13, s_X4_seek_16, s_X4_seek_19, s_X4_seek_22, s_X4_seek_24, s_X4_seek_25, s_X4_seek_26, s_X4_seek_29, s_X4_seek_31, s_X4_seek_34, s_X4_seek_36, s_X4_seek_37, s_X4_seek_38, s_X4_seek_41, s_X4_seek_42, s_X4_seek_43, s_X4_seek_44, s_X4_seek_47, s_X4_seek_48, s_X4_seek_49, s_X4_seek_52, s_X4_seek_53, s_X4_seek_54, s_X4_seek_57, s_X4_seek_58, s_X4_seek_59, s_X4_seek_60, s_X4_seek_61, s_X4_seek_62, s_X4_seek_65, s_X4_seek_66, s_X4_seek_67, s_X4_seek_70, s_X4_seek_71, s_X4_seek_72, s_X4_seek_74, s_X4_seek_75, s_X4_seek_79, s_X4_seek_80, s_X4_seek_81, s_X4_seek_82, s_X4_seek_85, s_X4_seek_87, s_X4_seek_88, s_X4_seek_91, s_X4_seek_94, s_X4_seek_95, s_X4_seek_96, s_X4_seek_98, s_X4_seek_99, s_X4_seek_100, s_X4_seek_103, s_X4_seek_104, s_X4_seek_107, s_X4_seek_108, s_X4_seek_109, s_X4_seek_111, s_X4_seek_114, s_X4_seek_117, s_X4_seek_118, s_X4_seek_119, s_X4_seek_122, s_X4_seek_124, s_X4_seek_125, s_X4_seek_128, s_X4_seek_129, s_X4_seek_132, s_X4_seek_135, s_X4_seek_137, s_X4_seek_138, s_X4_seek_139, s_X4_seek_140, s_X4_seek_143, s_X4_seek_144, s_X4_seek_145, s_X4_seek_148, s_X4_seek_149, s_X4_seek_150, s_X4_seek_153, s_X4_seek_154, s_X4_seek_155, s_X4_seek_158, s_X4_seek_159, s_X4_seek_160, s_X4_seek_163, s_X4_seek_164, s_X4_seek_166, s_X4_seek_167, s_X4_seek_171, s_X4_seek_173, s_X4_seek_176, s_X4_seek_177, s_X4_seek_180, s_X4_seek_182, s_X4_seek_183, s_X4_seek_184, s_X4_seek_187, s_X4_seek_190, s_X4_seek_191, s_X4_seek_195, s_X4_seek_196, s_X4_seek_197, s_X4_seek_198, s_X4_seek_201, s_X4_seek_202, s_X4_seek_205, s_X4_seek_208, s_X4_seek_209, s_X4_seek_210, s_X4_seek_212, s_X4_seek_213, s_X4_seek_214, s_X4_seek_216, s_X4_seek_218, s_X4_seek_221, s_X4_seek_223, s_X4_seek_224, s_X4_seek_225, s_X4_seek_226, s_X4_seek_227, s_X4_seek_228, s_X4_seek_229, s_X4_seek_232, s_X4_seek_235, s_X4_seek_237, s_X4_seek_240, s_X4_seek_241, s_X4_seek_244, s_X4_seek_246, s_X4_seek_247, s_X4_seek_248, s_X4_seek_251, s_X4_seek_252, s_X4_seek_255, s_X4_seek_256, s_X4_seek_258, s_X4_seek_259, s_X4_seek_262, s_X4_seek_264, s_X4_seek_266, s_X4_seek_267, s_X4_seek_269, s_X4_seek_272, s_X4_seek_274, s_X4_seek_277, s_X4_seek_278, s_X4_seek_281, s_X4_seek_283, s_X4_seek_285, s_X4_seek_286, s_X4_seek_289, s_X4_seek_294, s_X4_seek_297, s_X4_seek_298, s_X4_seek_299, s_X4_seek_300, s_X4_seek_303, s_X4_seek_304, s_X4_seek_307, if_true, if_false, and_true, true_and, and_false, false_and, true_or, or_true, or_false, false_or, eq_self, not_true_eq_false, not_false_eq_true, zv_int, zv_ref, zv_null, zv_none, hK_sI, hF_sI, hJ_sI, hN_sI, hZ_sI, hI_sI_same, hK_sJ, hF_sJ, hI_sJ, hN_sJ, hZ_sJ, hJ_sJ_same, hK_sF, hI_sF, hJ_sF, hN_sF, hZ_sF, Option.bind_some, Option.toList_some, Option.toList_none, List.cons_append, List.nil_append, zq_ref, zq_null, pk_mul, Int32.le_refl]
  | k + 1, i, u, g85, v7, e, ok, no => by
    have nn : n * n ≤ 16 := Nat.mul_le_mul hn.2 hn.2
    have hi : i < n * n := by omega
    have LM : Lay b (hoM h b r g84 g85 i) := hoM_L L
    have q1 : ¬ nI (n * n) ≤ nI i := nI_ge (by omega) (by omega)
    have z0 : zR (nI (150 * s + i)) 600 := zR_to (by decide) (by omega)
    have z1 : (nI (150 * s + i)).toNatClampNeg = 150 * s + i := nI_clamp (by omega)
    have z2 : zR (nI i) 16 := zR_to (by decide) (by omega)
    have z3 : (nI i).toNatClampNeg = i := nI_clamp (by omega)
    have r74 : hI (hoM h b r g84 g85 i) (b + 74) (150 * s + i) = r i := by
      unfold hoM
      rw [hI_sI_ne _ _ (by omega), hI_sI_ne _ _ (by omega)]
      exact hr i hi
    have r84 : hI (hoM h b r g84 g85 i) (b + 84) = rw_ r g84 i := by
      unfold hoM
      rw [hI_sI_ne _ _ (by omega), hI_sI_same]
    have r85 : hI (hoM h b r g84 g85 i) (b + 85) = g85 := by
      unfold hoM
      rw [hI_sI_same]
    have st84 : sI (hoM h b r g84 g85 i) (b + 84) (upd (rw_ r g84 i) i (r i)) = hoM h b r g84 g85 (i + 1) := by
      unfold hoM
      rw [rw_s r]
      exact sI_com _ _ _ _ _ _ (by omega)
    have LS : Lay b (hoM h b r g84 g85 (i + 1)) := hoM_L L
    have s85 : hI (hoM h b r g84 g85 (i + 1)) (b + 85) = g85 := by
      unfold hoM
      rw [hI_sI_same]
    have eI := in0N (E := E) (d := d) (h := hoM h b r g84 g85 i) (N := n * n) (by omega) (r i)
    cases u with
    | false =>
      obtain ⟨u', g', w7, e1, a1, a2⟩ := lp_hol (kd := kd) (g84 := g84) (x4 := x4) L hn hs hr k (i + 1) false g85 (some (.int (r i))) (by omega) (fun q => by cases q) no
      refine ⟨u', g', w7, ?_, a1, a2⟩
      rw [← e1, s_X4_seek_193]
      simp (decide := true) only [s_X4_seek_0, s_X4_seek_1, s_X4_seek_4, s_X4_seek_7, s_X4_seek_9, s_X4_seek_10, s_X4_seek_11, s_X4_seek_12, s_X4_seek_13, s_X4_seek_16, s_X4_seek_19, s_X4_seek_22, s_X4_seek_24, s_X4_seek_25, s_X4_seek_26, s_X4_seek_29, s_X4_seek_31, s_X4_seek_34, s_X4_seek_36, s_X4_seek_37, s_X4_seek_38, s_X4_seek_41, s_X4_seek_42, s_X4_seek_43, s_X4_seek_44, s_X4_seek_47, s_X4_seek_48, s_X4_seek_49, s_X4_seek_52, s_X4_seek_53, s_X4_seek_54, s_X4_seek_57, s_X4_seek_58, s_X4_seek_59, s_X4_seek_60, s_X4_seek_61, s_X4_seek_62, s_X4_seek_65, s_X4_seek_66, s_X4_seek_67, s_X4_seek_70, s_X4_seek_71, s_X4_seek_72, s_X4_seek_74, s_X4_seek_75, s_X4_seek_79, s_X4_seek_80, s_X4_seek_81, s_X4_seek_82, s_X4_seek_85, s_X4_seek_87, s_X4_seek_88, s_X4_seek_91, s_X4_seek_94, s_X4_seek_95, s_X4_seek_96, s_X4_seek_98, s_X4_seek_99, s_X4_seek_100, s_X4_seek_103, s_X4_seek_104, s_X4_seek_107, s_X4_seek_108, s_X4_seek_109, s_X4_seek_111, s_X4_seek_114, s_X4_seek_117, s_X4_seek_118, s_X4_seek_119, s_X4_seek_122, s_X4_seek_124, s_X4_seek_125, s_X4_seek_128, s_X4_seek_129, s_X4_seek_132, s_X4_seek_135, s_X4_seek_137, s_X4_seek_138, s_X4_seek_139, s_X4_seek_140, s_X4_seek_143, s_X4_seek_144, s_X4_seek_145, s_X4_seek_148, s_X4_seek_149, s_X4_seek_150, s_X4_seek_153, s_X4_seek_154, s_X4_seek_155, s_X4_seek_158, s_X4_seek_159, s_X4_seek_160, s_X4_seek_163, s_X4_seek_164, s_X4_seek_166, s_X4_seek_167, s_X4_seek_171, s_X4_seek_173, s_X4_seek_176, s_X4_seek_177, s_X4_seek_180, s_X4_seek_182, s_X4_seek_183, s_X4_seek_184, s_X4_seek_187, s_X4_seek_190, s_X4_seek_191, s_X4_seek_195, s_X4_seek_196, s_X4_seek_197, s_X4_seek_198, s_X4_seek_201, s_X4_seek_202, s_X4_seek_205, s_X4_seek_208, s_X4_seek_209, s_X4_seek_210, s_X4_seek_212, s_X4_seek_213, s_X4_seek_214, s_X4_seek_216, s_X4_seek_218, s_X4_seek_221, s_X4_seek_223, s_X4_seek_224, s_X4_seek_225, s_X4_seek_226, s_X4_seek_227, s_X4_seek_228, s_X4_seek_229, s_X4_seek_232, s_X4_seek_235, s_X4_seek_237, s_X4_seek_240, s_X4_seek_241, s_X4_seek_244, s_X4_seek_246, s_X4_seek_247, s_X4_seek_248, s_X4_seek_251, s_X4_seek_252, s_X4_seek_255, s_X4_seek_256, s_X4_seek_258, s_X4_seek_259, s_X4_seek_262, s_X4_seek_264, s_X4_seek_266, s_X4_seek_267, s_X4_seek_269, s_X4_seek_272, s_X4_seek_274, s_X4_seek_277, s_X4_seek_278, s_X4_seek_281, s_X4_seek_283, s_X4_seek_285, s_X4_seek_286, s_X4_seek_289, s_X4_seek_294, s_X4_seek_297, s_X4_seek_298, s_X4_seek_299, s_X4_seek_300, s_X4_seek_303, s_X4_seek_304, s_X4_seek_307, if_true, if_false, and_true, true_and, and_false, false_and, true_or, or_true, or_false, false_or, eq_self, not_true_eq_false, not_false_eq_true, zv_int, zv_ref, zv_null, zv_none, hK_sI, hF_sI, hJ_sI, hN_sI, hZ_sI, hI_sI_same, hK_sJ, hF_sJ, hI_sJ, hN_sJ, hZ_sJ, hJ_sJ_same, hK_sF, hI_sF, hJ_sF, hN_sF, hZ_sF, Option.bind_some, Option.toList_some, Option.toList_none, List.cons_append, List.nil_append, zq_ref, zq_null, LM.k70, LM.p70_4, LM.p70_19, LM.k74, LM.k84, pk_mul, q1, e150, nI_add, z0, z1, z2, z3, r74, r84, st84, nI_1]
    | true =>
      obtain ⟨ok1, ok2⟩ := ok rfl
      by_cases c0 : r i = 0
      · have nr : ¬ ((0 : Int32) < 0 ∨ nI (n * n) < 0) := fun q => q.elim (by decide) (fun q => nI_nlt (a := n * n) (b := 0) (by omega) (by omega) q)
        rw [c0, if_neg nr] at eI
        obtain ⟨u', g', w7, e1, a1, a2⟩ := lp_hol (kd := kd) (g84 := g84) (x4 := x4) L hn hs hr k (i + 1) true g85 (some (.int (r i))) (by omega) (fun _ => ⟨fun j hj => by
          by_cases cj : j = i
          · rw [cj]; exact Or.inl c0
          · exact ok1 j (by omega), fun v v1 v2 => by
          rcases ok2 v v1 v2 with ⟨x1, x2⟩ | ⟨c, hc, x1, x2⟩
          · refine Or.inl ⟨x1, fun c hc => ?_⟩
            by_cases cc : c = i
            · rw [cc, c0]
              exact fun e => nI_ne0 (n := v) (by omega) (by omega) e.symm
            · exact x2 c (by omega)
          · exact Or.inr ⟨c, by omega, x1, x2⟩⟩) (fun q => by cases q)
        refine ⟨u', g', w7, ?_, a1, a2⟩
        have st84' := st84
        rw [c0] at st84' r74 e1
        rw [← e1, s_X4_seek_193]
        simp (decide := true) only [s_X4_seek_0, s_X4_seek_1, s_X4_seek_4, s_X4_seek_7, s_X4_seek_9, s_X4_seek_10, s_X4_seek_11, s_X4_seek_12, s_X4_seek_13, s_X4_seek_16, s_X4_seek_19, s_X4_seek_22, s_X4_seek_24, s_X4_seek_25, s_X4_seek_26, s_X4_seek_29, s_X4_seek_31, s_X4_seek_34, s_X4_seek_36, s_X4_seek_37, s_X4_seek_38, s_X4_seek_41, s_X4_seek_42, s_X4_seek_43, s_X4_seek_44, s_X4_seek_47, s_X4_seek_48, s_X4_seek_49, s_X4_seek_52, s_X4_seek_53, s_X4_seek_54, s_X4_seek_57, s_X4_seek_58, s_X4_seek_59, s_X4_seek_60, s_X4_seek_61, s_X4_seek_62, s_X4_seek_65, s_X4_seek_66, s_X4_seek_67, s_X4_seek_70, s_X4_seek_71, s_X4_seek_72, s_X4_seek_74, s_X4_seek_75, s_X4_seek_79, s_X4_seek_80, s_X4_seek_81, s_X4_seek_82, s_X4_seek_85, s_X4_seek_87, s_X4_seek_88, s_X4_seek_91, s_X4_seek_94, s_X4_seek_95, s_X4_seek_96, s_X4_seek_98, s_X4_seek_99, s_X4_seek_100, s_X4_seek_103, s_X4_seek_104, s_X4_seek_107, s_X4_seek_108, s_X4_seek_109, s_X4_seek_111, s_X4_seek_114, s_X4_seek_117, s_X4_seek_118, s_X4_seek_119, s_X4_seek_122, s_X4_seek_124, s_X4_seek_125, s_X4_seek_128, s_X4_seek_129, s_X4_seek_132, s_X4_seek_135, s_X4_seek_137, s_X4_seek_138, s_X4_seek_139, s_X4_seek_140, s_X4_seek_143, s_X4_seek_144, s_X4_seek_145, s_X4_seek_148, s_X4_seek_149, s_X4_seek_150, s_X4_seek_153, s_X4_seek_154, s_X4_seek_155, s_X4_seek_158, s_X4_seek_159, s_X4_seek_160, s_X4_seek_163, s_X4_seek_164, s_X4_seek_166, s_X4_seek_167, s_X4_seek_171, s_X4_seek_173, s_X4_seek_176, s_X4_seek_177, s_X4_seek_180, s_X4_seek_182, s_X4_seek_183, s_X4_seek_184, s_X4_seek_187, s_X4_seek_190, s_X4_seek_191, s_X4_seek_195, s_X4_seek_196, s_X4_seek_197, s_X4_seek_198, s_X4_seek_201, s_X4_seek_202, s_X4_seek_205, s_X4_seek_208, s_X4_seek_209, s_X4_seek_210, s_X4_seek_212, s_X4_seek_213, s_X4_seek_214, s_X4_seek_216, s_X4_seek_218, s_X4_seek_221, s_X4_seek_223, s_X4_seek_224, s_X4_seek_225, s_X4_seek_226, s_X4_seek_227, s_X4_seek_228, s_X4_seek_229, s_X4_seek_232, s_X4_seek_235, s_X4_seek_237, s_X4_seek_240, s_X4_seek_241, s_X4_seek_244, s_X4_seek_246, s_X4_seek_247, s_X4_seek_248, s_X4_seek_251, s_X4_seek_252, s_X4_seek_255, s_X4_seek_256, s_X4_seek_258, s_X4_seek_259, s_X4_seek_262, s_X4_seek_264, s_X4_seek_266, s_X4_seek_267, s_X4_seek_269, s_X4_seek_272, s_X4_seek_274, s_X4_seek_277, s_X4_seek_278, s_X4_seek_281, s_X4_seek_283, s_X4_seek_285, s_X4_seek_286, s_X4_seek_289, s_X4_seek_294, s_X4_seek_297, s_X4_seek_298, s_X4_seek_299, s_X4_seek_300, s_X4_seek_303, s_X4_seek_304, s_X4_seek_307, if_true, if_false, and_true, true_and, and_false, false_and, true_or, or_true, or_false, false_or, eq_self, not_true_eq_false, not_false_eq_true, zv_int, zv_ref, zv_null, zv_none, hK_sI, hF_sI, hJ_sI, hN_sI, hZ_sI, hI_sI_same, hK_sJ, hF_sJ, hI_sJ, hN_sJ, hZ_sJ, hJ_sJ_same, hK_sF, hI_sF, hJ_sF, hN_sF, hZ_sF, Option.bind_some, Option.toList_some, Option.toList_none, List.cons_append, List.nil_append, zq_ref, zq_null, LM.k70, LM.p70_4, LM.p70_19, LM.k74, LM.k84, pk_mul, q1, e150, nI_add, z0, z1, z2, z3, r74, r84, st84', eI, nI_1]
      · by_cases cr : r i < 0 ∨ nI (n * n) < r i
        · rw [if_pos cr] at eI
          have nok : ¬ hokP r (n * n) (n * n) := fun Q => by
            rcases Q i hi with q | ⟨v, v1, v2, ev, _⟩
            · exact c0 q
            · rw [ev] at cr
              exact cr.elim (fun q => nI_nlt (a := v) (b := 0) (by omega) (by omega) q) (fun q => nI_nlt v2 (by omega) q)
          obtain ⟨u', g', w7, e1, a1, a2⟩ := lp_hol (kd := kd) (g84 := g84) (x4 := x4) L hn hs hr k (i + 1) false g85 (some (.int (r i))) (by omega) (fun q => by cases q) (fun _ => nok)
          refine ⟨u', g', w7, ?_, a1, a2⟩
          rw [← e1, s_X4_seek_193]
          simp (decide := true) only [s_X4_seek_0, s_X4_seek_1, s_X4_seek_4, s_X4_seek_7, s_X4_seek_9, s_X4_seek_10, s_X4_seek_11, s_X4_seek_12, s_X4_seek_13, s_X4_seek_16, s_X4_seek_19, s_X4_seek_22, s_X4_seek_24, s_X4_seek_25, s_X4_seek_26, s_X4_seek_29, s_X4_seek_31, s_X4_seek_34, s_X4_seek_36, s_X4_seek_37, s_X4_seek_38, s_X4_seek_41, s_X4_seek_42, s_X4_seek_43, s_X4_seek_44, s_X4_seek_47, s_X4_seek_48, s_X4_seek_49, s_X4_seek_52, s_X4_seek_53, s_X4_seek_54, s_X4_seek_57, s_X4_seek_58, s_X4_seek_59, s_X4_seek_60, s_X4_seek_61, s_X4_seek_62, s_X4_seek_65, s_X4_seek_66, s_X4_seek_67, s_X4_seek_70, s_X4_seek_71, s_X4_seek_72, s_X4_seek_74, s_X4_seek_75, s_X4_seek_79, s_X4_seek_80, s_X4_seek_81, s_X4_seek_82, s_X4_seek_85, s_X4_seek_87, s_X4_seek_88, s_X4_seek_91, s_X4_seek_94, s_X4_seek_95, s_X4_seek_96, s_X4_seek_98, s_X4_seek_99, s_X4_seek_100, s_X4_seek_103, s_X4_seek_104, s_X4_seek_107, s_X4_seek_108, s_X4_seek_109, s_X4_seek_111, s_X4_seek_114, s_X4_seek_117, s_X4_seek_118, s_X4_seek_119, s_X4_seek_122, s_X4_seek_124, s_X4_seek_125, s_X4_seek_128, s_X4_seek_129, s_X4_seek_132, s_X4_seek_135, s_X4_seek_137, s_X4_seek_138, s_X4_seek_139, s_X4_seek_140, s_X4_seek_143, s_X4_seek_144, s_X4_seek_145, s_X4_seek_148, s_X4_seek_149, s_X4_seek_150, s_X4_seek_153, s_X4_seek_154, s_X4_seek_155, s_X4_seek_158, s_X4_seek_159, s_X4_seek_160, s_X4_seek_163, s_X4_seek_164, s_X4_seek_166, s_X4_seek_167, s_X4_seek_171, s_X4_seek_173, s_X4_seek_176, s_X4_seek_177, s_X4_seek_180, s_X4_seek_182, s_X4_seek_183, s_X4_seek_184, s_X4_seek_187, s_X4_seek_190, s_X4_seek_191, s_X4_seek_195, s_X4_seek_196, s_X4_seek_197, s_X4_seek_198, s_X4_seek_201, s_X4_seek_202, s_X4_seek_205, s_X4_seek_208, s_X4_seek_209, s_X4_seek_210, s_X4_seek_212, s_X4_seek_213, s_X4_seek_214, s_X4_seek_216, s_X4_seek_218, s_X4_seek_221, s_X4_seek_223, s_X4_seek_224, s_X4_seek_225, s_X4_seek_226, s_X4_seek_227, s_X4_seek_228, s_X4_seek_229, s_X4_seek_232, s_X4_seek_235, s_X4_seek_237, s_X4_seek_240, s_X4_seek_241, s_X4_seek_244, s_X4_seek_246, s_X4_seek_247, s_X4_seek_248, s_X4_seek_251, s_X4_seek_252, s_X4_seek_255, s_X4_seek_256, s_X4_seek_258, s_X4_seek_259, s_X4_seek_262, s_X4_seek_264, s_X4_seek_266, s_X4_seek_267, s_X4_seek_269, s_X4_seek_272, s_X4_seek_274, s_X4_seek_277, s_X4_seek_278, s_X4_seek_281, s_X4_seek_283, s_X4_seek_285, s_X4_seek_286, s_X4_seek_289, s_X4_seek_294, s_X4_seek_297, s_X4_seek_298, s_X4_seek_299, s_X4_seek_300, s_X4_seek_303, s_X4_seek_304, s_X4_seek_307, if_true, if_false, and_true, true_and, and_false, false_and, true_or, or_true, or_false, false_or, eq_self, not_true_eq_false, not_false_eq_true, zv_int, zv_ref, zv_null, zv_none, hK_sI, hF_sI, hJ_sI, hN_sI, hZ_sI, hI_sI_same, hK_sJ, hF_sJ, hI_sJ, hN_sJ, hZ_sJ, hJ_sJ_same, hK_sF, hI_sF, hJ_sF, hN_sF, hZ_sF, Option.bind_some, Option.toList_some, Option.toList_none, List.cons_append, List.nil_append, zq_ref, zq_null, LM.k70, LM.p70_4, LM.p70_19, LM.k74, LM.k84, pk_mul, q1, e150, nI_add, z0, z1, z2, z3, r74, r84, st84, eI, nI_1]
        · rw [if_neg cr] at eI
          obtain ⟨v, v1, v2, ev⟩ : ∃ v, 1 ≤ v ∧ v ≤ n * n ∧ r i = nI v := by
            rcases rng (N := n * n + 1) (by omega) (r i) with q | ⟨v, hv, ev⟩
            · exfalso
              apply cr
              rcases q with q | q
              · exact Or.inl q
              · right
                rw [Int32.le_iff_toInt_le, nIt (by omega)] at q
                rw [Int32.lt_iff_toInt_lt, nIt (by omega)]
                omega
            · refine ⟨v, ?_, by omega, ev⟩
              apply Classical.byContradiction
              intro c
              apply c0
              rw [ev, show v = 0 by omega]
              rfl
          have z4 : zR (r i) 17 := by rw [ev]; exact zR_to (by decide) (by omega)
          have z5 : (r i).toNatClampNeg = v := by rw [ev]; exact nI_clamp (by omega)
          have pos : 0 < r i := by rw [ev]; exact nI_lt (a := 0) (b := v) (by omega) (by omega)
          have pos' : ¬ r i ≤ 0 := n32_le.mpr pos
          by_cases ch : g85 v = -1
          · have fresh : ∀ c, c < i → r c ≠ nI v := by
              rcases ok2 v v1 v2 with ⟨_, x2⟩ | ⟨c, hc, _, x2⟩
              · exact x2
              · exfalso
                rw [ch] at x2
                have : (0 : Int32) ≤ nI c := nI_pos' (by omega)
                rw [← x2] at this
                exact absurd this (by decide)
            have stA : sI (hoM h b r g84 g85 (i + 1)) (b + 85) (upd g85 v (nI i)) = hoM h b r g84 (upd g85 v (nI i)) (i + 1) := by
              unfold hoM
              rw [sI_sI]
            obtain ⟨u', g', w7, e1, a1, a2⟩ := lp_hol (kd := kd) (g84 := g84) (x4 := x4) L hn hs hr k (i + 1) true (upd g85 v (nI i)) (some (.int (r i))) (by omega) (fun _ => ⟨fun j hj => by
              by_cases cj : j = i
              · rw [cj]
                exact Or.inr ⟨v, v1, v2, ev, fun k hk => by rw [ev]; exact fresh k hk⟩
              · exact ok1 j (by omega), fun w w1 w2 => by
              rw [upd_at]
              by_cases cw : w = v
              · rw [if_pos cw, cw]
                exact Or.inr ⟨i, by omega, ev, rfl⟩
              · rw [if_neg cw]
                rcases ok2 w w1 w2 with ⟨x1, x2⟩ | ⟨c, hc, x1, x2⟩
                · refine Or.inl ⟨x1, fun c hc => ?_⟩
                  by_cases cc : c = i
                  · rw [cc, ev]
                    exact fun e => cw ((nI_eq (by omega) (by omega)).mp e).symm
                  · exact x2 c (by omega)
                · exact Or.inr ⟨c, by omega, x1, x2⟩⟩) (fun q => by cases q)
            refine ⟨u', g', w7, ?_, a1, a2⟩
            rw [← e1, s_X4_seek_193]
            simp (decide := true) only [s_X4_seek_0, s_X4_seek_1, s_X4_seek_4, s_X4_seek_7, s_X4_seek_9, s_X4_seek_10, s_X4_seek_11, s_X4_seek_12, s_X4_seek_13, s_X4_seek_16, s_X4_seek_19, s_X4_seek_22, s_X4_seek_24, s_X4_seek_25, s_X4_seek_26, s_X4_seek_29, s_X4_seek_31, s_X4_seek_34, s_X4_seek_36, s_X4_seek_37, s_X4_seek_38, s_X4_seek_41, s_X4_seek_42, s_X4_seek_43, s_X4_seek_44, s_X4_seek_47, s_X4_seek_48, s_X4_seek_49, s_X4_seek_52, s_X4_seek_53, s_X4_seek_54, s_X4_seek_57, s_X4_seek_58, s_X4_seek_59, s_X4_seek_60, s_X4_seek_61, s_X4_seek_62, s_X4_seek_65, s_X4_seek_66, s_X4_seek_67, s_X4_seek_70, s_X4_seek_71, s_X4_seek_72, s_X4_seek_74, s_X4_seek_75, s_X4_seek_79, s_X4_seek_80, s_X4_seek_81, s_X4_seek_82, s_X4_seek_85, s_X4_seek_87, s_X4_seek_88, s_X4_seek_91, s_X4_seek_94, s_X4_seek_95, s_X4_seek_96, s_X4_seek_98, s_X4_seek_99, s_X4_seek_100, s_X4_seek_103, s_X4_seek_104, s_X4_seek_107, s_X4_seek_108, s_X4_seek_109, s_X4_seek_111, s_X4_seek_114, s_X4_seek_117, s_X4_seek_118, s_X4_seek_119, s_X4_seek_122, s_X4_seek_124, s_X4_seek_125, s_X4_seek_128, s_X4_seek_129, s_X4_seek_132, s_X4_seek_135, s_X4_seek_137, s_X4_seek_138, s_X4_seek_139, s_X4_seek_140, s_X4_seek_143, s_X4_seek_144, s_X4_seek_145, s_X4_seek_148, s_X4_seek_149, s_X4_seek_150, s_X4_seek_153, s_X4_seek_154, s_X4_seek_155, s_X4_seek_158, s_X4_seek_159, s_X4_seek_160, s_X4_seek_163, s_X4_seek_164, s_X4_seek_166, s_X4_seek_167, s_X4_seek_171, s_X4_seek_173, s_X4_seek_176, s_X4_seek_177, s_X4_seek_180, s_X4_seek_182, s_X4_seek_183, s_X4_seek_184, s_X4_seek_187, s_X4_seek_190, s_X4_seek_191, s_X4_seek_195, s_X4_seek_196, s_X4_seek_197, s_X4_seek_198, s_X4_seek_201, s_X4_seek_202, s_X4_seek_205, s_X4_seek_208, s_X4_seek_209, s_X4_seek_210, s_X4_seek_212, s_X4_seek_213, s_X4_seek_214, s_X4_seek_216, s_X4_seek_218, s_X4_seek_221, s_X4_seek_223, s_X4_seek_224, s_X4_seek_225, s_X4_seek_226, s_X4_seek_227, s_X4_seek_228, s_X4_seek_229, s_X4_seek_232, s_X4_seek_235, s_X4_seek_237, s_X4_seek_240, s_X4_seek_241, s_X4_seek_244, s_X4_seek_246, s_X4_seek_247, s_X4_seek_248, s_X4_seek_251, s_X4_seek_252, s_X4_seek_255, s_X4_seek_256, s_X4_seek_258, s_X4_seek_259, s_X4_seek_262, s_X4_seek_264, s_X4_seek_266, s_X4_seek_267, s_X4_seek_269, s_X4_seek_272, s_X4_seek_274, s_X4_seek_277, s_X4_seek_278, s_X4_seek_281, s_X4_seek_283, s_X4_seek_285, s_X4_seek_286, s_X4_seek_289, s_X4_seek_294, s_X4_seek_297, s_X4_seek_298, s_X4_seek_299, s_X4_seek_300, s_X4_seek_303, s_X4_seek_304, s_X4_seek_307, if_true, if_false, and_true, true_and, and_false, false_and, true_or, or_true, or_false, false_or, eq_self, not_true_eq_false, not_false_eq_true, zv_int, zv_ref, zv_null, zv_none, hK_sI, hF_sI, hJ_sI, hN_sI, hZ_sI, hI_sI_same, hK_sJ, hF_sJ, hI_sJ, hN_sJ, hZ_sJ, hJ_sJ_same, hK_sF, hI_sF, hJ_sF, hN_sF, hZ_sF, Option.bind_some, Option.toList_some, Option.toList_none, List.cons_append, List.nil_append, zq_ref, zq_null, LM.k70, LM.p70_4, LM.p70_19, LM.p70_20, LM.k74, LM.k84, LM.k85, LS.k70, LS.p70_20, LS.k85, pk_mul, q1, e150, nI_add, z0, z1, z2, z3, z4, z5, r74, r84, r85, s85, st84, stA, eI, eq_false c0, eq_true ch, pos, pos', nI_1]
          · have nok : ¬ hokP r (n * n) (n * n) := fun Q => by
              rcases Q i hi with q | ⟨w, w1, w2, ew, ne⟩
              · exact c0 q
              · rcases ok2 v v1 v2 with ⟨x1, _⟩ | ⟨c, hc, x1, _⟩
                · exact ch x1
                · exact ne c hc (by rw [x1, ev])
            obtain ⟨u', g', w7, e1, a1, a2⟩ := lp_hol (kd := kd) (g84 := g84) (x4 := x4) L hn hs hr k (i + 1) false g85 (some (.int (r i))) (by omega) (fun q => by cases q) (fun _ => nok)
            refine ⟨u', g', w7, ?_, a1, a2⟩
            rw [← e1, s_X4_seek_193]
            simp (decide := true) only [s_X4_seek_0, s_X4_seek_1, s_X4_seek_4, s_X4_seek_7, s_X4_seek_9, s_X4_seek_10, s_X4_seek_11, s_X4_seek_12, s_X4_seek_13, s_X4_seek_16, s_X4_seek_19, s_X4_seek_22, s_X4_seek_24, s_X4_seek_25, s_X4_seek_26, s_X4_seek_29, s_X4_seek_31, s_X4_seek_34, s_X4_seek_36, s_X4_seek_37, s_X4_seek_38, s_X4_seek_41, s_X4_seek_42, s_X4_seek_43, s_X4_seek_44, s_X4_seek_47, s_X4_seek_48, s_X4_seek_49, s_X4_seek_52, s_X4_seek_53, s_X4_seek_54, s_X4_seek_57, s_X4_seek_58, s_X4_seek_59, s_X4_seek_60, s_X4_seek_61, s_X4_seek_62, s_X4_seek_65, s_X4_seek_66, s_X4_seek_67, s_X4_seek_70, s_X4_seek_71, s_X4_seek_72, s_X4_seek_74, s_X4_seek_75, s_X4_seek_79, s_X4_seek_80, s_X4_seek_81, s_X4_seek_82, s_X4_seek_85, s_X4_seek_87, s_X4_seek_88, s_X4_seek_91, s_X4_seek_94, s_X4_seek_95, s_X4_seek_96, s_X4_seek_98, s_X4_seek_99, s_X4_seek_100, s_X4_seek_103, s_X4_seek_104, s_X4_seek_107, s_X4_seek_108, s_X4_seek_109, s_X4_seek_111, s_X4_seek_114, s_X4_seek_117, s_X4_seek_118, s_X4_seek_119, s_X4_seek_122, s_X4_seek_124, s_X4_seek_125, s_X4_seek_128, s_X4_seek_129, s_X4_seek_132, s_X4_seek_135, s_X4_seek_137, s_X4_seek_138, s_X4_seek_139, s_X4_seek_140, s_X4_seek_143, s_X4_seek_144, s_X4_seek_145, s_X4_seek_148, s_X4_seek_149, s_X4_seek_150, s_X4_seek_153, s_X4_seek_154, s_X4_seek_155, s_X4_seek_158, s_X4_seek_159, s_X4_seek_160, s_X4_seek_163, s_X4_seek_164, s_X4_seek_166, s_X4_seek_167, s_X4_seek_171, s_X4_seek_173, s_X4_seek_176, s_X4_seek_177, s_X4_seek_180, s_X4_seek_182, s_X4_seek_183, s_X4_seek_184, s_X4_seek_187, s_X4_seek_190, s_X4_seek_191, s_X4_seek_195, s_X4_seek_196, s_X4_seek_197, s_X4_seek_198, s_X4_seek_201, s_X4_seek_202, s_X4_seek_205, s_X4_seek_208, s_X4_seek_209, s_X4_seek_210, s_X4_seek_212, s_X4_seek_213, s_X4_seek_214, s_X4_seek_216, s_X4_seek_218, s_X4_seek_221, s_X4_seek_223, s_X4_seek_224, s_X4_seek_225, s_X4_seek_226, s_X4_seek_227, s_X4_seek_228, s_X4_seek_229, s_X4_seek_232, s_X4_seek_235, s_X4_seek_237, s_X4_seek_240, s_X4_seek_241, s_X4_seek_244, s_X4_seek_246, s_X4_seek_247, s_X4_seek_248, s_X4_seek_251, s_X4_seek_252, s_X4_seek_255, s_X4_seek_256, s_X4_seek_258, s_X4_seek_259, s_X4_seek_262, s_X4_seek_264, s_X4_seek_266, s_X4_seek_267, s_X4_seek_269, s_X4_seek_272, s_X4_seek_274, s_X4_seek_277, s_X4_seek_278, s_X4_seek_281, s_X4_seek_283, s_X4_seek_285, s_X4_seek_286, s_X4_seek_289, s_X4_seek_294, s_X4_seek_297, s_X4_seek_298, s_X4_seek_299, s_X4_seek_300, s_X4_seek_303, s_X4_seek_304, s_X4_seek_307, if_true, if_false, and_true, true_and, and_false, false_and, true_or, or_true, or_false, false_or, eq_self, not_true_eq_false, not_false_eq_true, zv_int, zv_ref, zv_null, zv_none, hK_sI, hF_sI, hJ_sI, hN_sI, hZ_sI, hI_sI_same, hK_sJ, hF_sJ, hI_sJ, hN_sJ, hZ_sJ, hJ_sJ_same, hK_sF, hI_sF, hJ_sF, hN_sF, hZ_sF, Option.bind_some, Option.toList_some, Option.toList_none, List.cons_append, List.nil_append, zq_ref, zq_null, LM.k70, LM.p70_4, LM.p70_19, LM.p70_20, LM.k74, LM.k84, LM.k85, pk_mul, q1, e150, nI_add, z0, z1, z2, z3, z4, z5, r74, r84, r85, st84, eI, eq_false c0, eq_false ch, nI_1]
end
