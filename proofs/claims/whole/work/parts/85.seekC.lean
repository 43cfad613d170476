/-! ===== the reference's search: all of it ===== -/
section
variable {E : mE} {d : Nat} {h h1 h2 : mH} {b : Nat}
/-- a number is laid -/
def lay83 (b : Nat) (h : mH) (p v : Nat) : mH := sI (sI h (b + 82) (upd (hI h (b + 82)) p (nI v))) (b + 83) (upd (hI h (b + 83)) v 1)
theorem lay83_rows {p v : Nat} : hI (lay83 b h p v) (b + 82) = upd (hI h (b + 82)) p (nI v) ∧ hI (lay83 b h p v) (b + 83) = upd (hI h (b + 83)) v 1 ∧ ∀ a, a ≠ b + 82 → a ≠ b + 83 → hI (lay83 b h p v) a = hI h a := by
  unfold lay83
  refine ⟨?_, ?_, fun a a1 a2 => ?_⟩
  · rw [hI_sI_ne _ _ (by omega), hI_sI_same]
  · rw [hI_sI_same]
  · rw [hI_sI_ne _ _ a2, hI_sI_ne _ _ a1]
theorem RSt_V {n p v : Nat} {rd pd : Bool} {hd a : Nat → Nat} {K : List Nat} (R : RSt b n rd pd hd a p K h) : RSt b n rd pd hd (lay1 a p v) (p + 1) K (lay83 b h p v) := by
  obtain ⟨L, ⟨w1, w2, w3, w4⟩, f12, rows, sK, kS⟩ := R
  obtain ⟨e1, e2, e3⟩ := lay83_rows (b := b) (h := h) (p := p) (v := v)
  have new : lay1 a p v p = v := if_pos rfl
  have old : ∀ c, c < p → lay1 a p v c = a c := fun c hc => if_neg (by omega)
  refine ⟨(L.sI _ _).sI _ _, ⟨fun c hc => ?_, fun w x1 x2 => ?_, ?_, ?_⟩, f12, fun j hj c hc => ?_, sK, kS⟩
  · rw [e1, upd_at]
    by_cases q : c = p
    · rw [if_pos q, q, new]
    · rw [if_neg q, old c (by omega)]
      exact w1 c (by omega)
  · rw [e2, upd_at]
    by_cases q : w = v
    · rw [if_pos q]
      constructor
      · intro e
        exact absurd e (by decide)
      · intro e
        exact absurd (new.trans q.symm) (e p (by omega))
    · rw [if_neg q, w2 w x1 x2]
      constructor
      · intro e c hc
        by_cases q2 : c = p
        · rw [q2, new]; exact fun x => q x.symm
        · rw [old c (by omega)]; exact e c (by omega)
      · intro e c hc
        have := e c (by omega)
        rw [old c hc] at this
        exact this
  · rw [e3 _ (by omega) (by omega)]
    exact w3
  · rw [e3 _ (by omega) (by omega)]
    exact w4
  · rw [e3 _ (by omega) (by omega)]
    exact rows j hj c hc
theorem RSt_back {n p v : Nat} {rd pd : Bool} {hd a : Nat → Nat} {K : List Nat} (hv : 1 ≤ v) (ne : ∀ c, c < p → a c ≠ v) (R : RSt b n rd pd hd (lay1 a p v) (p + 1) K h) : hI h (b + 82) p = nI v ∧ RSt b n rd pd hd a p K (clr b h p v) := by
  obtain ⟨L, ⟨w1, w2, w3, w4⟩, f12, rows, sK, kS⟩ := R
  have new : lay1 a p v p = v := if_pos rfl
  have old : ∀ c, c < p → lay1 a p v c = a c := fun c hc => if_neg (by omega)
  have v0 : ¬ v = 0 := by omega
  have ec : clr b h p v = sI (sI h (b + 83) (upd (hI h (b + 83)) v 0)) (b + 82) (upd (hI h (b + 82)) p 0) := by unfold clr; rw [if_neg v0]
  have e1 : hI (clr b h p v) (b + 82) = upd (hI h (b + 82)) p 0 := by rw [ec, hI_sI_same]
  have e2 : hI (clr b h p v) (b + 83) = upd (hI h (b + 83)) v 0 := by rw [ec, hI_sI_ne _ _ (by omega), hI_sI_same]
  have e3 : ∀ a, a ≠ b + 82 → a ≠ b + 83 → hI (clr b h p v) a = hI h a := fun a a1 a2 => by rw [ec, hI_sI_ne _ _ a1, hI_sI_ne _ _ a2]
  refine ⟨by rw [w1 p (by omega), new], by rw [ec]; exact (L.sI _ _).sI _ _, ⟨fun c hc => ?_, fun w x1 x2 => ?_, ?_, ?_⟩, by rw [ec]; exact f12, fun j hj c hc => ?_, sK, kS⟩
  · rw [e1, upd_at, if_neg (by omega), w1 c (by omega), old c hc]
  · rw [e2, upd_at]
    by_cases q : w = v
    · rw [if_pos q, q]
      exact ⟨fun _ => ne, fun _ => rfl⟩
    · rw [if_neg q, w2 w x1 x2]
      constructor
      · intro e c hc
        have := e c (by omega)
        rw [old c hc] at this
        exact this
      · intro e c hc
        by_cases q2 : c = p
        · rw [q2, new]; exact fun x => q x.symm
        · rw [old c (by omega)]; exact e c (by omega)
  · rw [e3 _ (by omega) (by omega)]
    exact w3
  · rw [e3 _ (by omega) (by omega)]
    exact w4
  · rw [e3 _ (by omega) (by omega)]
    exact rows j hj c hc
/-- the place above is empty -/
theorem RSt_up {n p : Nat} {rd pd : Bool} {hd a : Nat → Nat} {K : List Nat} (R : RSt b n rd pd hd a p K h) : hI (sI h (b + 82) (upd (hI h (b + 82)) p 0)) (b + 82) p = nI 0 ∧ RSt b n rd pd hd a p K (clr b (sI h (b + 82) (upd (hI h (b + 82)) p 0)) p 0) := by
  obtain ⟨L, W, f12, rows, sK, kS⟩ := R
  have ec : clr b (sI h (b + 82) (upd (hI h (b + 82)) p 0)) p 0 = sI h (b + 82) (upd (hI h (b + 82)) p 0) := by
    unfold clr
    rw [if_pos rfl, sI_sI, hI_sI_same, upd_upd]
  have e3 : ∀ a, a ≠ b + 82 → hI (sI h (b + 82) (upd (hI h (b + 82)) p 0)) a = hI h a := fun a ha => hI_sI_ne h _ ha
  refine ⟨by rw [hI_sI_same, upd_at, if_pos rfl]; rfl, ?_⟩
  rw [ec]
  refine ⟨L.sI _ _, ?_, f12, fun j hj c hc => ?_, sK, kS⟩
  · rw [hI_sI_same, e3 _ (by omega), e3 _ (by omega), e3 _ (by omega)]
    exact RW_v W
  · rw [e3 _ (by omega)]
    exact rows j hj c hc
theorem e16 (q : Nat) : (16 : Int32) * nI q = nI (16 * q) := by rw [show (16 : Int32) = nI 16 from rfl, pk_mul]
theorem getD_app1 {l m : List Nat} {j : Nat} (hj : j < l.length) : (l ++ m).getD j 0 = l.getD j 0 := by
  rw [List.getD_eq_getElem?_getD, List.getD_eq_getElem?_getD, List.getElem?_append_left hj]
theorem getD_app2 {l : List Nat} {x : Nat} : (l ++ [x]).getD l.length 0 = x := by
  rw [List.getD_eq_getElem?_getD, List.getElem?_append_right (Nat.le_refl _), Nat.sub_self]
  rfl
/-- a whole row is written down -/
theorem lp_rec {N len : Nat} {w1 w2 w4 w5 w6 w7 w8 w9 : Option Value} {x10 : Int32} {z : Nat → Int32} (L : Lay b h) (hN : N ≤ 16) (f12 : hF h (b + 70) 12 = .int (nI len)) (hl : len < 7200) : ∀ k i, i + k = N → zl E d kX4_seekAll 239 [some (.ref (b + 70)), w1, w2, some (.int (nI N)), w4, w5, w6, w7, w8, w9, some (.int x10), some (.int (nI i))] [] (sI h (b + 81) (stw (hI h (b + 82)) z (16 * len) i)) = zl E d kX4_seekAll 273 [some (.ref (b + 70)), w1, w2, some (.int (nI N)), w4, w5, w6, w7, w8, w9, some (.int x10), some (.int (nI N))] [] (sI h (b + 81) (stw (hI h (b + 82)) z (16 * len) N))
  | 0, i, e => by
    have : i = N := by omega
    subst this
    rw [s_X4_seekAll_239]
    simp (decide := true) only [s_X4_seekAll_0, s_X4_seekAll_1, s_X4_seekAll_2, s_X4_seekAll_3, s_X4_seekAll_4, s_X4_seekAll_5, s_X4_seekAll_6, s_X4_seekAll_7, s_X4_seekAll_8, s_X4_seekAll_9, s_X4_seekAll_10, s_X4_seekAll_11, s_X4_seekAll_13, s_X4_seekAll_14, s_X4_seekAll_18, s_X4_seekAll_20, s_X4_seekAll_23, s_X4_seekAll_24, s_X4_seekAll_27, s_X4_seekAll_29, s_X4_seekAll_30, s_X4_seekAll_31, s_X4_seekAll_34, s_X4_seekAll_37, s_X4_seekAll_38, s_X4_seekAll_40, s_X4_seekAll_41, s_X4_seekAll_44, s_X4_seekAll_45, s_X4_seekAll_46, s_X4_seekAll_49, s_X4_seekAll_52, s_X4_seekAll_53, s_X4_seekAll_56, s_X4_seekAll_58, s_X4_seekAll_59, s_X4_seekAll_61, s_X4_seekAll_63, s_X4_seekAll_66, s_X4_seekAll_67, s_X4_seekAll_70, s_X4_seekAll_72, s_X4_seekAll_73, s_X4_seekAll_74, s_X4_seekAll_75, s_X4_seekAll_78, s_X4_seekAll_80, s_X4_seekAll_81, s_X4_seekAll_82, s_X4_seekAll_83, s_X4_seekAll_84, s_X4_seekAll_86, s_X4_seekAll_88, s_X4_seekAll_91, s_X4_seekAll_93, s_X4_seekAll_95, s_X4_seekAll_98, s_X4_seekAll_100, s_X4_seekAll_103, s_X4_seekAll_105, s_X4_seekAll_106, s_X4_seekAll_107, s_X4_seekAll_109, s_X4_seekAll_111, s_X4_seekAll_114, s_X4_seekAll_116, s_X4_seekAll_119, s_X4_seekAll_120, s_X4_seekAll_122, s_X4_seekAll_124, s_X4_seekAll_127, s_X4_seekAll_129, s_X4_seekAll_132, s_X4_seekAll_134, s_X4_seekAll_137, s_X4_seekAll_139, s_X4_seekAll_140, s_X4_seekAll_141, s_X4_seekAll_144, s_X4_seekAll_146, s_X4_seekAll_148, s_X4_seekAll_150, s_X4_seekAll_154, s_X4_seekAll_156, s_X4_seekAll_159, s_X4_seekAll_161, s_X4_seekAll_162, s_X4_seekAll_163, s_X4_seekAll_164, s_X4_seekAll_165, s_X4_seekAll_168, s_X4_seekAll_171, s_X4_seekAll_172, s_X4_seekAll_173, s_X4_seekAll_174, s_X4_seekAll_176, s_X4_seekAll_178, s_X4_seekAll_181, s_X4_seekAll_184, s_X4_seekAll_187, s_X4_seekAll_190, s_X4_seekAll_191, s_X4_seekAll_194, s_X4_seekAll_196, s_X4_seekAll_197, s_X4_seekAll_198, s_X4_seekAll_200, s_X4_seekAll_202, s_X4_seekAll_205, s_X4_seekAll_208, s_X4_seekAll_211, s_X4_seekAll_212, s_X4_seekAll_215, s_X4_seekAll_217, s_X4_seekAll_219, s_X4_seekAll_220, s_X4_seekAll_221, s_X4_seekAll_224, s_X4_seekAll_226, s_X4_seekAll_227, s_X4_seekAll_228, s_X4_seekAll_230, s_X4_seekAll_231, s_X4_seekAll_232, s_X4_seekAll_233, s_X4_seekAll_236, s_X4_seekAll_237, s_X4_seekAll_241, s_X4_seekAll_242, s_X4_seekAll_245, s_X4_seekAll_246, s_X4_seekAll_249, s_X4_seekAll_251, s_X4_seekAll_252, s_X4_seekAll_255, s_X4_seekAll_256, s_X4_seekAll_258, s_X4_seekAll_259, s_X4_seekAll_260, s_X4_seekAll_263, s_X4_seekAll_265, s_X4_seekAll_266, s_X4_seekAll_267, s_X4_seekAll_270, s_X4_seekAll_274, s_X4_seekAll_275, s_X4_seekAll_278, s_X4_seekAll_279, s_X4_seekAll_280, s_X4_seekAll_283, s_X4_seekAll_286, s_X4_seekAll_289, s_X4_seekAll_290, s_X4_seekAll_293, s_X4_seekAll_295, s_X4_seekAll_296, s_X4_seekAll_297, s_X4_seekAll_300, if_true, if_false, and_true, true_and, and_false, false_and, true_or, or_true, or_false, false_or, eq_self, not_true_eq_false, not_false_eq_true, zv_int, zv_ref, zv_null, zv_none, hK_sI, hF_sI, hJ_sI, hN_sI, hZ_sI, hI_sI_same, hK_sJ, hF_sJ, hI_sJ, hN_sJ, hZ_sJ, hJ_sJ_same, hK_sF, hI_sF, hJ_sF, hN_sF, hZ_sF, Option.bind_some, Option.toList_some, Option.toList_none, List.cons_append, List.nil_append, zq_ref, zq_null, Int32.le_refl]
  | k + 1, i, e => by
    have q1 : ¬ nI N ≤ nI i := nI_ge (by omega) (by omega)
    have z0 : zR (nI i) 16 := zR_to (by decide) (by omega)
    have z1 : (nI i).toNatClampNeg = i := nI_clamp (by omega)
    have z2 : zR (nI (16 * len + i)) 115200 := zR_to (by decide) (by omega)
    have z3 : (nI (16 * len + i)).toNatClampNeg = 16 * len + i := nI_clamp (by omega)
    have hne : hI (sI h (b + 81) (stw (hI h (b + 82)) z (16 * len) i)) (b + 82) = hI h (b + 82) := hI_sI_ne h _ (by omega)
    rw [s_X4_seekAll_239]
    simp (decide := true) only [s_X4_seekAll_0, s_X4_seekAll_1, s_X4_seekAll_2, s_X4_seekAll_3, s_X4_seekAll_4, s_X4_seekAll_5, s_X4_seekAll_6, s_X4_seekAll_7, s_X4_seekAll_8, s_X4_seekAll_9, s_X4_seekAll_10, s_X4_seekAll_11, s_X4_seekAll_13, s_X4_seekAll_14, s_X4_seekAll_18, s_X4_seekAll_20, s_X4_seekAll_23, s_X4_seekAll_24, s_X4_seekAll_27, s_X4_seekAll_29, s_X4_seekAll_30, s_X4_seekAll_31, s_X4_seekAll_34, s_X4_seekAll_37, s_X4_seekAll_38, s_X4_seekAll_40, s_X4_seekAll_41, s_X4_seekAll_44, s_X4_seekAll_45, s_X4_seekAll_46, s_X4_seekAll_49, s_X4_seekAll_52, s_X4_seekAll_53, s_X4_seekAll_56, s_X4_seekAll_58, s_X4_seekAll_59, s_X4_seekAll_61, s_X4_seekAll_63, s_X4_seekAll_66, s_X4_seekAll_67, s_X4_seekAll_70, s_X4_seekAll_72, s_X4_seekAll_73, s_X4_seekAll_74, s_X4_seekAll_75, s_X4_seekAll_78, s_X4_seekAll_80, s_X4_seekAll_81, s_X4_seekAll_82, s_X4_seekAll_83, s_X4_seekAll_84, s_X4_seekAll_86, s_X4_seekAll_88, s_X4_seekAll_91, s_X4_seekAll_93, s_X4_seekAll_95, s_X4_seekAll_98, s_X4_seekAll_100, s_X4_seekAll_103, s_X4_seekAll_105, s_X4_seekAll_106, s_X4_seekAll_107, s_X4_seekAll_109, s_X4_seekAll_111, s_X4_seekAll_114, s_X4_seekAll_116, s_X4_seekAll_119, s_X4_seekAll_120, s_X4_seekAll_122, s_X4_seekAll_124, s_X4_seekAll_127, s_X4_seekAll_129, s_X4_seekAll_132, s_X4_seekAll_134, s_X4_seekAll_137, s_X4_seekAll_139, s_X4_seekAll_140, s_X4_seekAll_141, s_X4_seekAll_144, s_X4_seekAll_146, s_X4_seekAll_148, s_X4_seekAll_150, s_X4_seekAll_154, s_X4_seekAll_156, s_X4_seekAll_159, s_X4_seekAll_161, s_X4_seekAll_162, s_X4_seekAll_163, s_X4_seekAll_164, s_X4_seekAll_165, s_X4_seekAll_168, s_X4_seekAll_171, s_X4_seekAll_172, s_X4_seekAll_173, s_X4_seekAll_174, s_X4_seekAll_176, s_X4_seekAll_178, s_X4_seekAll_181, s_X4_seekAll_184, s_X4_seekAll_187, s_X4_seekAll_190, s_X4_seekAll_191, s_X4_seekAll_194, s_X4_seekAll_196, s_X4_seekAll_197, s_X4_seekAll_198, s_X4_seekAll_200, s_X4_seekAll_202, s_X4_seekAll_205, s_X4_seekAll_208, s_X4_seekAll_211, s_X4_seekAll_212, s_X4_seekAll_215, s_X4_seekAll_217, s_X4_seekAll_219, s_X4_seekAll_220, s_X4_seekAll_221, s_X4_seekAll_224, s_X4_seekAll_226, s_X4_seekAll_227, s_X4_seekAll_228, s_X4_seekAll_230, s_X4_seekAll_231, s_X4_seekAll_232, s_X4_seekAll_233, s_X4_seekAll_236, s_X4_seekAll_237, s_X4_seekAll_241, s_X4_seekAll_242, s_X4_seekAll_245, s_X4_seekAll_246, s_X4_seekAll_249, s_X4_seekAll_251, s_X4_seekAll_252, s_X4_seekAll_255, s_X4_seekAll_256, s_X4_seekAll_258, s_X4_seekAll_259, s_X4_seekAll_260, s_X4_seekAll_263, s_X4_seekAll_265, s_X4_seekAll_266, s_X4_seekAll_267, s_X4_seekAll_270, s_X4_seekAll_274, s_X4_seekAll_275, s_X4_seekAll_278, s_X4_seekAll_279, s_X4_seekAll_280, s_X4_seekAll_283, s_X4_seekAll_286, s_X4_seekAll_289, s_X4_seekAll_290, s_X4_seekAll_293, s_X4_seekAll_295, s_X4_seekAll_296, s_X4_seekAll_297, s_X4_seekAll_300, if_true, if_false, and_true, true_and, and_false, false_and, true_or, or_true, or_false, false_or, eq_self, not_true_eq_false, not_false_eq_true, zv_int, zv_ref, zv_null, zv_none, hK_sI, hF_sI, hJ_sI, hN_sI, hZ_sI, hI_sI_same, hK_sJ, hF_sJ, hI_sJ, hN_sJ, hZ_sJ, hJ_sJ_same, hK_sF, hI_sF, hJ_sF, hN_sF, hZ_sF, Option.bind_some, Option.toList_some, Option.toList_none, List.cons_append, List.nil_append, zq_ref, zq_null, L.k70, L.p70_16, L.p70_17, L.k81, L.k82, f12, q1, e16, nI_add, z0, z1, z2, z3, hne, sI_sI, stw_s, nI_1]
    exact lp_rec L hN f12 hl k (i + 1) (by omega)
/-- the keys of those sought that go on from what is laid, with a greater number at p -/
def EXg (n : Nat) (rd pd : Bool) (hd a : Nat → Nat) (p had κ : Nat) : Prop := ∃ f, Sol n rd pd hd f ∧ kyr f (n * n) = κ ∧ (∀ c, c < p → f c = a c) ∧ had < f p
theorem clm_in {n p : Nat} {kd : Int32} {rd pd : Bool} {hd a : Nat → Nat} (hn : 1 ≤ n ∧ n ≤ 4) (hp : p < n * n) (H : HD n hd) (k4 : kd &&& 4 = 0 ↔ rd = false) (k8 : kd &&& 8 = 0 ↔ pd = false) (P : Pt n pd hd p a)
    (IH : p + 1 < n * n → ∀ (a : Nat → Nat) (K : List Nat) (h : mH) (w6 w7 w8 w9 w10 w11 : Option Value), Pt n pd hd (p + 1) a → Lay b h → hI h (b + 82) (p + 1) = nI 0 → RSt b n rd pd hd a (p + 1) K (clr b h (p + 1) 0) → (∀ κ ∈ K, ∀ μ, EXg n rd pd hd a (p + 1) 0 μ → κ < μ) → ∃ h' K' u6 u7 u8 u9 u10 u11, zl E (d + 2) kX4_seekAll 47 [some (.ref (b + 70)), some (.int (nI n)), some (.int kd), some (.int (nI (n * n))), some (.int (nI (TT n))), some (.int (nI (p + 1))), w6, w7, w8, w9, w10, w11] [] h = zl E (d + 2) kX4_seekAll 47 [some (.ref (b + 70)), some (.int (nI n)), some (.int kd), some (.int (nI (n * n))), some (.int (nI (TT n))), some (.int (nI (p + 1) + -1)), u6, u7, u8, u9, u10, u11] [] h' ∧ RSt b n rd pd hd a (p + 1) K' h' ∧ frmM b h h' ∧ ∀ κ, κ ∈ K' ↔ κ ∈ K ∨ EXg n rd pd hd a (p + 1) 0 κ) :
    ∀ (q had : Nat) (K : List Nat) (h : mH) (w6 w7 w8 w9 w10 w11 : Option Value), n * n ≤ had + q → had ≤ n * n → Lay b h → hI h (b + 82) p = nI had → RSt b n rd pd hd a p K (clr b h p had) → (0 < had → okp n a p had) → (∀ κ ∈ K, ∀ μ, EXg n rd pd hd a p had μ → κ < μ) → ∃ h' K' u6 u7 u8 u9 u10 u11, zl E (d + 2) kX4_seekAll 47 [some (.ref (b + 70)), some (.int (nI n)), some (.int kd), some (.int (nI (n * n))), some (.int (nI (TT n))), some (.int (nI p)), w6, w7, w8, w9, w10, w11] [] h = zl E (d + 2) kX4_seekAll 47 [some (.ref (b + 70)), some (.int (nI n)), some (.int kd), some (.int (nI (n * n))), some (.int (nI (TT n))), some (.int (nI p + -1)), u6, u7, u8, u9, u10, u11] [] h' ∧ RSt b n rd pd hd a p K' h' ∧ frmM b h h' ∧ ∀ κ, κ ∈ K' ↔ κ ∈ K ∨ EXg n rd pd hd a p had κ
  | q, had, K, h, w6, w7, w8, w9, w10, w11, hq, hh, L, e82, R, okh, ord => by
    have nn : n * n ≤ 16 := Nat.mul_le_mul hn.2 hn.2
    rcases rnd (E := E) (d := d) (w6 := w6) (w7 := w7) (w8 := w8) (w9 := w9) (w10 := w10) (w11 := w11) L hn hp hh k4 k8 e82 R P okh with ⟨no, u6, u7, u8, u9, u10, u11, e1⟩ | ⟨v, v1, v2, okv, rg, least, u6, u7, u8, u9, u11, e1⟩
    · refine ⟨clr b h p had, K, u6, u7, u8, u9, u10, u11, e1, R, clr_frm, fun κ => ⟨Or.inl, fun x => x.elim id ?_⟩⟩
      rintro ⟨f, S, _, ag_, hlt⟩
      exact absurd hlt (no f S ag_)
    · obtain ⟨q', rfl⟩ : ∃ q', q = q' + 1 := ⟨q - 1, by omega⟩
      obtain ⟨hC, ehC⟩ : ∃ hC, hC = clr b h p had := ⟨_, rfl⟩
      rw [← ehC] at R e1
      have frC : frmM b h hC := by rw [ehC]; exact clr_frm
      have LC := R.1
      obtain ⟨g82, g83, g84, g85, W, RG_⟩ := rg
      obtain ⟨P', fin⟩ := Pt_s hn hp H W P ⟨by omega, v2⟩ RG_ okv
      have ne : ∀ c, c < p → a c ≠ v := fun c hc => (W.2.1 v (by omega) v2).mp RG_.1.1 c hc
      have R' := RSt_V (v := v) R
      obtain ⟨hV, ehV⟩ : ∃ hV, hV = lay83 b hC p v := ⟨_, rfl⟩
      rw [← ehV] at R'
      have LV := R'.1
      have frV : frmM b hC hV := by
        rw [ehV]
        unfold lay83
        exact frmM_trans (frmM_I (Or.inr (Or.inl rfl))) (frmM_I (Or.inr (Or.inr rfl)))
      have z0 : zR (nI p) 16 := zR_to (by decide) (by omega)
      have z1 : (nI p).toNatClampNeg = p := nI_clamp (by omega)
      have z2 : zR (nI v) 17 := zR_to (by decide) (by omega)
      have z3 : (nI v).toNatClampNeg = v := nI_clamp (by omega)
      have e83 : hI (sI hC (b + 82) (upd (hI hC (b + 82)) p (nI v))) (b + 83) = hI hC (b + 83) := hI_sI_ne hC _ (by omega)
      have ec : sI (sI hC (b + 82) (upd (hI hC (b + 82)) p (nI v))) (b + 83) (upd (hI hC (b + 83)) v 1) = hV := ehV.symm
      have s1 : nI (n * n) - 1 = nI (n * n - 1) := by rw [show (1 : Int32) = nI 1 from rfl, pk_sub (by omega)]
      have new : lay1 a p v p = v := if_pos rfl
      have old : ∀ c, c < p → lay1 a p v c = a c := fun c hc => if_neg (by omega)
      -- those that go on with v, and those with a greater one
      have split : ∀ κ, EXg n rd pd hd a p had κ ↔ (∃ f, Sol n rd pd hd f ∧ kyr f (n * n) = κ ∧ ∀ c, c < p + 1 → f c = lay1 a p v c) ∨ EXg n rd pd hd a p v κ := fun κ => by
        constructor
        · rintro ⟨f, S, ek, ag_, hlt⟩
          have := least f S ag_ hlt
          by_cases c : f p = v
          · refine Or.inl ⟨f, S, ek, fun x hx => ?_⟩
            by_cases cx : x = p
            · rw [cx, new]; exact c
            · rw [old x (by omega)]; exact ag_ x (by omega)
          · exact Or.inr ⟨f, S, ek, ag_, by omega⟩
        · rintro (⟨f, S, ek, ag_⟩ | ⟨f, S, ek, ag_, hlt⟩)
          · refine ⟨f, S, ek, fun c hc => by rw [ag_ c (by omega), old c hc], ?_⟩
            rw [ag_ p (by omega), new]
            exact v1
          · exact ⟨f, S, ek, ag_, by omega⟩
      -- what comes with v is less than what comes with more
      have less : ∀ κ μ, (∃ f, Sol n rd pd hd f ∧ kyr f (n * n) = κ ∧ ∀ c, c < p + 1 → f c = lay1 a p v c) → EXg n rd pd hd a p v μ → κ < μ := by
        rintro κ μ ⟨f, S, ek, ag_⟩ ⟨g, G, eg, ag2, hlt⟩
        rw [← ek, ← eg]
        refine kyr_lex (p := p) (fun c hc => by rw [ag_ c (by omega), old c hc, ag2 c hc]) ?_ hp (Sol_val hn.2 S) (Sol_val hn.2 G)
        rw [ag_ p (by omega), new]
        exact hlt
      by_cases cN : p + 1 = n * n
      · -- a whole square
        have S := fin cN
        obtain ⟨κ, eκ⟩ : ∃ κ, κ = kyr (lay1 a p v) (n * n) := ⟨_, rfl⟩
        have exv : ∀ μ, (∃ f, Sol n rd pd hd f ∧ kyr f (n * n) = μ ∧ ∀ c, c < p + 1 → f c = lay1 a p v c) ↔ μ = κ := fun μ => by
          constructor
          · rintro ⟨f, _, ek, ag_⟩
            rw [← ek, eκ]
            exact kyr_cg (fun c hc => ag_ c (by omega))
          · intro e
            exact ⟨_, S, by rw [e, eκ], fun _ _ => rfl⟩
        have κin : EXg n rd pd hd a p had κ := (split κ).mpr (Or.inl ((exv κ).mpr rfl))
        obtain ⟨LV', WV, f12, rows, sK, kS⟩ := R'
        have lt : ∀ x ∈ K, x < κ := fun x hx => ord x hx κ κin
        have sK' : sor (K ++ [κ]) := sor_snoc sK lt
        have kS' : ∀ x ∈ K ++ [κ], ∃ f, Sol n rd pd hd f ∧ kyr f (n * n) = x := fun x hx => by
          rcases List.mem_append.mp hx with c | c
          · exact kS x c
          · rw [List.mem_singleton] at c
            exact ⟨_, S, by rw [c, eκ]⟩
        have len : K.length < 7200 := by
          have := sol_few hn (K ++ [κ]) (sor_nodup sK') kS'
          rw [List.length_append, List.length_singleton] at this
          omega
        obtain ⟨hW, ehW⟩ : ∃ hW, hW = sI hV (b + 81) (stw (hI hV (b + 82)) (hI hV (b + 81)) (16 * K.length) (n * n)) := ⟨_, rfl⟩
        have lp := lp_rec (E := E) (d := d + 2) (N := n * n) (w1 := some (.int (nI n))) (w2 := some (.int kd)) (w4 := some (.int (nI (TT n)))) (w5 := some (.int (nI p))) (w6 := u6) (w7 := u7) (w8 := u8) (w9 := u9) (x10 := nI v) (z := hI hV (b + 81)) LV nn f12 len (n * n) 0 (by omega)
        rw [stw_0, sI_self, ← ehW, nI_0] at lp
        obtain ⟨hX, ehX⟩ : ∃ hX, hX = sF hW (b + 70) 12 (.int (nI (K.length + 1))) := ⟨_, rfl⟩
        have LW : Lay b hW := by rw [ehW]; exact LV.sI _ _
        have LX : Lay b hX := by rw [ehX]; exact LW.sF 70 12 _ (by decide +kernel)
        have f12W : hF hW (b + 70) 12 = .int (nI K.length) := by rw [ehW, hF_sI]; exact f12
        have iX : ∀ a, a ≠ b + 81 → hI hX a = hI hV a := fun a ha => by rw [ehX, hI_sF, ehW, hI_sI_ne _ _ ha]
        have rX : ∀ x, hI hX (b + 81) x = stw (hI hV (b + 82)) (hI hV (b + 81)) (16 * K.length) (n * n) x := fun x => by rw [ehX, hI_sF, ehW, hI_sI_same]
        have frX : frmM b hV hX := by
          refine ⟨fun a a1 _ _ => iX a a1, fun a j hj => ?_, ?_, ?_, ?_, ?_⟩
          · rw [ehX, hF_sF, if_neg hj, ehW, hF_sI]
          · rw [ehX, hJ_sF, ehW, hJ_sI]
          · rw [ehX, hK_sF, ehW, hK_sI]
          · rw [ehX, hN_sF, ehW, hN_sI]
          · rw [ehX, hZ_sF, ehW, hZ_sI]
        have RX : RSt b n rd pd hd (lay1 a p v) (p + 1) (K ++ [κ]) hX := by
          refine ⟨LX, ?_, ?_, fun j hj c hc => ?_, sK', kS'⟩
          · rw [iX _ (by omega), iX _ (by omega), iX _ (by omega), iX _ (by omega)]
            exact WV
          · rw [ehX, hF_sF, if_pos ⟨rfl, rfl⟩, List.length_append, List.length_singleton]
          · rw [List.length_append, List.length_singleton] at hj
            rw [rX]
            unfold stw
            by_cases cj : j < K.length
            · rw [if_neg (by omega), rows j cj c hc, getD_app1 cj]
            · have ej : j = K.length := by omega
              subst ej
              rw [if_pos (by omega), Nat.add_sub_cancel_left, WV.1 c (by omega)]
              have eD : (K ++ [κ]).getD K.length 0 = κ := getD_app2
              have hv := S.1 c hc
              rw [eD, eκ, kdg_kyr (Sol_val hn.2 S) hc]
              congr 1
              omega
        obtain ⟨b82, RB⟩ := RSt_back (by omega) ne RX
        have nl1 : nI K.length + 1 = nI (K.length + 1) := nI_1 _
        have qp : nI p = nI (n * n - 1) := by congr 1; omega
        have step : zl E (d + 2) kX4_seekAll 211 [some (.ref (b + 70)), some (.int (nI n)), some (.int kd), some (.int (nI (n * n))), some (.int (nI (TT n))), some (.int (nI p)), u6, u7, u8, u9, some (.int (nI v)), u11] [] hC = zl E (d + 2) kX4_seekAll 47 [some (.ref (b + 70)), some (.int (nI n)), some (.int kd), some (.int (nI (n * n))), some (.int (nI (TT n))), some (.int (nI p)), u6, u7, u8, u9, some (.int (nI v)), some (.int (nI (n * n)))] [] hX := by
          simp (decide := true) only [s_X4_seekAll_0, s_X4_seekAll_1, s_X4_seekAll_2, s_X4_seekAll_3, s_X4_seekAll_4, s_X4_seekAll_5, s_X4_seekAll_6, s_X4_seekAll_7, s_X4_seekAll_8, s_X4_seekAll_9, s_X4_seekAll_10, s_X4_seekAll_11, s_X4_seekAll_13, s_X4_seekAll_14, s_X4_seekAll_18, s_X4_seekAll_20, s_X4_seekAll_23, s_X4_seekAll_24, s_X4_seekAll_27, s_X4_seekAll_29, s_X4_seekAll_30, s_X4_seekAll_31, s_X4_seekAll_34, s_X4_seekAll_37, s_X4_seekAll_38, s_X4_seekAll_40, s_X4_seekAll_41, s_X4_seekAll_44, s_X4_seekAll_45, s_X4_seekAll_46, s_X4_seekAll_49, s_X4_seekAll_52, s_X4_seekAll_53, s_X4_seekAll_56, s_X4_seekAll_58, s_X4_seekAll_59, s_X4_seekAll_61, s_X4_seekAll_63, s_X4_seekAll_66, s_X4_seekAll_67, s_X4_seekAll_70, s_X4_seekAll_72, s_X4_seekAll_73, s_X4_seekAll_74, s_X4_seekAll_75, s_X4_seekAll_78, s_X4_seekAll_80, s_X4_seekAll_81, s_X4_seekAll_82, s_X4_seekAll_83, s_X4_seekAll_84, s_X4_seekAll_86, s_X4_seekAll_88, s_X4_seekAll_91, s_X4_seekAll_93, s_X4_seekAll_95, s_X4_seekAll_98, s_X4_seekAll_100, s_X4_seekAll_103, s_X4_seekAll_105, s_X4_seekAll_106, s_X4_seekAll_107, s_X4_seekAll_109, s_X4_seekAll_111, s_X4_seekAll_114, s_X4_seekAll_116, s_X4_seekAll_119, s_X4_seekAll_120, s_X4_seekAll_122, s_X4_seekAll_124, s_X4_seekAll_127, s_X4_seekAll_129, s_X4_seekAll_132, s_X4_seekAll_134, s_X4_seekAll_137, s_X4_seekAll_139, s_X4_seekAll_140, s_X4_seekAll_141, s_X4_seekAll_144, s_X4_seekAll_146, s_X4_seekAll_148, s_X4_seekAll_150, s_X4_seekAll_154, s_X4_seekAll_156, s_X4_seekAll_159, s_X4_seekAll_161, s_X4_seekAll_162, s_X4_seekAll_163, s_X4_seekAll_164, s_X4_seekAll_165, s_X4_seekAll_168, s_X4_seekAll_171, s_X4_seekAll_172, s_X4_seekAll_173, s_X4_seekAll_174, s_X4_seekAll_176, s_X4_seekAll_178, s_X4_seekAll_181, s_X4_seekAll_184, s_X4_seekAll_187, s_X4_seekAll_190, s_X4_seekAll_191, s_X4_seekAll_194, s_X4_seekAll_196, s_X4_seekAll_197, s_X4_seekAll_198, s_X4_seekAll_200, s_X4_seekAll_202, s_X4_seekAll_205, s_X4_seekAll_208, s_X4_seekAll_211, s_X4_seekAll_212, s_X4_seekAll_215, s_X4_seekAll_217, s_X4_seekAll_219, s_X4_seekAll_220, s_X4_seekAll_221, s_X4_seekAll_224, s_X4_seekAll_226, s_X4_seekAll_227, s_X4_seekAll_228, s_X4_seekAll_230, s_X4_seekAll_231, s_X4_seekAll_232, s_X4_seekAll_233, s_X4_seekAll_236, s_X4_seekAll_237, s_X4_seekAll_241, s_X4_seekAll_242, s_X4_seekAll_245, s_X4_seekAll_246, s_X4_seekAll_249, s_X4_seekAll_251, s_X4_seekAll_252, s_X4_seekAll_255, s_X4_seekAll_256, s_X4_seekAll_258, s_X4_seekAll_259, s_X4_seekAll_260, s_X4_seekAll_263, s_X4_seekAll_265, s_X4_seekAll_266, s_X4_seekAll_267, s_X4_seekAll_270, s_X4_seekAll_273, s_X4_seekAll_274, s_X4_seekAll_275, s_X4_seekAll_278, s_X4_seekAll_279, s_X4_seekAll_280, s_X4_seekAll_283, s_X4_seekAll_286, s_X4_seekAll_289, s_X4_seekAll_290, s_X4_seekAll_293, s_X4_seekAll_295, s_X4_seekAll_296, s_X4_seekAll_297, s_X4_seekAll_300, if_true, if_false, and_true, true_and, and_false, false_and, true_or, or_true, or_false, false_or, eq_self, not_true_eq_false, not_false_eq_true, zv_int, zv_ref, zv_null, zv_none, hK_sI, hF_sI, hJ_sI, hN_sI, hZ_sI, hI_sI_same, hK_sJ, hF_sJ, hI_sJ, hN_sJ, hZ_sJ, hJ_sJ_same, hK_sF, hI_sF, hJ_sF, hN_sF, hZ_sF, Option.bind_some, Option.toList_some, Option.toList_none, List.cons_append, List.nil_append, zq_ref, zq_null, LC.k70, LC.p70_17, LC.p70_18, LC.k82, LC.k83, z0, z1, z2, z3, nar1, e83, ec, s1, eq_true qp]
          rw [lp]
          simp (decide := true) only [s_X4_seekAll_0, s_X4_seekAll_1, s_X4_seekAll_2, s_X4_seekAll_3, s_X4_seekAll_4, s_X4_seekAll_5, s_X4_seekAll_6, s_X4_seekAll_7, s_X4_seekAll_8, s_X4_seekAll_9, s_X4_seekAll_10, s_X4_seekAll_11, s_X4_seekAll_13, s_X4_seekAll_14, s_X4_seekAll_18, s_X4_seekAll_20, s_X4_seekAll_23, s_X4_seekAll_24, s_X4_seekAll_27, s_X4_seekAll_29, s_X4_seekAll_30, s_X4_seekAll_31, s_X4_seekAll_34, s_X4_seekAll_37, s_X4_seekAll_38, s_X4_seekAll_40, s_X4_seekAll_41, s_X4_seekAll_44, s_X4_seekAll_45, s_X4_seekAll_46, s_X4_seekAll_49, s_X4_seekAll_52, s_X4_seekAll_53, s_X4_seekAll_56, s_X4_seekAll_58, s_X4_seekAll_59, s_X4_seekAll_61, s_X4_seekAll_63, s_X4_seekAll_66, s_X4_seekAll_67, s_X4_seekAll_70, s_X4_seekAll_72, s_X4_seekAll_73, s_X4_seekAll_74, s_X4_seekAll_75, s_X4_seekAll_78, s_X4_seekAll_80, s_X4_seekAll_81, s_X4_seekAll_82, s_X4_seekAll_83, s_X4_seekAll_84, s_X4_seekAll_86, s_X4_seekAll_88, s_X4_seekAll_91, s_X4_seekAll_93, s_X4_seekAll_95, s_X4_seekAll_98, s_X4_seekAll_100, s_X4_seekAll_103, s_X4_seekAll_105, s_X4_seekAll_106, s_X4_seekAll_107, s_X4_seekAll_109, s_X4_seekAll_111, s_X4_seekAll_114, s_X4_seekAll_116, s_X4_seekAll_119, s_X4_seekAll_120, s_X4_seekAll_122, s_X4_seekAll_124, s_X4_seekAll_127, s_X4_seekAll_129, s_X4_seekAll_132, s_X4_seekAll_134, s_X4_seekAll_137, s_X4_seekAll_139, s_X4_seekAll_140, s_X4_seekAll_141, s_X4_seekAll_144, s_X4_seekAll_146, s_X4_seekAll_148, s_X4_seekAll_150, s_X4_seekAll_154, s_X4_seekAll_156, s_X4_seekAll_159, s_X4_seekAll_161, s_X4_seekAll_162, s_X4_seekAll_163, s_X4_seekAll_164, s_X4_seekAll_165, s_X4_seekAll_168, s_X4_seekAll_171, s_X4_seekAll_172, s_X4_seekAll_173, s_X4_seekAll_174, s_X4_seekAll_176, s_X4_seekAll_178, s_X4_seekAll_181, s_X4_seekAll_184, s_X4_seekAll_187, s_X4_seekAll_190, s_X4_seekAll_191, s_X4_seekAll_194, s_X4_seekAll_196, s_X4_seekAll_197, s_X4_seekAll_198, s_X4_seekAll_200, s_X4_seekAll_202, s_X4_seekAll_205, s_X4_seekAll_208, s_X4_seekAll_211, s_X4_seekAll_212, s_X4_seekAll_215, s_X4_seekAll_217, s_X4_seekAll_219, s_X4_seekAll_220, s_X4_seekAll_221, s_X4_seekAll_224, s_X4_seekAll_226, s_X4_seekAll_227, s_X4_seekAll_228, s_X4_seekAll_230, s_X4_seekAll_231, s_X4_seekAll_232, s_X4_seekAll_233, s_X4_seekAll_236, s_X4_seekAll_237, s_X4_seekAll_241, s_X4_seekAll_242, s_X4_seekAll_245, s_X4_seekAll_246, s_X4_seekAll_249, s_X4_seekAll_251, s_X4_seekAll_252, s_X4_seekAll_255, s_X4_seekAll_256, s_X4_seekAll_258, s_X4_seekAll_259, s_X4_seekAll_260, s_X4_seekAll_263, s_X4_seekAll_265, s_X4_seekAll_266, s_X4_seekAll_267, s_X4_seekAll_270, s_X4_seekAll_273, s_X4_seekAll_274, s_X4_seekAll_275, s_X4_seekAll_278, s_X4_seekAll_279, s_X4_seekAll_280, s_X4_seekAll_283, s_X4_seekAll_286, s_X4_seekAll_289, s_X4_seekAll_290, s_X4_seekAll_293, s_X4_seekAll_295, s_X4_seekAll_296, s_X4_seekAll_297, s_X4_seekAll_300, if_true, if_false, and_true, true_and, and_false, false_and, true_or, or_true, or_false, false_or, eq_self, not_true_eq_false, not_false_eq_true, zv_int, zv_ref, zv_null, zv_none, hK_sI, hF_sI, hJ_sI, hN_sI, hZ_sI, hI_sI_same, hK_sJ, hF_sJ, hI_sJ, hN_sJ, hZ_sJ, hJ_sJ_same, hK_sF, hI_sF, hJ_sF, hN_sF, hZ_sF, Option.bind_some, Option.toList_some, Option.toList_none, List.cons_append, List.nil_append, zq_ref, zq_null, LW.k70, f12W, nl1, zfit]
          rw [← ehX]
        obtain ⟨h3, K3, y6, y7, y8, y9, y10, y11, e3, R3, fr3, m3⟩ := clm_in hn hp H k4 k8 P IH q' v (K ++ [κ]) hX u6 u7 u8 u9 (some (.int (nI v))) (some (.int (nI (n * n)))) (by omega) v2 LX b82 RB (fun _ => okv) (fun x hx μ hμ => by
          rcases List.mem_append.mp hx with c | c
          · exact ord x c μ ((split μ).mpr (Or.inr hμ))
          · rw [List.mem_singleton] at c
            exact less x μ ((exv x).mpr c) hμ)
        refine ⟨h3, K3, y6, y7, y8, y9, y10, y11, ?_, R3, frmM_trans (frmM_trans (frmM_trans frC frV) frX) fr3, fun x => ?_⟩
        · rw [e1, step, e3]
        · rw [m3, List.mem_append, List.mem_singleton, split, exv, or_assoc]
      · -- the next place
        obtain ⟨hU, ehU⟩ : ∃ hU, hU = sI hV (b + 82) (upd (hI hV (b + 82)) (p + 1) 0) := ⟨_, rfl⟩
        have LU : Lay b hU := by rw [ehU]; exact LV.sI _ _
        obtain ⟨u82, RU⟩ := RSt_up R'
        rw [← ehU] at u82 RU
        have exv : ∀ μ, EXg n rd pd hd (lay1 a p v) (p + 1) 0 μ ↔ (∃ f, Sol n rd pd hd f ∧ kyr f (n * n) = μ ∧ ∀ c, c < p + 1 → f c = lay1 a p v c) := fun μ => by
          constructor
          · rintro ⟨f, S, ek, ag_, _⟩
            exact ⟨f, S, ek, ag_⟩
          · rintro ⟨f, S, ek, ag_⟩
            exact ⟨f, S, ek, ag_, (S.1 (p + 1) (by omega)).1⟩
        have qp : ¬ nI p = nI (n * n - 1) := fun e => by
          have := (nI_eq (a := p) (b := n * n - 1) (by omega) (by omega)).mp e
          omega
        have z4 : zR (nI (p + 1)) 16 := zR_to (by decide) (by omega)
        have z5 : (nI (p + 1)).toNatClampNeg = p + 1 := nI_clamp (by omega)
        have step : zl E (d + 2) kX4_seekAll 211 [some (.ref (b + 70)), some (.int (nI n)), some (.int kd), some (.int (nI (n * n))), some (.int (nI (TT n))), some (.int (nI p)), u6, u7, u8, u9, some (.int (nI v)), u11] [] hC = zl E (d + 2) kX4_seekAll 47 [some (.ref (b + 70)), some (.int (nI n)), some (.int kd), some (.int (nI (n * n))), some (.int (nI (TT n))), some (.int (nI (p + 1))), u6, u7, u8, u9, some (.int (nI v)), u11] [] hU := by
          simp (decide := true) only [s_X4_seekAll_0, s_X4_seekAll_1, s_X4_seekAll_2, s_X4_seekAll_3, s_X4_seekAll_4, s_X4_seekAll_5, s_X4_seekAll_6, s_X4_seekAll_7, s_X4_seekAll_8, s_X4_seekAll_9, s_X4_seekAll_10, s_X4_seekAll_11, s_X4_seekAll_13, s_X4_seekAll_14, s_X4_seekAll_18, s_X4_seekAll_20, s_X4_seekAll_23, s_X4_seekAll_24, s_X4_seekAll_27, s_X4_seekAll_29, s_X4_seekAll_30, s_X4_seekAll_31, s_X4_seekAll_34, s_X4_seekAll_37, s_X4_seekAll_38, s_X4_seekAll_40, s_X4_seekAll_41, s_X4_seekAll_44, s_X4_seekAll_45, s_X4_seekAll_46, s_X4_seekAll_49, s_X4_seekAll_52, s_X4_seekAll_53, s_X4_seekAll_56, s_X4_seekAll_58, s_X4_seekAll_59, s_X4_seekAll_61, s_X4_seekAll_63, s_X4_seekAll_66, s_X4_seekAll_67, s_X4_seekAll_70, s_X4_seekAll_72, s_X4_seekAll_73, s_X4_seekAll_74, s_X4_seekAll_75, s_X4_seekAll_78, s_X4_seekAll_80, s_X4_seekAll_81, s_X4_seekAll_82, s_X4_seekAll_83, s_X4_seekAll_84, s_X4_seekAll_86, s_X4_seekAll_88, s_X4_seekAll_91, s_X4_seekAll_93, s_X4_seekAll_95, s_X4_seekAll_98, s_X4_seekAll_100, s_X4_seekAll_103, s_X4_seekAll_105, s_X4_seekAll_106, s_X4_seekAll_107, s_X4_seekAll_109, s_X4_seekAll_111, s_X4_seekAll_114, s_X4_seekAll_116, s_X4_seekAll_119, s_X4_seekAll_120, s_X4_seekAll_122, s_X4_seekAll_124, s_X4_seekAll_127, s_X4_seekAll_129, s_X4_seekAll_132, s_X4_seekAll_134, s_X4_seekAll_137, s_X4_seekAll_139, s_X4_seekAll_140, s_X4_seekAll_141, s_X4_seekAll_144, s_X4_seekAll_146, s_X4_seekAll_148, s_X4_seekAll_150, s_X4_seekAll_154, s_X4_seekAll_156, s_X4_seekAll_159, s_X4_seekAll_161, s_X4_seekAll_162, s_X4_seekAll_163, s_X4_seekAll_164, s_X4_seekAll_165, s_X4_seekAll_168, s_X4_seekAll_171, s_X4_seekAll_172, s_X4_seekAll_173, s_X4_seekAll_174, s_X4_seekAll_176, s_X4_seekAll_178, s_X4_seekAll_181, s_X4_seekAll_184, s_X4_seekAll_187, s_X4_seekAll_190, s_X4_seekAll_191, s_X4_seekAll_194, s_X4_seekAll_196, s_X4_seekAll_197, s_X4_seekAll_198, s_X4_seekAll_200, s_X4_seekAll_202, s_X4_seekAll_205, s_X4_seekAll_208, s_X4_seekAll_211, s_X4_seekAll_212, s_X4_seekAll_215, s_X4_seekAll_217, s_X4_seekAll_219, s_X4_seekAll_220, s_X4_seekAll_221, s_X4_seekAll_224, s_X4_seekAll_226, s_X4_seekAll_227, s_X4_seekAll_228, s_X4_seekAll_230, s_X4_seekAll_231, s_X4_seekAll_232, s_X4_seekAll_233, s_X4_seekAll_236, s_X4_seekAll_237, s_X4_seekAll_241, s_X4_seekAll_242, s_X4_seekAll_245, s_X4_seekAll_246, s_X4_seekAll_249, s_X4_seekAll_251, s_X4_seekAll_252, s_X4_seekAll_255, s_X4_seekAll_256, s_X4_seekAll_258, s_X4_seekAll_259, s_X4_seekAll_260, s_X4_seekAll_263, s_X4_seekAll_265, s_X4_seekAll_266, s_X4_seekAll_267, s_X4_seekAll_270, s_X4_seekAll_273, s_X4_seekAll_274, s_X4_seekAll_275, s_X4_seekAll_278, s_X4_seekAll_279, s_X4_seekAll_280, s_X4_seekAll_283, s_X4_seekAll_286, s_X4_seekAll_289, s_X4_seekAll_290, s_X4_seekAll_293, s_X4_seekAll_295, s_X4_seekAll_296, s_X4_seekAll_297, s_X4_seekAll_300, if_true, if_false, and_true, true_and, and_false, false_and, true_or, or_true, or_false, false_or, eq_self, not_true_eq_false, not_false_eq_true, zv_int, zv_ref, zv_null, zv_none, hK_sI, hF_sI, hJ_sI, hN_sI, hZ_sI, hI_sI_same, hK_sJ, hF_sJ, hI_sJ, hN_sJ, hZ_sJ, hJ_sJ_same, hK_sF, hI_sF, hJ_sF, hN_sF, hZ_sF, Option.bind_some, Option.toList_some, Option.toList_none, List.cons_append, List.nil_append, zq_ref, zq_null, LC.k70, LC.p70_17, LC.p70_18, LC.k82, LC.k83, z0, z1, z2, z3, nar1, e83, ec, s1, eq_false qp, nI_1]
          simp (decide := true) only [s_X4_seekAll_0, s_X4_seekAll_1, s_X4_seekAll_2, s_X4_seekAll_3, s_X4_seekAll_4, s_X4_seekAll_5, s_X4_seekAll_6, s_X4_seekAll_7, s_X4_seekAll_8, s_X4_seekAll_9, s_X4_seekAll_10, s_X4_seekAll_11, s_X4_seekAll_13, s_X4_seekAll_14, s_X4_seekAll_18, s_X4_seekAll_20, s_X4_seekAll_23, s_X4_seekAll_24, s_X4_seekAll_27, s_X4_seekAll_29, s_X4_seekAll_30, s_X4_seekAll_31, s_X4_seekAll_34, s_X4_seekAll_37, s_X4_seekAll_38, s_X4_seekAll_40, s_X4_seekAll_41, s_X4_seekAll_44, s_X4_seekAll_45, s_X4_seekAll_46, s_X4_seekAll_49, s_X4_seekAll_52, s_X4_seekAll_53, s_X4_seekAll_56, s_X4_seekAll_58, s_X4_seekAll_59, s_X4_seekAll_61, s_X4_seekAll_63, s_X4_seekAll_66, s_X4_seekAll_67, s_X4_seekAll_70, s_X4_seekAll_72, s_X4_seekAll_73, s_X4_seekAll_74, s_X4_seekAll_75, s_X4_seekAll_78, s_X4_seekAll_80, s_X4_seekAll_81, s_X4_seekAll_82, s_X4_seekAll_83, s_X4_seekAll_84, s_X4_seekAll_86, s_X4_seekAll_88, s_X4_seekAll_91, s_X4_seekAll_93, s_X4_seekAll_95, s_X4_seekAll_98, s_X4_seekAll_100, s_X4_seekAll_103, s_X4_seekAll_105, s_X4_seekAll_106, s_X4_seekAll_107, s_X4_seekAll_109, s_X4_seekAll_111, s_X4_seekAll_114, s_X4_seekAll_116, s_X4_seekAll_119, s_X4_seekAll_120, s_X4_seekAll_122, s_X4_seekAll_124, s_X4_seekAll_127, s_X4_seekAll_129, s_X4_seekAll_132, s_X4_seekAll_134, s_X4_seekAll_137, s_X4_seekAll_139, s_X4_seekAll_140, s_X4_seekAll_141, s_X4_seekAll_144, s_X4_seekAll_146, s_X4_seekAll_148, s_X4_seekAll_150, s_X4_seekAll_154, s_X4_seekAll_156, s_X4_seekAll_159, s_X4_seekAll_161, s_X4_seekAll_162, s_X4_seekAll_163, s_X4_seekAll_164, s_X4_seekAll_165, s_X4_seekAll_168, s_X4_seekAll_171, s_X4_seekAll_172, s_X4_seekAll_173, s_X4_seekAll_174, s_X4_seekAll_176, s_X4_seekAll_178, s_X4_seekAll_181, s_X4_seekAll_184, s_X4_seekAll_187, s_X4_seekAll_190, s_X4_seekAll_191, s_X4_seekAll_194, s_X4_seekAll_196, s_X4_seekAll_197, s_X4_seekAll_198, s_X4_seekAll_200, s_X4_seekAll_202, s_X4_seekAll_205, s_X4_seekAll_208, s_X4_seekAll_211, s_X4_seekAll_212, s_X4_seekAll_215, s_X4_seekAll_217, s_X4_seekAll_219, s_X4_seekAll_220, s_X4_seekAll_221, s_X4_seekAll_224, s_X4_seekAll_226, s_X4_seekAll_227, s_X4_seekAll_228, s_X4_seekAll_230, s_X4_seekAll_231, s_X4_seekAll_232, s_X4_seekAll_233, s_X4_seekAll_236, s_X4_seekAll_237, s_X4_seekAll_241, s_X4_seekAll_242, s_X4_seekAll_245, s_X4_seekAll_246, s_X4_seekAll_249, s_X4_seekAll_251, s_X4_seekAll_252, s_X4_seekAll_255, s_X4_seekAll_256, s_X4_seekAll_258, s_X4_seekAll_259, s_X4_seekAll_260, s_X4_seekAll_263, s_X4_seekAll_265, s_X4_seekAll_266, s_X4_seekAll_267, s_X4_seekAll_270, s_X4_seekAll_273, s_X4_seekAll_274, s_X4_seekAll_275, s_X4_seekAll_278, s_X4_seekAll_279, s_X4_seekAll_280, s_X4_seekAll_283, s_X4_seekAll_286, s_X4_seekAll_289, s_X4_seekAll_290, s_X4_seekAll_293, s_X4_seekAll_295, s_X4_seekAll_296, s_X4_seekAll_297, s_X4_seekAll_300, if_true, if_false, and_true, true_and, and_false, false_and, true_or, or_true, or_false, false_or, eq_self, not_true_eq_false, not_false_eq_true, zv_int, zv_ref, zv_null, zv_none, hK_sI, hF_sI, hJ_sI, hN_sI, hZ_sI, hI_sI_same, hK_sJ, hF_sJ, hI_sJ, hN_sJ, hZ_sJ, hJ_sJ_same, hK_sF, hI_sF, hJ_sF, hN_sF, hZ_sF, Option.bind_some, Option.toList_some, Option.toList_none, List.cons_append, List.nil_append, zq_ref, zq_null, LV.k70, LV.p70_17, LV.k82, z4, z5]
          rw [← ehU]
        obtain ⟨h2, K2, y6, y7, y8, y9, y10, y11, e2, R2, fr2, m2⟩ := IH (by omega) (lay1 a p v) K hU u6 u7 u8 u9 (some (.int (nI v))) u11 P' LU u82 RU (fun x hx μ hμ => ord x hx μ ((split μ).mpr (Or.inl ((exv μ).mp hμ))))
        have frU : frmM b hV hU := by rw [ehU]; exact frmM_I (Or.inr (Or.inl rfl))
        obtain ⟨b82, RB⟩ := RSt_back (by omega) ne R2
        have dn : nI (p + 1) + -1 = nI p := by
          rw [← Int32.sub_eq_add_neg, show (1 : Int32) = nI 1 from rfl, pk_sub (by omega)]
          congr 1
        rw [dn] at e2
        obtain ⟨h3, K3, x6, x7, x8, x9, x10, x11, e3, R3, fr3, m3⟩ := clm_in hn hp H k4 k8 P IH q' v K2 h2 y6 y7 y8 y9 y10 y11 (by omega) v2 R2.1 b82 RB (fun _ => okv) (fun x hx μ hμ => by
          rcases (m2 x).mp hx with c | c
          · exact ord x c μ ((split μ).mpr (Or.inr hμ))
          · exact less x μ ((exv x).mp c) hμ)
        refine ⟨h3, K3, x6, x7, x8, x9, x10, x11, ?_, R3, frmM_trans (frmM_trans (frmM_trans (frmM_trans frC frV) frU) fr2) fr3, fun x => ?_⟩
        · rw [e1, step, e2, e3]
        · rw [m3, m2, split, exv, or_assoc]
end
