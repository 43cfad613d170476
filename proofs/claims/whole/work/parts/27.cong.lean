/-! ===== rows that agree ===== -/
section
variable {E : mE} {d : Nat} {h : mH} {b : Nat}
def ag (f g : Nat → Int32) (N : Nat) : Prop := ∀ p, p < N → f p = g p
theorem sm_cg {f g : Nat → Int64} : ∀ {k : Nat}, (∀ i, i < k → f i = g i) → sm f k = sm g k
  | 0, _ => rfl
  | k + 1, q => by
    show sm f k + f k = sm g k + g k
    rw [sm_cg (fun i hi => q i (by omega)), q k (by omega)]
theorem lnS_cg {f g : Nat → Int32} {n line w : Nat} (q : ag f g (n * n)) (hl : line < 4 * n) : lnS f n line w = lnS g n line w := sm_cg fun i hi => by rw [q _ (lc_lt hl hi)]
theorem fs_cg {p r : Nat → Bool} : ∀ {k i : Nat}, (∀ j, i ≤ j → j < i + k → p j = r j) → fs p k i = fs r k i
  | 0, _, _ => rfl
  | k + 1, i, q => by
    unfold fs
    rw [q i (by omega) (by omega), fs_cg (fun j h1 h2 => q j (by omega) (by omega))]
theorem al_cg {p r : Nat → Bool} : ∀ {k i : Nat}, (∀ j, i ≤ j → j < i + k → p j = r j) → al p k i = al r k i
  | 0, _, _ => rfl
  | k + 1, i, q => by
    unfold al
    rw [q i (by omega) (by omega), al_cg (fun j h1 h2 => q j (by omega) (by omega))]
theorem an_cg {p r : Nat → Bool} : ∀ {k i : Nat}, (∀ j, i ≤ j → j < i + k → p j = r j) → an p k i = an r k i
  | 0, _, _ => rfl
  | k + 1, i, q => by
    unfold an
    rw [q i (by omega) (by omega), an_cg (fun j h1 h2 => q j (by omega) (by omega))]
theorem cn_cg {p r : Nat → Bool} : ∀ {k i : Nat}, (∀ j, i ≤ j → j < i + k → p j = r j) → cn p k i = cn r k i
  | 0, _, _ => rfl
  | k + 1, i, q => by
    unfold cn
    rw [q i (by omega) (by omega), cn_cg (fun j h1 h2 => q j (by omega) (by omega))]
theorem odL_cg {f g : Nat → Int32} {n kd w : Nat} (q : ag f g (n * n)) : odL f n kd w = odL g n kd w := by
  rcases Nat.eq_zero_or_pos n with rfl | hn
  · simp only [odL, Nat.mul_zero, Nat.zero_sub, fs]
  unfold odL
  rw [fs_cg fun j h1 h2 => ?_]
  unfold odp
  rw [lnS_cg q (by omega), lnS_cg q (by omega)]
theorem prB_cg {f g : Nat → Int32} {N : Nat} (q : ag f g N) : prB f N = prB g N := by
  unfold prB
  rcases Nat.eq_zero_or_pos N with rfl | hN
  · rfl
  refine al_cg fun j h1 h2 => ?_
  unfold prp
  rw [q j (by omega), q (N - 1 - j) (by omega), q 0 hN, q (N - 1) (by omega)]
theorem PL_cg {f g : Nat → Int32} {N : Nat} (q : ag f g N) (hp : PL f N) : PL g N := fun j hj => by
  rw [← q j hj]
  exact ⟨(hp j hj).1, fun i hi => by rw [← q i (by omega)]; exact (hp j hj).2 i hi⟩
theorem ag.symm {f g : Nat → Int32} {N : Nat} (q : ag f g N) : ag g f N := fun p hp => (q p hp).symm
theorem plv_cg {f g : Nat → Int32} {N : Nat} (q : ag f g N) : plv f N = plv g N := by
  by_cases hp : PL f N
  · rw [plv_1 hp, plv_1 (PL_cg q hp)]
  · rw [plv_0 hp, plv_0 (fun x => hp (PL_cg q.symm x))]
theorem KB_cg {f g : Nat → Int32} {n : Nat} (q : ag f g (n * n)) : KB f n = KB g n := by
  unfold KB
  rw [odL_cg q, odL_cg q, odL_cg q, odL_cg q, odL_cg q, prB_cg q, plv_cg q]
theorem lx_cg {f f' g g' : Nat → Int32} : ∀ {k i : Nat}, (∀ j, i ≤ j → j < i + k → f j = f' j ∧ g j = g' j) → lx f g k i = lx f' g' k i
  | 0, _, _ => rfl
  | k + 1, i, q => by
    unfold lx
    rw [(q i (by omega) (by omega)).1, (q i (by omega) (by omega)).2, lx_cg (fun j h1 h2 => q j (by omega) (by omega))]
theorem tn_cg {f g : Nat → Int32} {n t p : Nat} (hn : n ≤ 12) (q : ag f g (n * n)) (hp : p < n * n) : tn f n t p = tn g n t p := by
  unfold tn
  rcases Nat.eq_zero_or_pos n with rfl | h0
  · omega
  exact q _ (src_lt hn (Nat.div_lt_of_lt_mul hp) (Nat.mod_lt _ h0)).1
theorem lcm_cg {f f' g g' : Nat → Int32} {n t u : Nat} (hn : n ≤ 12) (q : ag f f' (n * n)) (q2 : ag g g' (n * n)) : lcm f g n t u = lcm f' g' n t u := lx_cg fun j _ h2 => ⟨tn_cg hn q (by omega), tn_cg hn q2 (by omega)⟩
theorem lsT_cg {c c' : Nat → Nat → Int32} (q : ∀ t m, c t m = c' t m) : ∀ k t m, lsT c k t m = lsT c' k t m
  | 0, _, _ => rfl
  | k + 1, t, m => by
    unfold lsT
    rw [q, lsT_cg q]
theorem fm_cg {f g : Nat → Int32} {n : Nat} (hn : n ≤ 12) (q : ag f g (n * n)) : fm f n = fm g n := lsT_cg (fun _ _ => lcm_cg hn q q) _ _ _
theorem unl_cg {f g : Nat → Int32} {n : Nat} (hn : n ≤ 12) (q : ag f g (n * n)) : unl f n = unl g n := cn_cg fun j _ _ => by
  unfold unp
  rw [an_cg fun u _ _ => ?_]
  unfold er
  rw [lcm_cg hn q q]
theorem lx0 {f g : Nat → Int32} : ∀ {k i : Nat}, lx f g k i = 0 ↔ al (fun p => decide (f p = g p)) k i = true
  | 0, i => ⟨fun _ => rfl, fun _ => rfl⟩
  | k + 1, i => by
    unfold lx al
    by_cases q : f i = g i
    · simp only [q, if_true, decide_true, Bool.true_and]
      exact lx0
    · simp only [q, if_false, decide_false, Bool.false_and]
      constructor
      · intro x
        split at x <;> exact absurd x (by decide)
      · intro x
        cases x
theorem src0 {n p : Nat} : src n 0 (p / n) (p % n) = p := by
  show n * (p / n) + p % n = p
  exact Nat.div_add_mod p n
theorem tn0 {f : Nat → Int32} {n p : Nat} : tn f n 0 p = f p := by
  unfold tn
  rw [src0]
/-- the turn that makes g of f -/
def smT (f g : Nat → Int32) (n : Nat) : Int32 := rs (fs (fun t => decide (lcm f g n t 0 = 0)) 8 0)
theorem smT_cg {f f' g g' : Nat → Int32} {n : Nat} (hn : n ≤ 12) (q : ag f f' (n * n)) (q2 : ag g g' (n * n)) : smT f g n = smT f' g' n := by
  unfold smT
  rw [fs_cg fun t _ _ => ?_]
  rw [lcm_cg hn q q2]
-- the reference's same and unlike
theorem lp_same_in {q r n t : Nat} {f g : Nat → Int32} (L : Lay b h) (hq : q < 24) (hr : r < 24) (hf : f = fun p => hI h (b + 77) (144 * q + p)) (hg : g = fun p => hI h (b + 77) (144 * r + p)) (hn : 1 ≤ n ∧ n ≤ 12) (ht : t < 8) : ∀ (k p : Nat), p + k = n * n → ∃ v6, zl E (d + 1) kX4_same 52 [some (.ref (b + 70)), some (.int (nI q)), some (.int (nI r)), some (.int (nI n)), some (.int (nI t)), some (.int 1), some (.int (nI p))] [] h = zl E (d + 1) kX4_same 119 [some (.ref (b + 70)), some (.int (nI q)), some (.int (nI r)), some (.int (nI n)), some (.int (nI t)), some (.int (if al (fun p => decide (tn f n t p = g p)) k p = true then 1 else 0)), v6] [] h
  | 0, p, e => by
    have : p = n * n := by omega
    subst this
    refine ⟨some (.int (nI (n * n))), ?_⟩
    rw [s_X4_same_52]
    simp only [s_X4_same_0, s_X4_same_1, s_X4_same_2, s_X4_same_5, s_X4_same_8, s_X4_same_9, s_X4_same_10, s_X4_same_13, s_X4_same_16, s_X4_same_18, s_X4_same_19, s_X4_same_20, s_X4_same_23, s_X4_same_24, s_X4_same_25, s_X4_same_26, s_X4_same_27, s_X4_same_31, s_X4_same_33, s_X4_same_36, s_X4_same_37, s_X4_same_40, s_X4_same_41, s_X4_same_42, s_X4_same_43, s_X4_same_46, s_X4_same_47, s_X4_same_49, s_X4_same_50, s_X4_same_54, s_X4_same_55, s_X4_same_56, s_X4_same_57, s_X4_same_60, s_X4_same_62, s_X4_same_65, s_X4_same_66, s_X4_same_69, s_X4_same_72, s_X4_same_73, s_X4_same_74, s_X4_same_75, s_X4_same_77, s_X4_same_79, s_X4_same_80, s_X4_same_81, s_X4_same_83, s_X4_same_84, s_X4_same_85, s_X4_same_88, s_X4_same_89, s_X4_same_90, s_X4_same_91, s_X4_same_94, s_X4_same_97, s_X4_same_98, s_X4_same_99, s_X4_same_101, s_X4_same_102, s_X4_same_103, s_X4_same_106, s_X4_same_107, s_X4_same_110, s_X4_same_111, s_X4_same_113, s_X4_same_116, s_X4_same_121, s_X4_same_124, s_X4_same_126, s_X4_same_127, s_X4_same_130, s_X4_same_133, s_X4_same_134, if_true, if_false, and_true, true_and, and_false, false_and, true_or, or_true, or_false, false_or, eq_self, not_true_eq_false, not_false_eq_true, zv_int, zv_ref, zv_null, zv_none, hK_sI, hF_sI, hJ_sI, hN_sI, hZ_sI, hI_sI_same, hK_sJ, hF_sJ, hI_sJ, hN_sJ, hZ_sJ, hJ_sJ_same, hK_sF, hI_sF, hJ_sF, hN_sF, hZ_sF, Option.bind_some, Option.toList_some, Option.toList_none, List.cons_append, List.nil_append, zq_ref, zq_null, pk_mul, Int32.le_refl, al]
  | k + 1, p, e => by
    have qn : n * n ≤ 144 := Nat.mul_le_mul hn.2 hn.2
    have q1 : ¬ nI (n * n) ≤ nI p := nI_ge (by omega) (by omega)
    have n0 : ¬ nI n = 0 := nI_ne0 (by omega) (by omega)
    have hi : p / n < n := Nat.div_lt_of_lt_mul (by omega)
    have hj : p % n < n := Nat.mod_lt _ (by omega)
    have d1 : nI p / nI n = nI (p / n) := pk_div (by omega) (by omega) (by omega)
    have r1 : nI p - nI (p / n * n) = nI (p % n) := by
      rw [pk_sub (Nat.div_mul_le_self p n)]
      congr 1
      have := Nat.div_add_mod p n
      rw [Nat.mul_comm] at this
      omega
    have e1 : ∀ q : Nat, (144 : Int32) * nI q = nI (144 * q) := fun q => by rw [show (144 : Int32) = nI 144 from rfl, pk_mul]
    have lt1 := src_lt (t := t) hn.2 hi hj
    have z1 : zR (nI (144 * q + src n t (p / n) (p % n))) 3456 := zR_to (by decide) (by omega)
    have y1 : (nI (144 * q + src n t (p / n) (p % n))).toNatClampNeg = 144 * q + src n t (p / n) (p % n) := nI_clamp (by omega)
    have z2 : zR (nI (144 * r + p)) 3456 := zR_to (by decide) (by omega)
    have y2 : (nI (144 * r + p)).toNatClampNeg = 144 * r + p := nI_clamp (by omega)
    have g1 : hI h (b + 77) (144 * q + src n t (p / n) (p % n)) = tn f n t p := by rw [hf]; rfl
    have g2 : hI h (b + 77) (144 * r + p) = g p := by rw [hg]
    have c1 := c_X4_source (E := E) (d := d) (h := h) hn.2 ht hi hj
    obtain ⟨v6, ih⟩ := lp_same_in L hq hr hf hg hn ht k (p + 1) (by omega)
    rw [s_X4_same_52]
    unfold al
    by_cases qq : tn f n t p = g p
    · refine ⟨v6, ?_⟩
      simp (decide := true) only [s_X4_same_0, s_X4_same_1, s_X4_same_2, s_X4_same_5, s_X4_same_8, s_X4_same_9, s_X4_same_10, s_X4_same_13, s_X4_same_16, s_X4_same_18, s_X4_same_19, s_X4_same_20, s_X4_same_23, s_X4_same_24, s_X4_same_25, s_X4_same_26, s_X4_same_27, s_X4_same_31, s_X4_same_33, s_X4_same_36, s_X4_same_37, s_X4_same_40, s_X4_same_41, s_X4_same_42, s_X4_same_43, s_X4_same_46, s_X4_same_47, s_X4_same_49, s_X4_same_50, s_X4_same_54, s_X4_same_55, s_X4_same_56, s_X4_same_57, s_X4_same_60, s_X4_same_62, s_X4_same_65, s_X4_same_66, s_X4_same_69, s_X4_same_72, s_X4_same_73, s_X4_same_74, s_X4_same_75, s_X4_same_77, s_X4_same_79, s_X4_same_80, s_X4_same_81, s_X4_same_83, s_X4_same_84, s_X4_same_85, s_X4_same_88, s_X4_same_89, s_X4_same_90, s_X4_same_91, s_X4_same_94, s_X4_same_97, s_X4_same_98, s_X4_same_99, s_X4_same_101, s_X4_same_102, s_X4_same_103, s_X4_same_106, s_X4_same_107, s_X4_same_110, s_X4_same_111, s_X4_same_113, s_X4_same_116, s_X4_same_121, s_X4_same_124, s_X4_same_126, s_X4_same_127, s_X4_same_130, s_X4_same_133, s_X4_same_134, if_true, if_false, and_true, true_and, and_false, false_and, true_or, or_true, or_false, false_or, eq_self, not_true_eq_false, not_false_eq_true, zv_int, zv_ref, zv_null, zv_none, hK_sI, hF_sI, hJ_sI, hN_sI, hZ_sI, hI_sI_same, hK_sJ, hF_sJ, hI_sJ, hN_sJ, hZ_sJ, hJ_sJ_same, hK_sF, hI_sF, hJ_sF, hN_sF, hZ_sF, Option.bind_some, Option.toList_some, Option.toList_none, List.cons_append, List.nil_append, zq_ref, zq_null, L.k70, L.p70_7, L.k77, pk_mul, q1, n0, d1, r1, e1, nI_add, c1, z1, y1, z2, y2, g1, g2, eq_true qq, nI_1, decide_true, Bool.true_and]
      exact ih
    · refine ⟨some (.int (nI (p + 1))), ?_⟩
      simp (decide := true) only [s_X4_same_0, s_X4_same_1, s_X4_same_2, s_X4_same_5, s_X4_same_8, s_X4_same_9, s_X4_same_10, s_X4_same_13, s_X4_same_16, s_X4_same_18, s_X4_same_19, s_X4_same_20, s_X4_same_23, s_X4_same_24, s_X4_same_25, s_X4_same_26, s_X4_same_27, s_X4_same_31, s_X4_same_33, s_X4_same_36, s_X4_same_37, s_X4_same_40, s_X4_same_41, s_X4_same_42, s_X4_same_43, s_X4_same_46, s_X4_same_47, s_X4_same_49, s_X4_same_50, s_X4_same_54, s_X4_same_55, s_X4_same_56, s_X4_same_57, s_X4_same_60, s_X4_same_62, s_X4_same_65, s_X4_same_66, s_X4_same_69, s_X4_same_72, s_X4_same_73, s_X4_same_74, s_X4_same_75, s_X4_same_77, s_X4_same_79, s_X4_same_80, s_X4_same_81, s_X4_same_83, s_X4_same_84, s_X4_same_85, s_X4_same_88, s_X4_same_89, s_X4_same_90, s_X4_same_91, s_X4_same_94, s_X4_same_97, s_X4_same_98, s_X4_same_99, s_X4_same_101, s_X4_same_102, s_X4_same_103, s_X4_same_106, s_X4_same_107, s_X4_same_110, s_X4_same_111, s_X4_same_113, s_X4_same_116, s_X4_same_121, s_X4_same_124, s_X4_same_126, s_X4_same_127, s_X4_same_130, s_X4_same_133, s_X4_same_134, if_true, if_false, and_true, true_and, and_false, false_and, true_or, or_true, or_false, false_or, eq_self, not_true_eq_false, not_false_eq_true, zv_int, zv_ref, zv_null, zv_none, hK_sI, hF_sI, hJ_sI, hN_sI, hZ_sI, hI_sI_same, hK_sJ, hF_sJ, hI_sJ, hN_sJ, hZ_sJ, hJ_sJ_same, hK_sF, hI_sF, hJ_sF, hN_sF, hZ_sF, Option.bind_some, Option.toList_some, Option.toList_none, List.cons_append, List.nil_append, zq_ref, zq_null, L.k70, L.p70_7, L.k77, pk_mul, q1, n0, d1, r1, e1, nI_add, c1, z1, y1, z2, y2, g1, g2, qq, nI_1, decide_false, Bool.false_and]
      rw [s_X4_same_52]
      by_cases q3 : nI (n * n) ≤ nI (p + 1)
      · simp (decide := true) only [s_X4_same_0, s_X4_same_1, s_X4_same_2, s_X4_same_5, s_X4_same_8, s_X4_same_9, s_X4_same_10, s_X4_same_13, s_X4_same_16, s_X4_same_18, s_X4_same_19, s_X4_same_20, s_X4_same_23, s_X4_same_24, s_X4_same_25, s_X4_same_26, s_X4_same_27, s_X4_same_31, s_X4_same_33, s_X4_same_36, s_X4_same_37, s_X4_same_40, s_X4_same_41, s_X4_same_42, s_X4_same_43, s_X4_same_46, s_X4_same_47, s_X4_same_49, s_X4_same_50, s_X4_same_54, s_X4_same_55, s_X4_same_56, s_X4_same_57, s_X4_same_60, s_X4_same_62, s_X4_same_65, s_X4_same_66, s_X4_same_69, s_X4_same_72, s_X4_same_73, s_X4_same_74, s_X4_same_75, s_X4_same_77, s_X4_same_79, s_X4_same_80, s_X4_same_81, s_X4_same_83, s_X4_same_84, s_X4_same_85, s_X4_same_88, s_X4_same_89, s_X4_same_90, s_X4_same_91, s_X4_same_94, s_X4_same_97, s_X4_same_98, s_X4_same_99, s_X4_same_101, s_X4_same_102, s_X4_same_103, s_X4_same_106, s_X4_same_107, s_X4_same_110, s_X4_same_111, s_X4_same_113, s_X4_same_116, s_X4_same_121, s_X4_same_124, s_X4_same_126, s_X4_same_127, s_X4_same_130, s_X4_same_133, s_X4_same_134, if_true, if_false, and_true, true_and, and_false, false_and, true_or, or_true, or_false, false_or, eq_self, not_true_eq_false, not_false_eq_true, zv_int, zv_ref, zv_null, zv_none, hK_sI, hF_sI, hJ_sI, hN_sI, hZ_sI, hI_sI_same, hK_sJ, hF_sJ, hI_sJ, hN_sJ, hZ_sJ, hJ_sJ_same, hK_sF, hI_sF, hJ_sF, hN_sF, hZ_sF, Option.bind_some, Option.toList_some, Option.toList_none, List.cons_append, List.nil_append, zq_ref, zq_null, pk_mul, q3]
      · simp (decide := true) only [s_X4_same_0, s_X4_same_1, s_X4_same_2, s_X4_same_5, s_X4_same_8, s_X4_same_9, s_X4_same_10, s_X4_same_13, s_X4_same_16, s_X4_same_18, s_X4_same_19, s_X4_same_20, s_X4_same_23, s_X4_same_24, s_X4_same_25, s_X4_same_26, s_X4_same_27, s_X4_same_31, s_X4_same_33, s_X4_same_36, s_X4_same_37, s_X4_same_40, s_X4_same_41, s_X4_same_42, s_X4_same_43, s_X4_same_46, s_X4_same_47, s_X4_same_49, s_X4_same_50, s_X4_same_54, s_X4_same_55, s_X4_same_56, s_X4_same_57, s_X4_same_60, s_X4_same_62, s_X4_same_65, s_X4_same_66, s_X4_same_69, s_X4_same_72, s_X4_same_73, s_X4_same_74, s_X4_same_75, s_X4_same_77, s_X4_same_79, s_X4_same_80, s_X4_same_81, s_X4_same_83, s_X4_same_84, s_X4_same_85, s_X4_same_88, s_X4_same_89, s_X4_same_90, s_X4_same_91, s_X4_same_94, s_X4_same_97, s_X4_same_98, s_X4_same_99, s_X4_same_101, s_X4_same_102, s_X4_same_103, s_X4_same_106, s_X4_same_107, s_X4_same_110, s_X4_same_111, s_X4_same_113, s_X4_same_116, s_X4_same_121, s_X4_same_124, s_X4_same_126, s_X4_same_127, s_X4_same_130, s_X4_same_133, s_X4_same_134, if_true, if_false, and_true, true_and, and_false, false_and, true_or, or_true, or_false, false_or, eq_self, not_true_eq_false, not_false_eq_true, zv_int, zv_ref, zv_null, zv_none, hK_sI, hF_sI, hJ_sI, hN_sI, hZ_sI, hI_sI_same, hK_sJ, hF_sJ, hI_sJ, hN_sJ, hZ_sJ, hJ_sJ_same, hK_sF, hI_sF, hJ_sF, hN_sF, hZ_sF, Option.bind_some, Option.toList_some, Option.toList_none, List.cons_append, List.nil_append, zq_ref, zq_null, pk_mul, q3]
theorem lp_same {q r n : Nat} {f g : Nat → Int32} (L : Lay b h) (hq : q < 24) (hr : r < 24) (hf : f = fun p => hI h (b + 77) (144 * q + p)) (hg : g = fun p => hI h (b + 77) (144 * r + p)) (ho : hI h (b + 76) r = nI n) (hn : 1 ≤ n ∧ n ≤ 12) : ∀ (k t : Nat) (v5 v6 : Option Value), t + k = 8 → zl E (d + 1) kX4_same 29 [some (.ref (b + 70)), some (.int (nI q)), some (.int (nI r)), some (.int (nI n)), some (.int (nI t)), v5, v6] [] h = some (some (.int (rs (fs (fun t => decide (lcm f g n t 0 = 0)) k t))), h)
  | 0, t, v5, v6, e => by
    have : t = 8 := by omega
    subst this
    rw [s_X4_same_29]
    simp (decide := true) only [s_X4_same_0, s_X4_same_1, s_X4_same_2, s_X4_same_5, s_X4_same_8, s_X4_same_9, s_X4_same_10, s_X4_same_13, s_X4_same_16, s_X4_same_18, s_X4_same_19, s_X4_same_20, s_X4_same_23, s_X4_same_24, s_X4_same_25, s_X4_same_26, s_X4_same_27, s_X4_same_31, s_X4_same_33, s_X4_same_36, s_X4_same_37, s_X4_same_40, s_X4_same_41, s_X4_same_42, s_X4_same_43, s_X4_same_46, s_X4_same_47, s_X4_same_49, s_X4_same_50, s_X4_same_54, s_X4_same_55, s_X4_same_56, s_X4_same_57, s_X4_same_60, s_X4_same_62, s_X4_same_65, s_X4_same_66, s_X4_same_69, s_X4_same_72, s_X4_same_73, s_X4_same_74, s_X4_same_75, s_X4_same_77, s_X4_same_79, s_X4_same_80, s_X4_same_81, s_X4_same_83, s_X4_same_84, s_X4_same_85, s_X4_same_88, s_X4_same_89, s_X4_same_90, s_X4_same_91, s_X4_same_94, s_X4_same_97, s_X4_same_98, s_X4_same_99, s_X4_same_101, s_X4_same_102, s_X4_same_103, s_X4_same_106, s_X4_same_107, s_X4_same_110, s_X4_same_111, s_X4_same_113, s_X4_same_116, s_X4_same_119, s_X4_same_121, s_X4_same_124, s_X4_same_126, s_X4_same_127, s_X4_same_130, s_X4_same_133, s_X4_same_134, if_true, if_false, and_true, true_and, and_false, false_and, true_or, or_true, or_false, false_or, eq_self, not_true_eq_false, not_false_eq_true, zv_int, zv_ref, zv_null, zv_none, hK_sI, hF_sI, hJ_sI, hN_sI, hZ_sI, hI_sI_same, hK_sJ, hF_sJ, hI_sJ, hN_sJ, hZ_sJ, hJ_sJ_same, hK_sF, hI_sF, hJ_sF, hN_sF, hZ_sF, Option.bind_some, Option.toList_some, Option.toList_none, List.cons_append, List.nil_append, zq_ref, zq_null, fs, rs]
  | k + 1, t, v5, v6, e => by
    have q1 : ¬ 8 ≤ nI t := nI_ge (b := 8) (by omega) (by decide)
    have z1 : zR (nI r) 24 := zR_to (by decide) hr
    have z2 : (nI r).toNatClampNeg = r := nI_clamp (by omega)
    obtain ⟨w6, e1⟩ := lp_same_in (E := E) (d := d) L hq hr hf hg hn (show t < 8 by omega) (n * n) 0 (by omega)
    have hl : (lcm f g n t 0 = 0) ↔ al (fun p => decide (tn f n t p = g p)) (n * n) 0 = true := by
      unfold lcm
      rw [lx0]
      simp only [tn0]
    rw [s_X4_same_29]
    simp only [s_X4_same_0, s_X4_same_1, s_X4_same_2, s_X4_same_5, s_X4_same_8, s_X4_same_9, s_X4_same_10, s_X4_same_13, s_X4_same_16, s_X4_same_18, s_X4_same_19, s_X4_same_20, s_X4_same_23, s_X4_same_24, s_X4_same_25, s_X4_same_26, s_X4_same_27, s_X4_same_31, s_X4_same_33, s_X4_same_36, s_X4_same_37, s_X4_same_40, s_X4_same_41, s_X4_same_42, s_X4_same_43, s_X4_same_46, s_X4_same_47, s_X4_same_49, s_X4_same_50, s_X4_same_54, s_X4_same_55, s_X4_same_56, s_X4_same_57, s_X4_same_60, s_X4_same_62, s_X4_same_65, s_X4_same_66, s_X4_same_69, s_X4_same_72, s_X4_same_73, s_X4_same_74, s_X4_same_75, s_X4_same_77, s_X4_same_79, s_X4_same_80, s_X4_same_81, s_X4_same_83, s_X4_same_84, s_X4_same_85, s_X4_same_88, s_X4_same_89, s_X4_same_90, s_X4_same_91, s_X4_same_94, s_X4_same_97, s_X4_same_98, s_X4_same_99, s_X4_same_101, s_X4_same_102, s_X4_same_103, s_X4_same_106, s_X4_same_107, s_X4_same_110, s_X4_same_111, s_X4_same_113, s_X4_same_116, s_X4_same_121, s_X4_same_124, s_X4_same_126, s_X4_same_127, s_X4_same_130, s_X4_same_133, s_X4_same_134, if_true, if_false, and_true, true_and, and_false, false_and, true_or, or_true, or_false, false_or, eq_self, not_true_eq_false, not_false_eq_true, zv_int, zv_ref, zv_null, zv_none, hK_sI, hF_sI, hJ_sI, hN_sI, hZ_sI, hI_sI_same, hK_sJ, hF_sJ, hI_sJ, hN_sJ, hZ_sJ, hJ_sJ_same, hK_sF, hI_sF, hJ_sF, hN_sF, hZ_sF, Option.bind_some, Option.toList_some, Option.toList_none, List.cons_append, List.nil_append, zq_ref, zq_null, L.k70, L.p70_6, L.k76, q1, z1, z2, ho]
    rw [nI_0] at e1
    rw [e1]
    unfold fs
    cases ha : al (fun p => decide (tn f n t p = g p)) (n * n) 0 with
    | true =>
      rw [decide_eq_true (hl.mpr ha)]
      simp (decide := true) only [s_X4_same_0, s_X4_same_1, s_X4_same_2, s_X4_same_5, s_X4_same_8, s_X4_same_9, s_X4_same_10, s_X4_same_13, s_X4_same_16, s_X4_same_18, s_X4_same_19, s_X4_same_20, s_X4_same_23, s_X4_same_24, s_X4_same_25, s_X4_same_26, s_X4_same_27, s_X4_same_31, s_X4_same_33, s_X4_same_36, s_X4_same_37, s_X4_same_40, s_X4_same_41, s_X4_same_42, s_X4_same_43, s_X4_same_46, s_X4_same_47, s_X4_same_49, s_X4_same_50, s_X4_same_54, s_X4_same_55, s_X4_same_56, s_X4_same_57, s_X4_same_60, s_X4_same_62, s_X4_same_65, s_X4_same_66, s_X4_same_69, s_X4_same_72, s_X4_same_73, s_X4_same_74, s_X4_same_75, s_X4_same_77, s_X4_same_79, s_X4_same_80, s_X4_same_81, s_X4_same_83, s_X4_same_84, s_X4_same_85, s_X4_same_88, s_X4_same_89, s_X4_same_90, s_X4_same_91, s_X4_same_94, s_X4_same_97, s_X4_same_98, s_X4_same_99, s_X4_same_101, s_X4_same_102, s_X4_same_103, s_X4_same_106, s_X4_same_107, s_X4_same_110, s_X4_same_111, s_X4_same_113, s_X4_same_116, s_X4_same_119, s_X4_same_121, s_X4_same_124, s_X4_same_126, s_X4_same_127, s_X4_same_130, s_X4_same_133, s_X4_same_134, if_true, if_false, and_true, true_and, and_false, false_and, true_or, or_true, or_false, false_or, eq_self, not_true_eq_false, not_false_eq_true, zv_int, zv_ref, zv_null, zv_none, hK_sI, hF_sI, hJ_sI, hN_sI, hZ_sI, hI_sI_same, hK_sJ, hF_sJ, hI_sJ, hN_sJ, hZ_sJ, hJ_sJ_same, hK_sF, hI_sF, hJ_sF, hN_sF, hZ_sF, Option.bind_some, Option.toList_some, Option.toList_none, List.cons_append, List.nil_append, zq_ref, zq_null, cond_true, rs]
    | false =>
      rw [decide_eq_false (fun x => by rw [hl, ha] at x; cases x)]
      simp (decide := true) only [s_X4_same_0, s_X4_same_1, s_X4_same_2, s_X4_same_5, s_X4_same_8, s_X4_same_9, s_X4_same_10, s_X4_same_13, s_X4_same_16, s_X4_same_18, s_X4_same_19, s_X4_same_20, s_X4_same_23, s_X4_same_24, s_X4_same_25, s_X4_same_26, s_X4_same_27, s_X4_same_31, s_X4_same_33, s_X4_same_36, s_X4_same_37, s_X4_same_40, s_X4_same_41, s_X4_same_42, s_X4_same_43, s_X4_same_46, s_X4_same_47, s_X4_same_49, s_X4_same_50, s_X4_same_54, s_X4_same_55, s_X4_same_56, s_X4_same_57, s_X4_same_60, s_X4_same_62, s_X4_same_65, s_X4_same_66, s_X4_same_69, s_X4_same_72, s_X4_same_73, s_X4_same_74, s_X4_same_75, s_X4_same_77, s_X4_same_79, s_X4_same_80, s_X4_same_81, s_X4_same_83, s_X4_same_84, s_X4_same_85, s_X4_same_88, s_X4_same_89, s_X4_same_90, s_X4_same_91, s_X4_same_94, s_X4_same_97, s_X4_same_98, s_X4_same_99, s_X4_same_101, s_X4_same_102, s_X4_same_103, s_X4_same_106, s_X4_same_107, s_X4_same_110, s_X4_same_111, s_X4_same_113, s_X4_same_116, s_X4_same_119, s_X4_same_121, s_X4_same_124, s_X4_same_126, s_X4_same_127, s_X4_same_130, s_X4_same_133, s_X4_same_134, if_true, if_false, and_true, true_and, and_false, false_and, true_or, or_true, or_false, false_or, eq_self, not_true_eq_false, not_false_eq_true, zv_int, zv_ref, zv_null, zv_none, hK_sI, hF_sI, hJ_sI, hN_sI, hZ_sI, hI_sI_same, hK_sJ, hF_sJ, hI_sJ, hN_sJ, hZ_sJ, hJ_sJ_same, hK_sF, hI_sF, hJ_sF, hN_sF, hZ_sF, Option.bind_some, Option.toList_some, Option.toList_none, List.cons_append, List.nil_append, zq_ref, zq_null, cond_false, nI_1]
      exact lp_same L hq hr hf hg ho hn k (t + 1) _ _ (by omega)
theorem lp_munl_in {q n t : Nat} {f : Nat → Int32} (L : Lay b h) (hq : q < 24) (hf : f = fun p => hI h (b + 77) (144 * q + p)) (ho : hI h (b + 76) q = nI n) (hb : bd f (n * n)) (hn : 1 ≤ n ∧ n ≤ 12) (ht : t < 8) {v2 : Option Value} : ∀ (k u : Nat) (w : Bool), u + k = t → zl E (d + 2) kX4_unlike 27 [some (.ref (b + 70)), some (.int (nI q)), v2, some (.int (nI t)), some (.int (if w = true then 1 else 0)), some (.int (nI u))] [] h = zl E (d + 2) kX4_unlike 62 [some (.ref (b + 70)), some (.int (nI q)), v2, some (.int (nI t)), some (.int (if (w && !an (er f n t) k u) = true then 1 else 0)), some (.int (nI t))] [] h
  | 0, u, w, e => by
    have : u = t := by omega
    subst this
    rw [s_X4_unlike_27]
    cases w <;> simp (decide := true) only [s_X4_unlike_0, s_X4_unlike_1, s_X4_unlike_2, s_X4_unlike_5, s_X4_unlike_8, s_X4_unlike_10, s_X4_unlike_11, s_X4_unlike_12, s_X4_unlike_13, s_X4_unlike_14, s_X4_unlike_16, s_X4_unlike_18, s_X4_unlike_21, s_X4_unlike_22, s_X4_unlike_24, s_X4_unlike_25, s_X4_unlike_29, s_X4_unlike_30, s_X4_unlike_33, s_X4_unlike_35, s_X4_unlike_38, s_X4_unlike_39, s_X4_unlike_40, s_X4_unlike_41, s_X4_unlike_43, s_X4_unlike_46, s_X4_unlike_49, s_X4_unlike_50, s_X4_unlike_53, s_X4_unlike_54, s_X4_unlike_56, s_X4_unlike_59, s_X4_unlike_63, s_X4_unlike_65, s_X4_unlike_68, s_X4_unlike_69, s_X4_unlike_72, s_X4_unlike_73, s_X4_unlike_74, s_X4_unlike_75, s_X4_unlike_78, s_X4_unlike_81, s_X4_unlike_82, if_true, if_false, and_true, true_and, and_false, false_and, true_or, or_true, or_false, false_or, eq_self, not_true_eq_false, not_false_eq_true, zv_int, zv_ref, zv_null, zv_none, hK_sI, hF_sI, hJ_sI, hN_sI, hZ_sI, hI_sI_same, hK_sJ, hF_sJ, hI_sJ, hN_sJ, hZ_sJ, hJ_sJ_same, hK_sF, hI_sF, hJ_sF, hN_sF, hZ_sF, Option.bind_some, Option.toList_some, Option.toList_none, List.cons_append, List.nil_append, zq_ref, zq_null, an, Int32.le_refl, Bool.not_false, Bool.and_true]
  | k + 1, u, w, e => by
    have q1 : ¬ nI t ≤ nI u := nI_ge (by omega) (by omega)
    have e1 := c_X4_compared (E := E) (d := d) L hq hf ho hb hn ht (show u < 8 by omega)
    have ih := fun w => lp_munl_in L hq hf ho hb hn ht (v2 := v2) k (u + 1) w (by omega)
    rw [s_X4_unlike_27]
    unfold an er
    cases w with
    | false =>
      simp (decide := true) only [s_X4_unlike_0, s_X4_unlike_1, s_X4_unlike_2, s_X4_unlike_5, s_X4_unlike_8, s_X4_unlike_10, s_X4_unlike_11, s_X4_unlike_12, s_X4_unlike_13, s_X4_unlike_14, s_X4_unlike_16, s_X4_unlike_18, s_X4_unlike_21, s_X4_unlike_22, s_X4_unlike_24, s_X4_unlike_25, s_X4_unlike_29, s_X4_unlike_30, s_X4_unlike_33, s_X4_unlike_35, s_X4_unlike_38, s_X4_unlike_39, s_X4_unlike_40, s_X4_unlike_41, s_X4_unlike_43, s_X4_unlike_46, s_X4_unlike_49, s_X4_unlike_50, s_X4_unlike_53, s_X4_unlike_54, s_X4_unlike_56, s_X4_unlike_59, s_X4_unlike_63, s_X4_unlike_65, s_X4_unlike_68, s_X4_unlike_69, s_X4_unlike_72, s_X4_unlike_73, s_X4_unlike_74, s_X4_unlike_75, s_X4_unlike_78, s_X4_unlike_81, s_X4_unlike_82, if_true, if_false, and_true, true_and, and_false, false_and, true_or, or_true, or_false, false_or, eq_self, not_true_eq_false, not_false_eq_true, zv_int, zv_ref, zv_null, zv_none, hK_sI, hF_sI, hJ_sI, hN_sI, hZ_sI, hI_sI_same, hK_sJ, hF_sJ, hI_sJ, hN_sJ, hZ_sJ, hJ_sJ_same, hK_sF, hI_sF, hJ_sF, hN_sF, hZ_sF, Option.bind_some, Option.toList_some, Option.toList_none, List.cons_append, List.nil_append, zq_ref, zq_null, q1, nI_1, Bool.false_and]
      exact (ih false).trans (by simp (decide := true) only [Bool.false_and, if_false])
    | true =>
      by_cases qq : lcm f f n t u = 0
      · simp (decide := true) only [s_X4_unlike_0, s_X4_unlike_1, s_X4_unlike_2, s_X4_unlike_5, s_X4_unlike_8, s_X4_unlike_10, s_X4_unlike_11, s_X4_unlike_12, s_X4_unlike_13, s_X4_unlike_14, s_X4_unlike_16, s_X4_unlike_18, s_X4_unlike_21, s_X4_unlike_22, s_X4_unlike_24, s_X4_unlike_25, s_X4_unlike_29, s_X4_unlike_30, s_X4_unlike_33, s_X4_unlike_35, s_X4_unlike_38, s_X4_unlike_39, s_X4_unlike_40, s_X4_unlike_41, s_X4_unlike_43, s_X4_unlike_46, s_X4_unlike_49, s_X4_unlike_50, s_X4_unlike_53, s_X4_unlike_54, s_X4_unlike_56, s_X4_unlike_59, s_X4_unlike_63, s_X4_unlike_65, s_X4_unlike_68, s_X4_unlike_69, s_X4_unlike_72, s_X4_unlike_73, s_X4_unlike_74, s_X4_unlike_75, s_X4_unlike_78, s_X4_unlike_81, s_X4_unlike_82, if_true, if_false, and_true, true_and, and_false, false_and, true_or, or_true, or_false, false_or, eq_self, not_true_eq_false, not_false_eq_true, zv_int, zv_ref, zv_null, zv_none, hK_sI, hF_sI, hJ_sI, hN_sI, hZ_sI, hI_sI_same, hK_sJ, hF_sJ, hI_sJ, hN_sJ, hZ_sJ, hJ_sJ_same, hK_sF, hI_sF, hJ_sF, hN_sF, hZ_sF, Option.bind_some, Option.toList_some, Option.toList_none, List.cons_append, List.nil_append, zq_ref, zq_null, L.k70, q1, e1, qq, nI_1, decide_true, Bool.true_or, Bool.not_true, Bool.true_and, Bool.and_false]
        exact (ih false).trans (by simp (decide := true) only [Bool.false_and, if_false])
      · simp (decide := true) only [s_X4_unlike_0, s_X4_unlike_1, s_X4_unlike_2, s_X4_unlike_5, s_X4_unlike_8, s_X4_unlike_10, s_X4_unlike_11, s_X4_unlike_12, s_X4_unlike_13, s_X4_unlike_14, s_X4_unlike_16, s_X4_unlike_18, s_X4_unlike_21, s_X4_unlike_22, s_X4_unlike_24, s_X4_unlike_25, s_X4_unlike_29, s_X4_unlike_30, s_X4_unlike_33, s_X4_unlike_35, s_X4_unlike_38, s_X4_unlike_39, s_X4_unlike_40, s_X4_unlike_41, s_X4_unlike_43, s_X4_unlike_46, s_X4_unlike_49, s_X4_unlike_50, s_X4_unlike_53, s_X4_unlike_54, s_X4_unlike_56, s_X4_unlike_59, s_X4_unlike_63, s_X4_unlike_65, s_X4_unlike_68, s_X4_unlike_69, s_X4_unlike_72, s_X4_unlike_73, s_X4_unlike_74, s_X4_unlike_75, s_X4_unlike_78, s_X4_unlike_81, s_X4_unlike_82, if_true, if_false, and_true, true_and, and_false, false_and, true_or, or_true, or_false, false_or, eq_self, not_true_eq_false, not_false_eq_true, zv_int, zv_ref, zv_null, zv_none, hK_sI, hF_sI, hJ_sI, hN_sI, hZ_sI, hI_sI_same, hK_sJ, hF_sJ, hI_sJ, hN_sJ, hZ_sJ, hJ_sJ_same, hK_sF, hI_sF, hJ_sF, hN_sF, hZ_sF, Option.bind_some, Option.toList_some, Option.toList_none, List.cons_append, List.nil_append, zq_ref, zq_null, L.k70, q1, e1, qq, nI_1, decide_false, Bool.false_or]
        exact ih true
theorem lp_munl {q n : Nat} {f : Nat → Int32} (L : Lay b h) (hq : q < 24) (hf : f = fun p => hI h (b + 77) (144 * q + p)) (ho : hI h (b + 76) q = nI n) (hb : bd f (n * n)) (hn : 1 ≤ n ∧ n ≤ 12) : ∀ (k t c : Nat) (v4 v5 : Option Value), t + k = 8 → zl E (d + 2) kX4_unlike 15 [some (.ref (b + 70)), some (.int (nI q)), some (.int (nI c)), some (.int (nI t)), v4, v5] [] h = some (some (.int (nI (c + cn (unp f n) k t))), h)
  | 0, t, c, v4, v5, e => by
    have : t = 8 := by omega
    subst this
    rw [s_X4_unlike_15]
    simp (decide := true) only [s_X4_unlike_0, s_X4_unlike_1, s_X4_unlike_2, s_X4_unlike_5, s_X4_unlike_8, s_X4_unlike_10, s_X4_unlike_11, s_X4_unlike_12, s_X4_unlike_13, s_X4_unlike_14, s_X4_unlike_16, s_X4_unlike_18, s_X4_unlike_21, s_X4_unlike_22, s_X4_unlike_24, s_X4_unlike_25, s_X4_unlike_29, s_X4_unlike_30, s_X4_unlike_33, s_X4_unlike_35, s_X4_unlike_38, s_X4_unlike_39, s_X4_unlike_40, s_X4_unlike_41, s_X4_unlike_43, s_X4_unlike_46, s_X4_unlike_49, s_X4_unlike_50, s_X4_unlike_53, s_X4_unlike_54, s_X4_unlike_56, s_X4_unlike_59, s_X4_unlike_62, s_X4_unlike_63, s_X4_unlike_65, s_X4_unlike_68, s_X4_unlike_69, s_X4_unlike_72, s_X4_unlike_73, s_X4_unlike_74, s_X4_unlike_75, s_X4_unlike_78, s_X4_unlike_81, s_X4_unlike_82, if_true, if_false, and_true, true_and, and_false, false_and, true_or, or_true, or_false, false_or, eq_self, not_true_eq_false, not_false_eq_true, zv_int, zv_ref, zv_null, zv_none, hK_sI, hF_sI, hJ_sI, hN_sI, hZ_sI, hI_sI_same, hK_sJ, hF_sJ, hI_sJ, hN_sJ, hZ_sJ, hJ_sJ_same, hK_sF, hI_sF, hJ_sF, hN_sF, hZ_sF, Option.bind_some, Option.toList_some, Option.toList_none, List.cons_append, List.nil_append, zq_ref, zq_null, cn, Nat.add_zero]
  | k + 1, t, c, v4, v5, e => by
    have q1 : ¬ 8 ≤ nI t := nI_ge (b := 8) (by omega) (by decide)
    have e1 := lp_munl_in (E := E) (d := d) L hq hf ho hb hn (show t < 8 by omega) (v2 := some (.int (nI c))) t 0 true (by omega)
    rw [s_X4_unlike_15]
    simp only [s_X4_unlike_0, s_X4_unlike_1, s_X4_unlike_2, s_X4_unlike_5, s_X4_unlike_8, s_X4_unlike_10, s_X4_unlike_11, s_X4_unlike_12, s_X4_unlike_13, s_X4_unlike_14, s_X4_unlike_16, s_X4_unlike_18, s_X4_unlike_21, s_X4_unlike_22, s_X4_unlike_24, s_X4_unlike_25, s_X4_unlike_29, s_X4_unlike_30, s_X4_unlike_33, s_X4_unlike_35, s_X4_unlike_38, s_X4_unlike_39, s_X4_unlike_40, s_X4_unlike_41, s_X4_unlike_43, s_X4_unlike_46, s_X4_unlike_49, s_X4_unlike_50, s_X4_unlike_53, s_X4_unlike_54, s_X4_unlike_56, s_X4_unlike_59, s_X4_unlike_63, s_X4_unlike_65, s_X4_unlike_68, s_X4_unlike_69, s_X4_unlike_72, s_X4_unlike_73, s_X4_unlike_74, s_X4_unlike_75, s_X4_unlike_78, s_X4_unlike_81, s_X4_unlike_82, if_true, if_false, and_true, true_and, and_false, false_and, true_or, or_true, or_false, false_or, eq_self, not_true_eq_false, not_false_eq_true, zv_int, zv_ref, zv_null, zv_none, hK_sI, hF_sI, hJ_sI, hN_sI, hZ_sI, hI_sI_same, hK_sJ, hF_sJ, hI_sJ, hN_sJ, hZ_sJ, hJ_sJ_same, hK_sF, hI_sF, hJ_sF, hN_sF, hZ_sF, Option.bind_some, Option.toList_some, Option.toList_none, List.cons_append, List.nil_append, zq_ref, zq_null, q1]
    rw [if_pos rfl] at e1
    rw [nI_0] at e1
    rw [e1, Bool.true_and]
    unfold cn unp
    cases qq : an (er f n t) t 0 with
    | true =>
      simp (decide := true) only [s_X4_unlike_0, s_X4_unlike_1, s_X4_unlike_2, s_X4_unlike_5, s_X4_unlike_8, s_X4_unlike_10, s_X4_unlike_11, s_X4_unlike_12, s_X4_unlike_13, s_X4_unlike_14, s_X4_unlike_16, s_X4_unlike_18, s_X4_unlike_21, s_X4_unlike_22, s_X4_unlike_24, s_X4_unlike_25, s_X4_unlike_29, s_X4_unlike_30, s_X4_unlike_33, s_X4_unlike_35, s_X4_unlike_38, s_X4_unlike_39, s_X4_unlike_40, s_X4_unlike_41, s_X4_unlike_43, s_X4_unlike_46, s_X4_unlike_49, s_X4_unlike_50, s_X4_unlike_53, s_X4_unlike_54, s_X4_unlike_56, s_X4_unlike_59, s_X4_unlike_62, s_X4_unlike_63, s_X4_unlike_65, s_X4_unlike_68, s_X4_unlike_69, s_X4_unlike_72, s_X4_unlike_73, s_X4_unlike_74, s_X4_unlike_75, s_X4_unlike_78, s_X4_unlike_81, s_X4_unlike_82, if_true, if_false, and_true, true_and, and_false, false_and, true_or, or_true, or_false, false_or, eq_self, not_true_eq_false, not_false_eq_true, zv_int, zv_ref, zv_null, zv_none, hK_sI, hF_sI, hJ_sI, hN_sI, hZ_sI, hI_sI_same, hK_sJ, hF_sJ, hI_sJ, hN_sJ, hZ_sJ, hJ_sJ_same, hK_sF, hI_sF, hJ_sF, hN_sF, hZ_sF, Option.bind_some, Option.toList_some, Option.toList_none, List.cons_append, List.nil_append, zq_ref, zq_null, nI_1, Bool.not_true, cond_false, Nat.zero_add, Int32.add_zero]
      exact lp_munl L hq hf ho hb hn k (t + 1) c _ _ (by omega)
    | false =>
      simp (decide := true) only [s_X4_unlike_0, s_X4_unlike_1, s_X4_unlike_2, s_X4_unlike_5, s_X4_unlike_8, s_X4_unlike_10, s_X4_unlike_11, s_X4_unlike_12, s_X4_unlike_13, s_X4_unlike_14, s_X4_unlike_16, s_X4_unlike_18, s_X4_unlike_21, s_X4_unlike_22, s_X4_unlike_24, s_X4_unlike_25, s_X4_unlike_29, s_X4_unlike_30, s_X4_unlike_33, s_X4_unlike_35, s_X4_unlike_38, s_X4_unlike_39, s_X4_unlike_40, s_X4_unlike_41, s_X4_unlike_43, s_X4_unlike_46, s_X4_unlike_49, s_X4_unlike_50, s_X4_unlike_53, s_X4_unlike_54, s_X4_unlike_56, s_X4_unlike_59, s_X4_unlike_62, s_X4_unlike_63, s_X4_unlike_65, s_X4_unlike_68, s_X4_unlike_69, s_X4_unlike_72, s_X4_unlike_73, s_X4_unlike_74, s_X4_unlike_75, s_X4_unlike_78, s_X4_unlike_81, s_X4_unlike_82, if_true, if_false, and_true, true_and, and_false, false_and, true_or, or_true, or_false, false_or, eq_self, not_true_eq_false, not_false_eq_true, zv_int, zv_ref, zv_null, zv_none, hK_sI, hF_sI, hJ_sI, hN_sI, hZ_sI, hI_sI_same, hK_sJ, hF_sJ, hI_sJ, hN_sJ, hZ_sJ, hJ_sJ_same, hK_sF, hI_sF, hJ_sF, hN_sF, hZ_sF, Option.bind_some, Option.toList_some, Option.toList_none, List.cons_append, List.nil_append, zq_ref, zq_null, nI_1, Bool.not_false, cond_true]
      rw [← Nat.add_assoc]
      exact lp_munl L hq hf ho hb hn k (t + 1) (c + 1) _ _ (by omega)
end
