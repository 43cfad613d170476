/-! ===== what the reference makes ===== -/
section
variable {E : mE} {d : Nat} {h : mH} {b : Nat}
theorem if_cgl {P Q : Prop} [Decidable P] [Decidable Q] (e : P ↔ Q) {x y : Int64} : (if P then x else y) = if Q then x else y := by
  by_cases p : P
  · rw [if_pos p, if_pos (e.1 p)]
  · rw [if_neg p, if_neg (fun q => p (e.2 q))]
def bkl (G z : Nat → Int64) (N m I J k l : Nat) (p : Nat) : Int64 := if p / N / m = I ∧ p % N / m = J ∧ (p / N % m < k ∨ (p / N % m = k ∧ p % N % m < l)) then G p else z p
theorem bkl_0 (G z : Nat → Int64) (N m I J : Nat) : bkl G z N m I J 0 0 = z := by
  funext p
  unfold bkl
  rw [if_neg (by omega)]
theorem bkl_r {G z : Nat → Int64} {N m I J k : Nat} (hm : 0 < m) : bkl G z N m I J k m = bkl G z N m I J (k + 1) 0 := by
  funext p
  unfold bkl
  have := Nat.mod_lt (p % N) hm
  have e : (p / N % m < k ∨ (p / N % m = k ∧ p % N % m < m)) ↔ (p / N % m < k + 1 ∨ (p / N % m = k + 1 ∧ p % N % m < 0)) := by omega
  exact if_cgl (and_congr Iff.rfl (and_congr Iff.rfl e))
theorem bkl_s {G z : Nat → Int64} {N m I J k l : Nat} (hk : k < m) (hl : l < m) (hN : m * J + l < N) : vp_updL (bkl G z N m I J k l) ((m * I + k) * N + (m * J + l)) (G ((m * I + k) * N + (m * J + l))) = bkl G z N m I J k (l + 1) := by
  funext p
  by_cases c : p = (m * I + k) * N + (m * J + l)
  · have a1 := dv2 (i := m * I + k) hN
    have a2 := dv (I := I) hk
    have a3 := dv (I := J) hl
    have e1 : bkl G z N m I J k (l + 1) p = G p := by
      unfold bkl
      rw [if_pos]
      rw [c, a1.1, a1.2, a2.1, a2.2, a3.1, a3.2]
      exact ⟨rfl, rfl, Or.inr ⟨rfl, by omega⟩⟩
    rw [e1]
    unfold vp_updL
    rw [if_pos c, c]
  · have e0 : vp_updL (bkl G z N m I J k l) ((m * I + k) * N + (m * J + l)) (G ((m * I + k) * N + (m * J + l))) p = bkl G z N m I J k l p := by
      unfold vp_updL; rw [if_neg c]
    rw [e0]
    unfold bkl
    have key : ¬ (p / N / m = I ∧ p % N / m = J ∧ p / N % m = k ∧ p % N % m = l) := by
      intro ⟨b1, b2, b3, b4⟩
      apply c
      have d1 := Nat.div_add_mod p N
      have d2 := Nat.div_add_mod (p / N) m
      have d3 := Nat.div_add_mod (p % N) m
      rw [b1, b3] at d2
      rw [b2, b4] at d3
      rw [d2, d3, Nat.mul_comm]
      exact d1.symm
    have e : (p / N / m = I ∧ p % N / m = J ∧ (p / N % m < k ∨ (p / N % m = k ∧ p % N % m < l))) ↔ (p / N / m = I ∧ p % N / m = J ∧ (p / N % m < k ∨ (p / N % m = k ∧ p % N % m < l + 1))) := by
      constructor
      · intro ⟨b1, b2, b3⟩
        exact ⟨b1, b2, by omega⟩
      · intro ⟨b1, b2, b3⟩
        refine ⟨b1, b2, ?_⟩
        rcases b3 with b3 | b3
        · exact Or.inl b3
        · by_cases q : p % N % m = l
          · exact absurd ⟨b1, b2, b3.1, q⟩ key
          · exact Or.inr ⟨b3.1, by omega⟩
    exact if_cgl e
def pgl (H z : Nat → Int64) (N m I J p : Nat) : Int64 := if p / N / m < I ∨ (p / N / m = I ∧ p % N / m < J) then H p else z p
theorem pgl_0 (H z : Nat → Int64) (N m : Nat) : pgl H z N m 0 0 = z := by
  funext p
  unfold pgl
  rw [if_neg (fun q => q.elim (fun x => absurd x (Nat.not_lt_zero _)) (fun x => absurd x.2 (Nat.not_lt_zero _)))]
theorem pgl_r {H z : Nat → Int64} {n N m I : Nat} (hN : N = n * m) (hn : 0 < n) (hm : 0 < m) : pgl H z N m I n = pgl H z N m (I + 1) 0 := by
  funext p
  unfold pgl
  have h1 : p % N < N := Nat.mod_lt _ (by rw [hN]; exact Nat.mul_pos hn hm)
  have h2 : p % N / m < n := Nat.div_lt_of_lt_mul (Nat.lt_of_lt_of_eq h1 (by rw [hN]; exact Nat.mul_comm n m))
  exact if_cgl (by
    clear h1
    revert h2
    generalize p / N / m = A
    generalize p % N / m = B
    omega)
theorem pgl_s {G H z : Nat → Int64} {N m I J : Nat} (hm : 0 < m) (e : ∀ p, p / N / m = I → p % N / m = J → G p = H p) : bkl G (pgl H z N m I J) N m I J m 0 = pgl H z N m I (J + 1) := by
  funext p
  unfold bkl
  have h1 := Nat.mod_lt (p / N) hm
  by_cases c : p / N / m = I ∧ p % N / m = J
  · rw [if_pos ⟨c.1, c.2, Or.inl h1⟩]
    unfold pgl
    rw [if_pos (Or.inr ⟨c.1, Nat.lt_of_le_of_lt (Nat.le_of_eq c.2) (Nat.lt_succ_self J)⟩), e p c.1 c.2]
  · rw [if_neg (fun q => c ⟨q.1, q.2.1⟩)]
    unfold pgl
    exact if_cgl (by
      clear h1
      revert c
      generalize p / N / m = A
      generalize p % N / m = B
      omega)
theorem pgl_in {H z : Nat → Int64} {n N m p : Nat} (hN : N = n * m) (hp : p < N * N) : pgl H z N m n 0 p = H p := by
  unfold pgl
  rw [if_pos]
  left
  have h1 : p / N < N := Nat.div_lt_of_lt_mul hp
  exact Nat.div_lt_of_lt_mul (Nat.lt_of_lt_of_eq h1 (by rw [hN]; exact Nat.mul_comm n m))
theorem lp_mk1 {n : Nat} {z : Nat → Int64} {v3 v4 : Option Value} (L : Lay b h) (hn : n ≤ 12) : ∀ (k p : Nat), p + k = n * n → zl E d kX4_make 39 [some (.ref (b + 70)), some (.int (nI n)), some (.int (nI p)), v3, v4] [] (sJ h (b + 78) (rl (fun p => (hI h (b + 80) p).toInt64) z p)) = zl E d kX4_make 143 [some (.ref (b + 70)), some (.int (nI n)), some (.int (nI (n * n))), v3, v4] [] (sJ h (b + 78) (rl (fun p => (hI h (b + 80) p).toInt64) z (n * n)))
  | 0, p, e => by
    have : p = n * n := by omega
    subst this
    rw [s_X4_make_39]
    simp only [s_X4_make_0, s_X4_make_1, s_X4_make_2, s_X4_make_3, s_X4_make_6, s_X4_make_9, s_X4_make_12, s_X4_make_13, s_X4_make_14, s_X4_make_17, s_X4_make_19, s_X4_make_20, s_X4_make_21, s_X4_make_22, s_X4_make_25, s_X4_make_26, s_X4_make_27, s_X4_make_28, s_X4_make_29, s_X4_make_32, s_X4_make_33, s_X4_make_34, s_X4_make_37, s_X4_make_38, s_X4_make_40, s_X4_make_41, s_X4_make_42, s_X4_make_43, s_X4_make_46, s_X4_make_47, s_X4_make_50, s_X4_make_51, s_X4_make_52, s_X4_make_55, s_X4_make_56, s_X4_make_57, s_X4_make_58, s_X4_make_59, s_X4_make_62, s_X4_make_65, s_X4_make_68, s_X4_make_69, s_X4_make_70, s_X4_make_71, s_X4_make_74, s_X4_make_75, s_X4_make_77, s_X4_make_78, s_X4_make_79, s_X4_make_80, s_X4_make_83, s_X4_make_84, s_X4_make_85, s_X4_make_86, s_X4_make_87, s_X4_make_88, s_X4_make_89, s_X4_make_90, s_X4_make_91, s_X4_make_92, s_X4_make_93, s_X4_make_94, s_X4_make_96, s_X4_make_97, s_X4_make_100, s_X4_make_101, s_X4_make_102, s_X4_make_104, s_X4_make_107, s_X4_make_108, s_X4_make_110, s_X4_make_111, s_X4_make_112, s_X4_make_115, s_X4_make_116, s_X4_make_117, s_X4_make_118, s_X4_make_119, s_X4_make_120, s_X4_make_121, s_X4_make_124, s_X4_make_125, s_X4_make_126, s_X4_make_127, s_X4_make_128, s_X4_make_129, s_X4_make_132, s_X4_make_135, s_X4_make_138, s_X4_make_139, s_X4_make_140, s_X4_make_144, s_X4_make_147, if_true, if_false, and_true, true_and, and_false, false_and, true_or, or_true, or_false, false_or, eq_self, not_true_eq_false, not_false_eq_true, zv_int, zv_ref, zv_null, zv_none, hK_sI, hF_sI, hJ_sI, hN_sI, hZ_sI, hI_sI_same, hK_sJ, hF_sJ, hI_sJ, hN_sJ, hZ_sJ, hJ_sJ_same, hK_sF, hI_sF, hJ_sF, hN_sF, hZ_sF, Option.bind_some, Option.toList_some, Option.toList_none, List.cons_append, List.nil_append, zq_ref, zq_null, pk_mul, Int32.le_refl]
  | k + 1, p, e => by
    have qn : n * n ≤ 144 := Nat.mul_le_mul hn hn
    have q1 : ¬ nI (n * n) ≤ nI p := nI_ge (by omega) (by omega)
    have z0 : zR (nI p) 144 := zR_to (by decide) (by omega)
    have z1 : (nI p).toNatClampNeg = p := nI_clamp (by omega)
    rw [s_X4_make_39]
    simp only [s_X4_make_0, s_X4_make_1, s_X4_make_2, s_X4_make_3, s_X4_make_6, s_X4_make_9, s_X4_make_12, s_X4_make_13, s_X4_make_14, s_X4_make_17, s_X4_make_19, s_X4_make_20, s_X4_make_21, s_X4_make_22, s_X4_make_25, s_X4_make_26, s_X4_make_27, s_X4_make_28, s_X4_make_29, s_X4_make_32, s_X4_make_33, s_X4_make_34, s_X4_make_37, s_X4_make_38, s_X4_make_40, s_X4_make_41, s_X4_make_42, s_X4_make_43, s_X4_make_46, s_X4_make_47, s_X4_make_50, s_X4_make_51, s_X4_make_52, s_X4_make_55, s_X4_make_56, s_X4_make_57, s_X4_make_58, s_X4_make_59, s_X4_make_62, s_X4_make_65, s_X4_make_68, s_X4_make_69, s_X4_make_70, s_X4_make_71, s_X4_make_74, s_X4_make_75, s_X4_make_77, s_X4_make_78, s_X4_make_79, s_X4_make_80, s_X4_make_83, s_X4_make_84, s_X4_make_85, s_X4_make_86, s_X4_make_87, s_X4_make_88, s_X4_make_89, s_X4_make_90, s_X4_make_91, s_X4_make_92, s_X4_make_93, s_X4_make_94, s_X4_make_96, s_X4_make_97, s_X4_make_100, s_X4_make_101, s_X4_make_102, s_X4_make_104, s_X4_make_107, s_X4_make_108, s_X4_make_110, s_X4_make_111, s_X4_make_112, s_X4_make_115, s_X4_make_116, s_X4_make_117, s_X4_make_118, s_X4_make_119, s_X4_make_120, s_X4_make_121, s_X4_make_124, s_X4_make_125, s_X4_make_126, s_X4_make_127, s_X4_make_128, s_X4_make_129, s_X4_make_132, s_X4_make_135, s_X4_make_138, s_X4_make_139, s_X4_make_140, s_X4_make_144, s_X4_make_147, if_true, if_false, and_true, true_and, and_false, false_and, true_or, or_true, or_false, false_or, eq_self, not_true_eq_false, not_false_eq_true, zv_int, zv_ref, zv_null, zv_none, hK_sI, hF_sI, hJ_sI, hN_sI, hZ_sI, hI_sI_same, hK_sJ, hF_sJ, hI_sJ, hN_sJ, hZ_sJ, hJ_sJ_same, hK_sF, hI_sF, hJ_sF, hN_sF, hZ_sF, Option.bind_some, Option.toList_some, Option.toList_none, List.cons_append, List.nil_append, zq_ref, zq_null, L.k70, L.p70_9, L.p70_11, L.k78, L.k80, pk_mul, q1, z0, z1, sJ_sJ, rl_s (fun p => (hI h (b + 80) p).toInt64), nI_1]
    exact lp_mk1 L hn k (p + 1) (by omega)
theorem lp_mk2 {n : Nat} {z : Nat → Int64} (L : Lay b h) (hn : 1 ≤ n ∧ n ≤ 12) : ∀ (k p : Nat) (v3 v4 : Option Value), p + k = n * n → ∃ w3 w4, zl E d kX4_make 76 [some (.ref (b + 70)), some (.int (nI n)), some (.int (nI p)), v3, v4] [] (sJ h (b + 78) (rl (fun p => (ffr n p).toInt64) z p)) = zl E d kX4_make 143 [some (.ref (b + 70)), some (.int (nI n)), some (.int (nI (n * n))), w3, w4] [] (sJ h (b + 78) (rl (fun p => (ffr n p).toInt64) z (n * n)))
  | 0, p, v3, v4, e => by
    have : p = n * n := by omega
    subst this
    refine ⟨v3, v4, ?_⟩
    rw [s_X4_make_76]
    simp only [s_X4_make_0, s_X4_make_1, s_X4_make_2, s_X4_make_3, s_X4_make_6, s_X4_make_9, s_X4_make_12, s_X4_make_13, s_X4_make_14, s_X4_make_17, s_X4_make_19, s_X4_make_20, s_X4_make_21, s_X4_make_22, s_X4_make_25, s_X4_make_26, s_X4_make_27, s_X4_make_28, s_X4_make_29, s_X4_make_32, s_X4_make_33, s_X4_make_34, s_X4_make_37, s_X4_make_38, s_X4_make_40, s_X4_make_41, s_X4_make_42, s_X4_make_43, s_X4_make_46, s_X4_make_47, s_X4_make_50, s_X4_make_51, s_X4_make_52, s_X4_make_55, s_X4_make_56, s_X4_make_57, s_X4_make_58, s_X4_make_59, s_X4_make_62, s_X4_make_65, s_X4_make_68, s_X4_make_69, s_X4_make_70, s_X4_make_71, s_X4_make_74, s_X4_make_75, s_X4_make_77, s_X4_make_78, s_X4_make_79, s_X4_make_80, s_X4_make_83, s_X4_make_84, s_X4_make_85, s_X4_make_86, s_X4_make_87, s_X4_make_88, s_X4_make_89, s_X4_make_90, s_X4_make_91, s_X4_make_92, s_X4_make_93, s_X4_make_94, s_X4_make_96, s_X4_make_97, s_X4_make_100, s_X4_make_101, s_X4_make_102, s_X4_make_104, s_X4_make_107, s_X4_make_108, s_X4_make_110, s_X4_make_111, s_X4_make_112, s_X4_make_115, s_X4_make_116, s_X4_make_117, s_X4_make_118, s_X4_make_119, s_X4_make_120, s_X4_make_121, s_X4_make_124, s_X4_make_125, s_X4_make_126, s_X4_make_127, s_X4_make_128, s_X4_make_129, s_X4_make_132, s_X4_make_135, s_X4_make_138, s_X4_make_139, s_X4_make_140, s_X4_make_144, s_X4_make_147, if_true, if_false, and_true, true_and, and_false, false_and, true_or, or_true, or_false, false_or, eq_self, not_true_eq_false, not_false_eq_true, zv_int, zv_ref, zv_null, zv_none, hK_sI, hF_sI, hJ_sI, hN_sI, hZ_sI, hI_sI_same, hK_sJ, hF_sJ, hI_sJ, hN_sJ, hZ_sJ, hJ_sJ_same, hK_sF, hI_sF, hJ_sF, hN_sF, hZ_sF, Option.bind_some, Option.toList_some, Option.toList_none, List.cons_append, List.nil_append, zq_ref, zq_null, pk_mul, Int32.le_refl]
  | k + 1, p, v3, v4, e => by
    have qn : n * n ≤ 144 := Nat.mul_le_mul hn.2 hn.2
    have q1 : ¬ nI (n * n) ≤ nI p := nI_ge (by omega) (by omega)
    have z0 : zR (nI p) 144 := zR_to (by decide) (by omega)
    have z1 : (nI p).toNatClampNeg = p := nI_clamp (by omega)
    obtain ⟨n0, hi, hj, d1, r1⟩ := divmod hn.1 hn.2 (show p < n * n by omega)
    have n4 : ¬ (4 : Int32) = 0 := by decide
    have i1 : nI (p / n % 4) = nI (p % n % 4) ↔ p / n % 4 = p % n % 4 := nI_eq (by omega) (by omega)
    have i2 : nI (p / n % 4 + p % n % 4) = 3 ↔ p / n % 4 + p % n % 4 = 3 := nI_eq (b := 3) (by omega) (by omega)
    have dmp : p / n * n + p % n = p := by rw [Nat.mul_comm]; exact Nat.div_add_mod p n
    have s1 : nI (n * n) - nI p = nI (n * n - p) := pk_sub (by omega)
    obtain ⟨w3, w4, ih⟩ := lp_mk2 (z := z) L hn k (p + 1) (some (.int (nI (p / n % 4)))) (some (.int (nI (p % n % 4)))) (by omega)
    refine ⟨w3, w4, ?_⟩
    have e3 := rl_s (fun p => (ffr n p).toInt64) z p
    rw [s_X4_make_76]
    by_cases c1 : p / n % 4 = p % n % 4
    · have e2 : ffr n p = nI (n * n - p) := by unfold ffr ff; rw [if_pos (Or.inl c1), dmp]
      simp only [e2] at e3
      simp only [s_X4_make_0, s_X4_make_1, s_X4_make_2, s_X4_make_3, s_X4_make_6, s_X4_make_9, s_X4_make_12, s_X4_make_13, s_X4_make_14, s_X4_make_17, s_X4_make_19, s_X4_make_20, s_X4_make_21, s_X4_make_22, s_X4_make_25, s_X4_make_26, s_X4_make_27, s_X4_make_28, s_X4_make_29, s_X4_make_32, s_X4_make_33, s_X4_make_34, s_X4_make_37, s_X4_make_38, s_X4_make_40, s_X4_make_41, s_X4_make_42, s_X4_make_43, s_X4_make_46, s_X4_make_47, s_X4_make_50, s_X4_make_51, s_X4_make_52, s_X4_make_55, s_X4_make_56, s_X4_make_57, s_X4_make_58, s_X4_make_59, s_X4_make_62, s_X4_make_65, s_X4_make_68, s_X4_make_69, s_X4_make_70, s_X4_make_71, s_X4_make_74, s_X4_make_75, s_X4_make_77, s_X4_make_78, s_X4_make_79, s_X4_make_80, s_X4_make_83, s_X4_make_84, s_X4_make_85, s_X4_make_86, s_X4_make_87, s_X4_make_88, s_X4_make_89, s_X4_make_90, s_X4_make_91, s_X4_make_92, s_X4_make_93, s_X4_make_94, s_X4_make_96, s_X4_make_97, s_X4_make_100, s_X4_make_101, s_X4_make_102, s_X4_make_104, s_X4_make_107, s_X4_make_108, s_X4_make_110, s_X4_make_111, s_X4_make_112, s_X4_make_115, s_X4_make_116, s_X4_make_117, s_X4_make_118, s_X4_make_119, s_X4_make_120, s_X4_make_121, s_X4_make_124, s_X4_make_125, s_X4_make_126, s_X4_make_127, s_X4_make_128, s_X4_make_129, s_X4_make_132, s_X4_make_135, s_X4_make_138, s_X4_make_139, s_X4_make_140, s_X4_make_144, s_X4_make_147, if_true, if_false, and_true, true_and, and_false, false_and, true_or, or_true, or_false, false_or, eq_self, not_true_eq_false, not_false_eq_true, zv_int, zv_ref, zv_null, zv_none, hK_sI, hF_sI, hJ_sI, hN_sI, hZ_sI, hI_sI_same, hK_sJ, hF_sJ, hI_sJ, hN_sJ, hZ_sJ, hJ_sJ_same, hK_sF, hI_sF, hJ_sF, hN_sF, hZ_sF, Option.bind_some, Option.toList_some, Option.toList_none, List.cons_append, List.nil_append, zq_ref, zq_null, L.k70, L.p70_9, L.k78, pk_mul, q1, z0, z1, n0, n4, d1, r1, rem4 _ (show p / n < 2 ^ 31 by omega), rem4 _ (show p % n < 2 ^ 31 by omega), i1, eq_true c1, s1, sJ_sJ, e3, nI_1]
      exact ih
    · by_cases c2 : p / n % 4 + p % n % 4 = 3
      · have e2 : ffr n p = nI (n * n - p) := by unfold ffr ff; rw [if_pos (Or.inr c2), dmp]
        simp only [e2] at e3
        simp only [s_X4_make_0, s_X4_make_1, s_X4_make_2, s_X4_make_3, s_X4_make_6, s_X4_make_9, s_X4_make_12, s_X4_make_13, s_X4_make_14, s_X4_make_17, s_X4_make_19, s_X4_make_20, s_X4_make_21, s_X4_make_22, s_X4_make_25, s_X4_make_26, s_X4_make_27, s_X4_make_28, s_X4_make_29, s_X4_make_32, s_X4_make_33, s_X4_make_34, s_X4_make_37, s_X4_make_38, s_X4_make_40, s_X4_make_41, s_X4_make_42, s_X4_make_43, s_X4_make_46, s_X4_make_47, s_X4_make_50, s_X4_make_51, s_X4_make_52, s_X4_make_55, s_X4_make_56, s_X4_make_57, s_X4_make_58, s_X4_make_59, s_X4_make_62, s_X4_make_65, s_X4_make_68, s_X4_make_69, s_X4_make_70, s_X4_make_71, s_X4_make_74, s_X4_make_75, s_X4_make_77, s_X4_make_78, s_X4_make_79, s_X4_make_80, s_X4_make_83, s_X4_make_84, s_X4_make_85, s_X4_make_86, s_X4_make_87, s_X4_make_88, s_X4_make_89, s_X4_make_90, s_X4_make_91, s_X4_make_92, s_X4_make_93, s_X4_make_94, s_X4_make_96, s_X4_make_97, s_X4_make_100, s_X4_make_101, s_X4_make_102, s_X4_make_104, s_X4_make_107, s_X4_make_108, s_X4_make_110, s_X4_make_111, s_X4_make_112, s_X4_make_115, s_X4_make_116, s_X4_make_117, s_X4_make_118, s_X4_make_119, s_X4_make_120, s_X4_make_121, s_X4_make_124, s_X4_make_125, s_X4_make_126, s_X4_make_127, s_X4_make_128, s_X4_make_129, s_X4_make_132, s_X4_make_135, s_X4_make_138, s_X4_make_139, s_X4_make_140, s_X4_make_144, s_X4_make_147, if_true, if_false, and_true, true_and, and_false, false_and, true_or, or_true, or_false, false_or, eq_self, not_true_eq_false, not_false_eq_true, zv_int, zv_ref, zv_null, zv_none, hK_sI, hF_sI, hJ_sI, hN_sI, hZ_sI, hI_sI_same, hK_sJ, hF_sJ, hI_sJ, hN_sJ, hZ_sJ, hJ_sJ_same, hK_sF, hI_sF, hJ_sF, hN_sF, hZ_sF, Option.bind_some, Option.toList_some, Option.toList_none, List.cons_append, List.nil_append, zq_ref, zq_null, L.k70, L.p70_9, L.k78, pk_mul, q1, z0, z1, n0, n4, d1, r1, rem4 _ (show p / n < 2 ^ 31 by omega), rem4 _ (show p % n < 2 ^ 31 by omega), i1, eq_false c1, nI_add, i2, eq_true c2, s1, sJ_sJ, e3, nI_1]
        exact ih
      · have e2 : ffr n p = nI (p + 1) := by unfold ffr ff; rw [if_neg (fun q => q.elim c1 c2), dmp]
        simp only [e2] at e3
        simp only [s_X4_make_0, s_X4_make_1, s_X4_make_2, s_X4_make_3, s_X4_make_6, s_X4_make_9, s_X4_make_12, s_X4_make_13, s_X4_make_14, s_X4_make_17, s_X4_make_19, s_X4_make_20, s_X4_make_21, s_X4_make_22, s_X4_make_25, s_X4_make_26, s_X4_make_27, s_X4_make_28, s_X4_make_29, s_X4_make_32, s_X4_make_33, s_X4_make_34, s_X4_make_37, s_X4_make_38, s_X4_make_40, s_X4_make_41, s_X4_make_42, s_X4_make_43, s_X4_make_46, s_X4_make_47, s_X4_make_50, s_X4_make_51, s_X4_make_52, s_X4_make_55, s_X4_make_56, s_X4_make_57, s_X4_make_58, s_X4_make_59, s_X4_make_62, s_X4_make_65, s_X4_make_68, s_X4_make_69, s_X4_make_70, s_X4_make_71, s_X4_make_74, s_X4_make_75, s_X4_make_77, s_X4_make_78, s_X4_make_79, s_X4_make_80, s_X4_make_83, s_X4_make_84, s_X4_make_85, s_X4_make_86, s_X4_make_87, s_X4_make_88, s_X4_make_89, s_X4_make_90, s_X4_make_91, s_X4_make_92, s_X4_make_93, s_X4_make_94, s_X4_make_96, s_X4_make_97, s_X4_make_100, s_X4_make_101, s_X4_make_102, s_X4_make_104, s_X4_make_107, s_X4_make_108, s_X4_make_110, s_X4_make_111, s_X4_make_112, s_X4_make_115, s_X4_make_116, s_X4_make_117, s_X4_make_118, s_X4_make_119, s_X4_make_120, s_X4_make_121, s_X4_make_124, s_X4_make_125, s_X4_make_126, s_X4_make_127, s_X4_make_128, s_X4_make_129, s_X4_make_132, s_X4_make_135, s_X4_make_138, s_X4_make_139, s_X4_make_140, s_X4_make_144, s_X4_make_147, if_true, if_false, and_true, true_and, and_false, false_and, true_or, or_true, or_false, false_or, eq_self, not_true_eq_false, not_false_eq_true, zv_int, zv_ref, zv_null, zv_none, hK_sI, hF_sI, hJ_sI, hN_sI, hZ_sI, hI_sI_same, hK_sJ, hF_sJ, hI_sJ, hN_sJ, hZ_sJ, hJ_sJ_same, hK_sF, hI_sF, hJ_sF, hN_sF, hZ_sF, Option.bind_some, Option.toList_some, Option.toList_none, List.cons_append, List.nil_append, zq_ref, zq_null, L.k70, L.p70_9, L.k78, pk_mul, q1, z0, z1, n0, n4, d1, r1, rem4 _ (show p / n < 2 ^ 31 by omega), rem4 _ (show p % n < 2 ^ 31 by omega), i1, eq_false c1, nI_add, i2, eq_false c2, s1, sJ_sJ, nI_1, e3]
        exact ih
theorem lp_ofL {u0 u1 : Int32} : ∀ (k i v : Nat), i + k = 3 → v < 2 ^ 31 → zl E d kX4_ofLetter 27 [some (.int u0), some (.int u1), some (.int (nI v)), some (.int (nI i))] [] h = some (some (.int (nI (v / 10 ^ k % 10))), h)
  | 0, i, v, e, hv => by
    have : i = 3 := by omega
    subst this
    have n10 : ¬ (10 : Int32) = 0 := by decide
    have r1 : nI v - nI v / 10 * 10 = nI (v % 10) := pk_rem (d := 10) hv (by decide) (by decide)
    rw [s_X4_ofLetter_27]
    simp (decide := true) only [s_X4_ofLetter_0, s_X4_ofLetter_1, s_X4_ofLetter_4, s_X4_ofLetter_7, s_X4_ofLetter_10, s_X4_ofLetter_11, s_X4_ofLetter_12, s_X4_ofLetter_15, s_X4_ofLetter_18, s_X4_ofLetter_21, s_X4_ofLetter_24, s_X4_ofLetter_25, s_X4_ofLetter_26, s_X4_ofLetter_28, s_X4_ofLetter_29, s_X4_ofLetter_32, s_X4_ofLetter_33, s_X4_ofLetter_35, s_X4_ofLetter_36, s_X4_ofLetter_37, s_X4_ofLetter_40, s_X4_ofLetter_43, s_X4_ofLetter_44, s_X4_ofLetter_46, s_X4_ofLetter_47, if_true, if_false, and_true, true_and, and_false, false_and, true_or, or_true, or_false, false_or, eq_self, not_true_eq_false, not_false_eq_true, zv_int, zv_ref, zv_null, zv_none, hK_sI, hF_sI, hJ_sI, hN_sI, hZ_sI, hI_sI_same, hK_sJ, hF_sJ, hI_sJ, hN_sJ, hZ_sJ, hJ_sJ_same, hK_sF, hI_sF, hJ_sF, hN_sF, hZ_sF, Option.bind_some, Option.toList_some, Option.toList_none, List.cons_append, List.nil_append, zq_ref, zq_null, n10, r1, Nat.pow_zero, Nat.div_one]
  | k + 1, i, v, e, hv => by
    have q1 : ¬ 3 ≤ nI i := nI_ge (b := 3) (by omega) (by decide)
    have n10 : ¬ (10 : Int32) = 0 := by decide
    have r1 : nI v / 10 = nI (v / 10) := pk_div (d := 10) (by omega) (by omega) (by omega)
    have ih := lp_ofL (u0 := u0) (u1 := u1) k (i + 1) (v / 10) (by omega) (by omega)
    rw [s_X4_ofLetter_27]
    simp (decide := true) only [s_X4_ofLetter_0, s_X4_ofLetter_1, s_X4_ofLetter_4, s_X4_ofLetter_7, s_X4_ofLetter_10, s_X4_ofLetter_11, s_X4_ofLetter_12, s_X4_ofLetter_15, s_X4_ofLetter_18, s_X4_ofLetter_21, s_X4_ofLetter_24, s_X4_ofLetter_25, s_X4_ofLetter_26, s_X4_ofLetter_28, s_X4_ofLetter_29, s_X4_ofLetter_32, s_X4_ofLetter_33, s_X4_ofLetter_35, s_X4_ofLetter_36, s_X4_ofLetter_37, s_X4_ofLetter_40, s_X4_ofLetter_43, s_X4_ofLetter_44, s_X4_ofLetter_46, s_X4_ofLetter_47, if_true, if_false, and_true, true_and, and_false, false_and, true_or, or_true, or_false, false_or, eq_self, not_true_eq_false, not_false_eq_true, zv_int, zv_ref, zv_null, zv_none, hK_sI, hF_sI, hJ_sI, hN_sI, hZ_sI, hI_sI_same, hK_sJ, hF_sJ, hI_sJ, hN_sJ, hZ_sJ, hJ_sJ_same, hK_sF, hI_sF, hJ_sF, hN_sF, hZ_sF, Option.bind_some, Option.toList_some, Option.toList_none, List.cons_append, List.nil_append, zq_ref, zq_null, q1, n10, r1, nI_1, Nat.pow_succ', ← Nat.div_div_eq_div_mul]
    exact ih
theorem c_X4_ofLetter {k x : Nat} (hk : k < 3) (hx : x < 4) : cal E (d + 1) kX4_ofLetter [.int (nI k), .int (nI x)] h = some (some (.int (lvl k x)), h) := by
  have hv : (if k = 0 then 4123 else if k = 1 then 1423 else 1432) < 2 ^ 31 := by
    repeat' split
    all_goals decide
  have e1 := lp_ofL (E := E) (d := d) (h := h) (u0 := nI k) (u1 := nI x) (3 - x) x (if k = 0 then 4123 else if k = 1 then 1423 else 1432) (by omega) hv
  have e2 : lvl k x = nI ((if k = 0 then 4123 else if k = 1 then 1423 else 1432) / 10 ^ (3 - x) % 10) := by
    have : ∀ k, k < 3 → ∀ x, x < 4 → lvl k x = nI ((if k = 0 then 4123 else if k = 1 then 1423 else 1432) / 10 ^ (3 - x) % 10) := by decide
    exact this k hk x hx
  rw [e2, ← e1]
  match k, hk with
  | 0, _ =>
    have n0 : nI 0 = 0 := rfl
    simp (decide := true) only [e_X4_ofLetter, s_X4_ofLetter_0, s_X4_ofLetter_1, s_X4_ofLetter_4, s_X4_ofLetter_7, s_X4_ofLetter_10, s_X4_ofLetter_11, s_X4_ofLetter_12, s_X4_ofLetter_15, s_X4_ofLetter_18, s_X4_ofLetter_21, s_X4_ofLetter_24, s_X4_ofLetter_25, s_X4_ofLetter_26, s_X4_ofLetter_28, s_X4_ofLetter_29, s_X4_ofLetter_32, s_X4_ofLetter_33, s_X4_ofLetter_35, s_X4_ofLetter_36, s_X4_ofLetter_37, s_X4_ofLetter_40, s_X4_ofLetter_43, s_X4_ofLetter_44, s_X4_ofLetter_46, s_X4_ofLetter_47, if_true, if_false, and_true, true_and, and_false, false_and, true_or, or_true, or_false, false_or, eq_self, not_true_eq_false, not_false_eq_true, zv_int, zv_ref, zv_null, zv_none, hK_sI, hF_sI, hJ_sI, hN_sI, hZ_sI, hI_sI_same, hK_sJ, hF_sJ, hI_sJ, hN_sJ, hZ_sJ, hJ_sJ_same, hK_sF, hI_sF, hJ_sF, hN_sF, hZ_sF, Option.bind_some, Option.toList_some, Option.toList_none, List.cons_append, List.nil_append, zq_ref, zq_null, n0]
    rfl
  | 1, _ =>
    have n1 : nI 1 = 1 := rfl
    simp (decide := true) only [e_X4_ofLetter, s_X4_ofLetter_0, s_X4_ofLetter_1, s_X4_ofLetter_4, s_X4_ofLetter_7, s_X4_ofLetter_10, s_X4_ofLetter_11, s_X4_ofLetter_12, s_X4_ofLetter_15, s_X4_ofLetter_18, s_X4_ofLetter_21, s_X4_ofLetter_24, s_X4_ofLetter_25, s_X4_ofLetter_26, s_X4_ofLetter_28, s_X4_ofLetter_29, s_X4_ofLetter_32, s_X4_ofLetter_33, s_X4_ofLetter_35, s_X4_ofLetter_36, s_X4_ofLetter_37, s_X4_ofLetter_40, s_X4_ofLetter_43, s_X4_ofLetter_44, s_X4_ofLetter_46, s_X4_ofLetter_47, if_true, if_false, and_true, true_and, and_false, false_and, true_or, or_true, or_false, false_or, eq_self, not_true_eq_false, not_false_eq_true, zv_int, zv_ref, zv_null, zv_none, hK_sI, hF_sI, hJ_sI, hN_sI, hZ_sI, hI_sI_same, hK_sJ, hF_sJ, hI_sJ, hN_sJ, hZ_sJ, hJ_sJ_same, hK_sF, hI_sF, hJ_sF, hN_sF, hZ_sF, Option.bind_some, Option.toList_some, Option.toList_none, List.cons_append, List.nil_append, zq_ref, zq_null, n1]
    rfl
  | 2, _ =>
    have n1 : nI 2 = 2 := rfl
    simp (decide := true) only [e_X4_ofLetter, s_X4_ofLetter_0, s_X4_ofLetter_1, s_X4_ofLetter_4, s_X4_ofLetter_7, s_X4_ofLetter_10, s_X4_ofLetter_11, s_X4_ofLetter_12, s_X4_ofLetter_15, s_X4_ofLetter_18, s_X4_ofLetter_21, s_X4_ofLetter_24, s_X4_ofLetter_25, s_X4_ofLetter_26, s_X4_ofLetter_28, s_X4_ofLetter_29, s_X4_ofLetter_32, s_X4_ofLetter_33, s_X4_ofLetter_35, s_X4_ofLetter_36, s_X4_ofLetter_37, s_X4_ofLetter_40, s_X4_ofLetter_43, s_X4_ofLetter_44, s_X4_ofLetter_46, s_X4_ofLetter_47, if_true, if_false, and_true, true_and, and_false, false_and, true_or, or_true, or_false, false_or, eq_self, not_true_eq_false, not_false_eq_true, zv_int, zv_ref, zv_null, zv_none, hK_sI, hF_sI, hJ_sI, hN_sI, hZ_sI, hI_sI_same, hK_sJ, hF_sJ, hI_sJ, hN_sJ, hZ_sJ, hJ_sJ_same, hK_sF, hI_sF, hJ_sF, hN_sF, hZ_sF, Option.bind_some, Option.toList_some, Option.toList_none, List.cons_append, List.nil_append, zq_ref, zq_null, n1]
    rfl
end
