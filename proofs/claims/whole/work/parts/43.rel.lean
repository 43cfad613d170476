/-! ===== the relation of the class's cells and the reference's, without the finder ===== -/
section
variable {E : mE} {d : Nat} {h : mH} {b : Nat}
def Rel (b : Nat) (o : Nat → Nat) (z : Nat → Option Nat) (h : mH) : Prop :=
  Lay b h ∧ oC b h o ∧ oM b h o ∧ sC b h z ∧ sM b h z ∧
  (∀ q, q < 24 → ag (hI h (aR b q)) (fun p => hI h (b + 77) (144 * q + p)) (o q * o q) ∧ bd (hI h (aR b q)) (o q * o q)) ∧
  (∀ s, s < 4 → ag (hI h (aT b s)) (fun i => hI h (b + 74) (150 * s + i)) 150) ∧
  (∀ s, s < 4 → z s ≠ none → hF h (aS b s) 1 = .int (hI h (b + 72) s)) ∧
  (∃ g, hF h b 7 = .int g ∧ hF h (b + 70) 0 = .int g) ∧
  (∀ c, c < 6 → hI h (b + 13) c = hI h (b + 71) c) ∧
  (∃ k, k ≤ 12 ∧ hF h b 8 = .int (nI k) ∧ hF h (b + 70) 13 = .int (nI k)) ∧
  (∃ g, hF h (b + 8) 3 = .int g ∧ hF h (b + 70) 12 = .int g)
/-- a call of both sides: the same answer -/
def Op (E : mE) (d b kc km : Nat) (as : List Value) (h h2 : mH) : Prop := ∃ r h1, cal E d kc (.ref b :: as) h = some (some r, h1) ∧ cal E d km (.ref (b + 70) :: as) h1 = some (some r, h2)
theorem op_cause {o : Nat → Nat} {z : Nat → Option Nat} (R : Rel b o z h) : Op E (d + 9) b kX3_cause kX4_cause [] h h := by
  obtain ⟨L, _, _, _, _, _, _, _, ⟨g, g1, g2⟩, _⟩ := R
  exact ⟨.int g, h, c_X3_cause L g1, c_X4_cause L g2⟩
theorem op_found {o : Nat → Nat} {z : Nat → Option Nat} (R : Rel b o z h) : Op E (d + 9) b kX3_found kX4_found [] h h := by
  obtain ⟨L, _, _, _, _, _, _, _, _, _, _, ⟨g, g1, g2⟩⟩ := R
  exact ⟨.int g, h, c_X3_found L g1, c_X4_found L g2⟩
theorem op_causes {o : Nat → Nat} {z : Nat → Option Nat} {c : Int32} (R : Rel b o z h) : Op E (d + 9) b kX3_causes kX4_causes [.int c] h h := by
  obtain ⟨L, _, _, _, _, _, _, _, _, hc, _⟩ := R
  refine ⟨_, h, c_X3_causes L, ?_⟩
  rw [c_X4_causes L]
  by_cases c1 : c < 1
  · simp only [c1, if_true]
  · by_cases c2 : c ≤ 5
    · obtain ⟨k, _, k2, e⟩ := zr16 c1 c2
      have z1 : c.toNatClampNeg = k := by rw [e]; exact nI_clamp (by omega)
      simp only [c1, c2, if_true, if_false, z1, hc k k2]
    · simp only [c1, c2, if_false]
theorem op_count {o : Nat → Nat} {z : Nat → Option Nat} {x : Int32} (R : Rel b o z h) : Op E (d + 9) b kX3_count kX4_count [.int x] h h := by
  obtain ⟨L, ho, hm, hz, hy, _, _, _, _, _, ⟨k, _, k1, k2⟩, _⟩ := R
  exact ⟨_, h, c_X3_count L ho hz k1, c_X4_count L hm hy k2⟩
theorem op_digest {o : Nat → Nat} {z : Nat → Option Nat} (R : Rel b o z h) : Op E (d + 9) b kX3_digest kX4_digest [] h h := by
  obtain ⟨L, ho, hm, hz, hy, hq, hs, _, _, _, _, ⟨g, g1, g2⟩⟩ := R
  refine ⟨_, h, c_X3_digest L ho hz g1, ?_⟩
  rw [c_X4_digest L hm hy g2]
  rw [dg_cg (fun s c p hp => hs s c p (Nat.lt_of_lt_of_le hp (hz s c).2)) (fun q c => (hq q c).1)]
/-- a number of a square is one of the 24, or none -/
theorem q24 (q : Int32) : (q < 0 ∨ nI 24 ≤ q) ∨ ∃ k, k < 24 ∧ q = nI k := by
  by_cases c1 : q < 0
  · exact Or.inl (Or.inl c1)
  · by_cases c2 : nI 24 ≤ q
    · exact Or.inl (Or.inr c2)
    · right
      rw [n32_lt, Int32.le_iff_toInt_le] at c1
      rw [n32_le, Int32.lt_iff_toInt_lt] at c2
      have e0 : (0 : Int32).toInt = 0 := rfl
      have e1 : (nI 24).toInt = 24 := rfl
      refine ⟨q.toInt.toNat, by omega, ?_⟩
      apply Int32.toInt_inj.1
      have : ∀ y, y < 24 → (nI y).toInt = (y : Int) := by decide +kernel
      rw [this _ (by omega)]
      omega
theorem op_order {o : Nat → Nat} {z : Nat → Option Nat} {q : Int32} (R : Rel b o z h) : Op E (d + 9) b kX3_order kX4_order [.int q] h h := by
  obtain ⟨L, ho, hm, _⟩ := R
  rcases q24 q with c | ⟨k, hk, e⟩
  · refine ⟨.int (-101), h, ?_, ?_⟩
    · simp only [e_X3_order, s_X3_order_0, s_X3_order_1, s_X3_order_2, s_X3_order_5n, s_X3_order_6n, s_X3_order_7n, s_X3_order_10, s_X3_order_12, s_X3_order_19, if_true, if_false, and_true, true_and, and_false, false_and, true_or, or_true, or_false, false_or, eq_self, not_true_eq_false, not_false_eq_true, zv_int, zv_ref, zv_null, zv_none, hK_sI, hF_sI, hJ_sI, hN_sI, hZ_sI, hI_sI_same, hK_sJ, hF_sJ, hI_sJ, hN_sJ, hZ_sJ, hJ_sJ_same, hK_sF, hI_sF, hJ_sF, hN_sF, hZ_sF, Option.bind_some, Option.toList_some, Option.toList_none, List.cons_append, List.nil_append, zq_ref, zq_null, L.k0, c_X3_knownN c]
    · simp only [e_X4_order, s_X4_order_0, s_X4_order_1, s_X4_order_2, s_X4_order_5, s_X4_order_8, s_X4_order_9, s_X4_order_12, s_X4_order_13, s_X4_order_14, s_X4_order_17, s_X4_order_19, if_true, if_false, and_true, true_and, and_false, false_and, true_or, or_true, or_false, false_or, eq_self, not_true_eq_false, not_false_eq_true, zv_int, zv_ref, zv_null, zv_none, hK_sI, hF_sI, hJ_sI, hN_sI, hZ_sI, hI_sI_same, hK_sJ, hF_sJ, hI_sJ, hN_sJ, hZ_sJ, hJ_sJ_same, hK_sF, hI_sF, hJ_sF, hN_sF, hZ_sF, Option.bind_some, Option.toList_some, Option.toList_none, List.cons_append, List.nil_append, zq_ref, zq_null, L.k70, c_X4_isSquareN L c]
  · subst e
    have z0 : zR (nI k) 24 := zR_to (by decide) hk
    have z1 : (nI k).toNatClampNeg = k := nI_clamp (by omega)
    have e1 := c_X3_known (E := E) (d := d + 7) L hk (ho k hk).1 (ho k hk).2
    have e2 := c_X4_isSquare (E := E) (d := d + 6) L hk (hm k hk).1 (hm k hk).2
    by_cases c : o k = 0
    · have c' : ¬ 0 < o k := by omega
      simp only [eq_true c, if_true] at e1
      simp only [c', if_false] at e2
      refine ⟨.int (-101), h, ?_, ?_⟩
      · simp only [e_X3_order, s_X3_order_0, s_X3_order_1, s_X3_order_2, s_X3_order_5n, s_X3_order_6n, s_X3_order_7n, s_X3_order_10, s_X3_order_12, s_X3_order_19, if_true, if_false, and_true, true_and, and_false, false_and, true_or, or_true, or_false, false_or, eq_self, not_true_eq_false, not_false_eq_true, zv_int, zv_ref, zv_null, zv_none, hK_sI, hF_sI, hJ_sI, hN_sI, hZ_sI, hI_sI_same, hK_sJ, hF_sJ, hI_sJ, hN_sJ, hZ_sJ, hJ_sJ_same, hK_sF, hI_sF, hJ_sF, hN_sF, hZ_sF, Option.bind_some, Option.toList_some, Option.toList_none, List.cons_append, List.nil_append, zq_ref, zq_null, L.k0, e1]
      · simp only [e_X4_order, s_X4_order_0, s_X4_order_1, s_X4_order_2, s_X4_order_5, s_X4_order_8, s_X4_order_9, s_X4_order_12, s_X4_order_13, s_X4_order_14, s_X4_order_17, s_X4_order_19, if_true, if_false, and_true, true_and, and_false, false_and, true_or, or_true, or_false, false_or, eq_self, not_true_eq_false, not_false_eq_true, zv_int, zv_ref, zv_null, zv_none, hK_sI, hF_sI, hJ_sI, hN_sI, hZ_sI, hI_sI_same, hK_sJ, hF_sJ, hI_sJ, hN_sJ, hZ_sJ, hJ_sJ_same, hK_sF, hI_sF, hJ_sF, hN_sF, hZ_sF, Option.bind_some, Option.toList_some, Option.toList_none, List.cons_append, List.nil_append, zq_ref, zq_null, L.k70, e2]
    · have c' : 0 < o k := by omega
      simp only [eq_false c, if_false] at e1
      simp only [c', if_true] at e2
      refine ⟨.int (nI (o k)), h, ?_, ?_⟩
      · simp only [e_X3_order, s_X3_order_0, s_X3_order_1, s_X3_order_2, s_X3_order_5, s_X3_order_5n, s_X3_order_6, s_X3_order_6n, s_X3_order_7, s_X3_order_7n, s_X3_order_10, s_X3_order_12, s_X3_order_15, s_X3_order_15n, s_X3_order_16, s_X3_order_19, if_true, if_false, and_true, true_and, and_false, false_and, true_or, or_true, or_false, false_or, eq_self, not_true_eq_false, not_false_eq_true, zv_int, zv_ref, zv_null, zv_none, hK_sI, hF_sI, hJ_sI, hN_sI, hZ_sI, hI_sI_same, hK_sJ, hF_sJ, hI_sJ, hN_sJ, hZ_sJ, hJ_sJ_same, hK_sF, hI_sF, hJ_sF, hN_sF, hZ_sF, Option.bind_some, Option.toList_some, Option.toList_none, List.cons_append, List.nil_append, zq_ref, zq_null, L.k0, e1, L.kQ hk, (ho k hk).1]
      · simp (decide := true) only [e_X4_order, s_X4_order_0, s_X4_order_1, s_X4_order_2, s_X4_order_5, s_X4_order_8, s_X4_order_9, s_X4_order_12, s_X4_order_13, s_X4_order_14, s_X4_order_17, s_X4_order_19, if_true, if_false, and_true, true_and, and_false, false_and, true_or, or_true, or_false, false_or, eq_self, not_true_eq_false, not_false_eq_true, zv_int, zv_ref, zv_null, zv_none, hK_sI, hF_sI, hJ_sI, hN_sI, hZ_sI, hI_sI_same, hK_sJ, hF_sJ, hI_sJ, hN_sJ, hZ_sJ, hJ_sJ_same, hK_sF, hI_sF, hJ_sF, hN_sF, hZ_sF, Option.bind_some, Option.toList_some, Option.toList_none, List.cons_append, List.nil_append, zq_ref, zq_null, L.k70, L.p70_6, L.k76, z0, z1, e2, (hm k hk).1]
end
