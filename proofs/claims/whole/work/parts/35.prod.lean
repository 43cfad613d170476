/-! ===== the product ===== -/
section
variable {E : mE} {d : Nat} {h : mH} {b : Nat}
theorem if_cg {P Q : Prop} [Decidable P] [Decidable Q] (e : P ↔ Q) {x y : Int32} : (if P then x else y) = if Q then x else y := by
  by_cases p : P
  · rw [if_pos p, if_pos (e.1 p)]
  · rw [if_neg p, if_neg (fun q => p (e.2 q))]
theorem dv {m I k : Nat} (hk : k < m) : (m * I + k) / m = I ∧ (m * I + k) % m = k := by
  constructor
  · rw [Nat.mul_add_div (by omega), Nat.div_eq_of_lt hk, Nat.add_zero]
  · rw [Nat.mul_add_mod, Nat.mod_eq_of_lt hk]
theorem dv2 {n i j : Nat} (hj : j < n) : (i * n + j) / n = i ∧ (i * n + j) % n = j := by
  rw [Nat.mul_comm]; exact dv hj
/-- a row where a block is laid as far as (k, l) -/
def bk (G z : Nat → Int32) (N m I J k l : Nat) (p : Nat) : Int32 := if p / N / m = I ∧ p % N / m = J ∧ (p / N % m < k ∨ (p / N % m = k ∧ p % N % m < l)) then G p else z p
theorem bk_0 (G z : Nat → Int32) (N m I J : Nat) : bk G z N m I J 0 0 = z := by
  funext p
  unfold bk
  rw [if_neg (by omega)]
theorem bk_r {G z : Nat → Int32} {N m I J k : Nat} (hm : 0 < m) : bk G z N m I J k m = bk G z N m I J (k + 1) 0 := by
  funext p
  unfold bk
  have := Nat.mod_lt (p % N) hm
  have e : (p / N % m < k ∨ (p / N % m = k ∧ p % N % m < m)) ↔ (p / N % m < k + 1 ∨ (p / N % m = k + 1 ∧ p % N % m < 0)) := by omega
  exact if_cg (and_congr Iff.rfl (and_congr Iff.rfl e))
theorem bk_s {G z : Nat → Int32} {N m I J k l : Nat} (hk : k < m) (hl : l < m) (hN : m * J + l < N) : upd (bk G z N m I J k l) ((m * I + k) * N + (m * J + l)) (G ((m * I + k) * N + (m * J + l))) = bk G z N m I J k (l + 1) := by
  funext p
  by_cases c : p = (m * I + k) * N + (m * J + l)
  · have a1 := dv2 (i := m * I + k) hN
    have a2 := dv (I := I) hk
    have a3 := dv (I := J) hl
    have e1 : bk G z N m I J k (l + 1) p = G p := by
      unfold bk
      rw [if_pos]
      rw [c, a1.1, a1.2, a2.1, a2.2, a3.1, a3.2]
      exact ⟨rfl, rfl, Or.inr ⟨rfl, by omega⟩⟩
    rw [e1]
    unfold upd
    rw [if_pos c, c]
  · have e0 : upd (bk G z N m I J k l) ((m * I + k) * N + (m * J + l)) (G ((m * I + k) * N + (m * J + l))) p = bk G z N m I J k l p := by
      unfold upd; rw [if_neg c]
    rw [e0]
    unfold bk
    have key : ¬ (p / N / m = I ∧ p % N / m = J ∧ p / N % m = k ∧ p % N % m = l) := by
      intro ⟨b1, b2, b3, b4⟩
      apply c
      have d1 := Nat.div_add_mod p N
      have d2 := Nat.div_add_mod (p / N) m
      have d3 := Nat.div_add_mod (p % N) m
      rw [b1, b3] at d2
      rw [b2, b4] at d3
      rw [d2, d3, Nat.mul_comm]
      exact d1.symm
    have e : (p / N / m = I ∧ p % N / m = J ∧ (p / N % m < k ∨ (p / N % m = k ∧ p % N % m < l))) ↔ (p / N / m = I ∧ p % N / m = J ∧ (p / N % m < k ∨ (p / N % m = k ∧ p % N % m < l + 1))) := by
      constructor
      · intro ⟨b1, b2, b3⟩
        exact ⟨b1, b2, by omega⟩
      · intro ⟨b1, b2, b3⟩
        refine ⟨b1, b2, ?_⟩
        rcases b3 with b3 | b3
        · exact Or.inl b3
        · by_cases q : p % N % m = l
          · exact absurd ⟨b1, b2, b3.1, q⟩ key
          · exact Or.inr ⟨b3.1, by omega⟩
    exact if_cg e
/-- what a block lays -/
def bG (f : Nat → Int32) (w : Int32) (N m p : Nat) : Int32 := f (p / N % m * m + p % N % m) + w
theorem bG_at {f : Nat → Int32} {w : Int32} {N m I J k l : Nat} (hk : k < m) (hl : l < m) (hN : m * J + l < N) : bG f w N m ((m * I + k) * N + (m * J + l)) = f (k * m + l) + w := by
  unfold bG
  have a1 := dv2 (i := m * I + k) hN
  rw [a1.1, a1.2, (dv (I := I) hk).2, (dv (I := J) hl).2]
theorem blk_lt {n m I J k l : Nat} (hI : I < n) (hJ : J < n) (hk : k < m) (hl : l < m) (hN : n * m ≤ 12) : m * I + k < n * m ∧ m * J + l < n * m ∧ (m * I + k) * (n * m) + (m * J + l) < 144 := by
  have h1 : m * (I + 1) ≤ m * n := Nat.mul_le_mul_left m hI
  have h2 : m * (J + 1) ≤ m * n := Nat.mul_le_mul_left m hJ
  rw [Nat.mul_add, Nat.mul_one] at h1 h2
  have h3 : m * n = n * m := Nat.mul_comm m n
  have a1 : m * I + k < n * m := by omega
  have a2 : m * J + l < n * m := by omega
  refine ⟨a1, a2, ?_⟩
  have h4 : (m * I + k + 1) * (n * m) ≤ 12 * 12 := Nat.mul_le_mul (by omega) hN
  rw [Nat.add_mul, Nat.one_mul] at h4
  omega
theorem lp_lb_in {a r c r2 n m I J k : Nat} {w : Int32} {z : Nat → Int32} (k1 : hK h a = (12, 2)) (k2 : hK h r = (1, 144)) (f0 : hF h a 0 = .ref r) (f1 : hF h a 1 = .int (nI (n * m))) (k3 : hK h c = (12, 2)) (k4 : hK h r2 = (1, 144)) (f2 : hF h c 0 = .ref r2) (f3 : hF h c 1 = .int (nI m)) (hne : r2 ≠ r) (hI_ : I < n) (hJ_ : J < n) (hN : n * m ≤ 12) (hm : m ≤ 12) (hk : k < m) : ∀ (x l : Nat), l + x = m → zl E (d + 1) kX2_layBlock 15 [some (.ref a), some (.int (nI (m * I))), some (.int (nI (m * J))), some (.ref c), some (.int w), some (.int (nI k)), some (.int (nI l))] [] (sI h r (bk (bG (hI h r2) w (n * m) m) z (n * m) m I J k l)) = zl E (d + 1) kX2_layBlock 3 [some (.ref a), some (.int (nI (m * I))), some (.int (nI (m * J))), some (.ref c), some (.int w), some (.int (nI (k + 1))), some (.int (nI m))] [] (sI h r (bk (bG (hI h r2) w (n * m) m) z (n * m) m I J (k + 1) 0))
  | 0, l, e => by
    have : l = m := by omega
    subst this
    rw [s_X2_layBlock_15]
    simp only [s_X2_layBlock_0, s_X2_layBlock_1, s_X2_layBlock_5, s_X2_layBlock_6, s_X2_layBlock_9, s_X2_layBlock_12, s_X2_layBlock_13, s_X2_layBlock_17, s_X2_layBlock_18, s_X2_layBlock_21, s_X2_layBlock_24, s_X2_layBlock_25, s_X2_layBlock_28, s_X2_layBlock_29, s_X2_layBlock_31, s_X2_layBlock_32, s_X2_layBlock_33, s_X2_layBlock_36, s_X2_layBlock_37, s_X2_layBlock_38, s_X2_layBlock_39, s_X2_layBlock_41, s_X2_layBlock_42, s_X2_layBlock_43, s_X2_layBlock_45, s_X2_layBlock_47, s_X2_layBlock_50, s_X2_layBlock_52, s_X2_layBlock_53, s_X2_layBlock_54, s_X2_layBlock_57, s_X2_layBlock_60, s_X2_layBlock_63, s_X2_layBlock_66, if_true, if_false, and_true, true_and, and_false, false_and, true_or, or_true, or_false, false_or, eq_self, not_true_eq_false, not_false_eq_true, zv_int, zv_ref, zv_null, zv_none, hK_sI, hF_sI, hJ_sI, hN_sI, hZ_sI, hI_sI_same, hK_sJ, hF_sJ, hI_sJ, hN_sJ, hZ_sJ, hJ_sJ_same, hK_sF, hI_sF, hJ_sF, hN_sF, hZ_sF, Option.bind_some, Option.toList_some, Option.toList_none, List.cons_append, List.nil_append, zq_ref, zq_null, k3, f3, Int32.le_refl, nI_1]
    rw [bk_r (by omega)]
  | x + 1, l, e => by
    have hl : l < m := by omega
    have q1 : ¬ nI m ≤ nI l := nI_ge (by omega) (by omega)
    obtain ⟨b1, b2, b3⟩ := blk_lt hI_ hJ_ hk hl hN
    have z0 : zR (nI ((m * I + k) * (n * m) + m * J + l)) 144 := zR_to (by decide) (by omega)
    have z1 : (nI ((m * I + k) * (n * m) + m * J + l)).toNatClampNeg = (m * I + k) * (n * m) + (m * J + l) := by rw [nI_clamp (by omega)]; omega
    have hi2 : hI (sI h r (bk (bG (hI h r2) w (n * m) m) z (n * m) m I J k l)) r2 = hI h r2 := hI_sI_ne h _ hne
    have e1 := c_X2_numberN (E := E) (d := d) (h := sI h r (bk (bG (hI h r2) w (n * m) m) z (n * m) m I J k l)) k3 k4 f2 f3 hm hk hl
    rw [hi2] at e1
    have e2 : upd (bk (bG (hI h r2) w (n * m) m) z (n * m) m I J k l) ((m * I + k) * (n * m) + (m * J + l)) (hI h r2 (k * m + l) + w) = bk (bG (hI h r2) w (n * m) m) z (n * m) m I J k (l + 1) := by
      rw [← bk_s hk hl b2, bG_at hk hl b2]
    rw [s_X2_layBlock_15]
    simp only [s_X2_layBlock_0, s_X2_layBlock_1, s_X2_layBlock_5, s_X2_layBlock_6, s_X2_layBlock_9, s_X2_layBlock_12, s_X2_layBlock_13, s_X2_layBlock_17, s_X2_layBlock_18, s_X2_layBlock_21, s_X2_layBlock_24, s_X2_layBlock_25, s_X2_layBlock_28, s_X2_layBlock_29, s_X2_layBlock_31, s_X2_layBlock_32, s_X2_layBlock_33, s_X2_layBlock_36, s_X2_layBlock_37, s_X2_layBlock_38, s_X2_layBlock_39, s_X2_layBlock_41, s_X2_layBlock_42, s_X2_layBlock_43, s_X2_layBlock_45, s_X2_layBlock_47, s_X2_layBlock_50, s_X2_layBlock_52, s_X2_layBlock_53, s_X2_layBlock_54, s_X2_layBlock_57, s_X2_layBlock_60, s_X2_layBlock_63, s_X2_layBlock_66, if_true, if_false, and_true, true_and, and_false, false_and, true_or, or_true, or_false, false_or, eq_self, not_true_eq_false, not_false_eq_true, zv_int, zv_ref, zv_null, zv_none, hK_sI, hF_sI, hJ_sI, hN_sI, hZ_sI, hI_sI_same, hK_sJ, hF_sJ, hI_sJ, hN_sJ, hZ_sJ, hJ_sJ_same, hK_sF, hI_sF, hJ_sF, hN_sF, hZ_sF, Option.bind_some, Option.toList_some, Option.toList_none, List.cons_append, List.nil_append, zq_ref, zq_null, k1, k2, k3, f0, f1, f3, q1, nI_add, pk_mul, e1, z0, z1, sI_sI, e2, nI_1]
    exact lp_lb_in k1 k2 f0 f1 k3 k4 f2 f3 hne hI_ hJ_ hN hm hk x (l + 1) (by omega)
theorem lp_lb {a r c r2 n m I J : Nat} {w : Int32} {z : Nat → Int32} (k1 : hK h a = (12, 2)) (k2 : hK h r = (1, 144)) (f0 : hF h a 0 = .ref r) (f1 : hF h a 1 = .int (nI (n * m))) (k3 : hK h c = (12, 2)) (k4 : hK h r2 = (1, 144)) (f2 : hF h c 0 = .ref r2) (f3 : hF h c 1 = .int (nI m)) (hne : r2 ≠ r) (hI_ : I < n) (hJ_ : J < n) (hN : n * m ≤ 12) (hm : m ≤ 12) : ∀ (x k : Nat) (v6 : Option Value), k + x = m → zl E (d + 1) kX2_layBlock 3 [some (.ref a), some (.int (nI (m * I))), some (.int (nI (m * J))), some (.ref c), some (.int w), some (.int (nI k)), v6] [] (sI h r (bk (bG (hI h r2) w (n * m) m) z (n * m) m I J k 0)) = some (none, sI h r (bk (bG (hI h r2) w (n * m) m) z (n * m) m I J m 0))
  | 0, k, v6, e => by
    have : k = m := by omega
    subst this
    rw [s_X2_layBlock_3]
    simp only [s_X2_layBlock_0, s_X2_layBlock_1, s_X2_layBlock_5, s_X2_layBlock_6, s_X2_layBlock_9, s_X2_layBlock_12, s_X2_layBlock_13, s_X2_layBlock_17, s_X2_layBlock_18, s_X2_layBlock_21, s_X2_layBlock_24, s_X2_layBlock_25, s_X2_layBlock_28, s_X2_layBlock_29, s_X2_layBlock_31, s_X2_layBlock_32, s_X2_layBlock_33, s_X2_layBlock_36, s_X2_layBlock_37, s_X2_layBlock_38, s_X2_layBlock_39, s_X2_layBlock_41, s_X2_layBlock_42, s_X2_layBlock_43, s_X2_layBlock_45, s_X2_layBlock_47, s_X2_layBlock_50, s_X2_layBlock_52, s_X2_layBlock_53, s_X2_layBlock_54, s_X2_layBlock_57, s_X2_layBlock_60, s_X2_layBlock_63, s_X2_layBlock_66, if_true, if_false, and_true, true_and, and_false, false_and, true_or, or_true, or_false, false_or, eq_self, not_true_eq_false, not_false_eq_true, zv_int, zv_ref, zv_null, zv_none, hK_sI, hF_sI, hJ_sI, hN_sI, hZ_sI, hI_sI_same, hK_sJ, hF_sJ, hI_sJ, hN_sJ, hZ_sJ, hJ_sJ_same, hK_sF, hI_sF, hJ_sF, hN_sF, hZ_sF, Option.bind_some, Option.toList_some, Option.toList_none, List.cons_append, List.nil_append, zq_ref, zq_null, k3, f3, Int32.le_refl]
  | x + 1, k, v6, e => by
    have q1 : ¬ nI m ≤ nI k := nI_ge (by omega) (by omega)
    have e1 := lp_lb_in (E := E) (d := d) (w := w) (z := z) k1 k2 f0 f1 k3 k4 f2 f3 hne hI_ hJ_ hN hm (show k < m by omega) m 0 (by omega)
    rw [nI_0] at e1
    rw [s_X2_layBlock_3]
    simp only [s_X2_layBlock_0, s_X2_layBlock_1, s_X2_layBlock_5, s_X2_layBlock_6, s_X2_layBlock_9, s_X2_layBlock_12, s_X2_layBlock_13, s_X2_layBlock_17, s_X2_layBlock_18, s_X2_layBlock_21, s_X2_layBlock_24, s_X2_layBlock_25, s_X2_layBlock_28, s_X2_layBlock_29, s_X2_layBlock_31, s_X2_layBlock_32, s_X2_layBlock_33, s_X2_layBlock_36, s_X2_layBlock_37, s_X2_layBlock_38, s_X2_layBlock_39, s_X2_layBlock_41, s_X2_layBlock_42, s_X2_layBlock_43, s_X2_layBlock_45, s_X2_layBlock_47, s_X2_layBlock_50, s_X2_layBlock_52, s_X2_layBlock_53, s_X2_layBlock_54, s_X2_layBlock_57, s_X2_layBlock_60, s_X2_layBlock_63, s_X2_layBlock_66, if_true, if_false, and_true, true_and, and_false, false_and, true_or, or_true, or_false, false_or, eq_self, not_true_eq_false, not_false_eq_true, zv_int, zv_ref, zv_null, zv_none, hK_sI, hF_sI, hJ_sI, hN_sI, hZ_sI, hI_sI_same, hK_sJ, hF_sJ, hI_sJ, hN_sJ, hZ_sJ, hJ_sJ_same, hK_sF, hI_sF, hJ_sF, hN_sF, hZ_sF, Option.bind_some, Option.toList_some, Option.toList_none, List.cons_append, List.nil_append, zq_ref, zq_null, k3, f3, q1]
    rw [e1]
    exact lp_lb k1 k2 f0 f1 k3 k4 f2 f3 hne hI_ hJ_ hN hm x (k + 1) _ (by omega)
theorem c_X2_layBlock {a r c r2 n m I J : Nat} {w : Int32} {z : Nat → Int32} (k1 : hK h a = (12, 2)) (k2 : hK h r = (1, 144)) (f0 : hF h a 0 = .ref r) (f1 : hF h a 1 = .int (nI (n * m))) (k3 : hK h c = (12, 2)) (k4 : hK h r2 = (1, 144)) (f2 : hF h c 0 = .ref r2) (f3 : hF h c 1 = .int (nI m)) (hne : r2 ≠ r) (hI_ : I < n) (hJ_ : J < n) (hN : n * m ≤ 12) (hm : m ≤ 12) : cal E (d + 2) kX2_layBlock [.ref a, .int (nI (m * I)), .int (nI (m * J)), .ref c, .int w] (sI h r z) = some (none, sI h r (bk (bG (hI h r2) w (n * m) m) z (n * m) m I J m 0)) := by
  have := lp_lb (E := E) (d := d) (w := w) (z := z) k1 k2 f0 f1 k3 k4 f2 f3 hne hI_ hJ_ hN hm m 0 none (by omega)
  rw [bk_0] at this
  simp only [e_X2_layBlock, s_X2_layBlock_0, s_X2_layBlock_1, s_X2_layBlock_5, s_X2_layBlock_6, s_X2_layBlock_9, s_X2_layBlock_12, s_X2_layBlock_13, s_X2_layBlock_17, s_X2_layBlock_18, s_X2_layBlock_21, s_X2_layBlock_24, s_X2_layBlock_25, s_X2_layBlock_28, s_X2_layBlock_29, s_X2_layBlock_31, s_X2_layBlock_32, s_X2_layBlock_33, s_X2_layBlock_36, s_X2_layBlock_37, s_X2_layBlock_38, s_X2_layBlock_39, s_X2_layBlock_41, s_X2_layBlock_42, s_X2_layBlock_43, s_X2_layBlock_45, s_X2_layBlock_47, s_X2_layBlock_50, s_X2_layBlock_52, s_X2_layBlock_53, s_X2_layBlock_54, s_X2_layBlock_57, s_X2_layBlock_60, s_X2_layBlock_63, s_X2_layBlock_66, if_true, if_false, and_true, true_and, and_false, false_and, true_or, or_true, or_false, false_or, eq_self, not_true_eq_false, not_false_eq_true, zv_int, zv_ref, zv_null, zv_none, hK_sI, hF_sI, hJ_sI, hN_sI, hZ_sI, hI_sI_same, hK_sJ, hF_sJ, hI_sJ, hN_sJ, hZ_sJ, hJ_sJ_same, hK_sF, hI_sF, hJ_sF, hN_sF, hZ_sF, Option.bind_some, Option.toList_some, Option.toList_none, List.cons_append, List.nil_append, zq_ref, zq_null]
  exact this
/-- what the product lays -/
def pr (f g : Nat → Int32) (n m p : Nat) : Int32 := g (p / (n * m) % m * m + p % (n * m) % m) + nI (m * m) * (f (p / (n * m) / m * n + p % (n * m) / m) - 1)
/-- a row where the blocks before (I, J) are laid -/
def pq (f g z : Nat → Int32) (n m I J p : Nat) : Int32 := if p / (n * m) / m < I ∨ (p / (n * m) / m = I ∧ p % (n * m) / m < J) then pr f g n m p else z p
theorem pq_0 (f g z : Nat → Int32) (n m : Nat) : pq f g z n m 0 0 = z := by
  funext p
  unfold pq
  rw [if_neg (fun q => q.elim (fun x => absurd x (Nat.not_lt_zero _)) (fun x => absurd x.2 (Nat.not_lt_zero _)))]
theorem pq_r {f g z : Nat → Int32} {n m I : Nat} (hn : 0 < n) (hm : 0 < m) : pq f g z n m I n = pq f g z n m (I + 1) 0 := by
  funext p
  unfold pq
  have h1 : p % (n * m) < n * m := Nat.mod_lt _ (Nat.mul_pos hn hm)
  have h2 : p % (n * m) / m < n := Nat.div_lt_of_lt_mul (Nat.lt_of_lt_of_eq h1 (Nat.mul_comm n m))
  have e : (p / (n * m) / m < I ∨ (p / (n * m) / m = I ∧ p % (n * m) / m < n)) ↔ (p / (n * m) / m < I + 1 ∨ (p / (n * m) / m = I + 1 ∧ p % (n * m) / m < 0)) := by
    clear h1
    revert h2
    generalize p / (n * m) / m = A
    generalize p % (n * m) / m = B
    omega
  exact if_cg e
theorem pq_s {f g z : Nat → Int32} {n m I J : Nat} (hm : 0 < m) : bk (bG g (nI (m * m) * (f (I * n + J) - 1)) (n * m) m) (pq f g z n m I J) (n * m) m I J m 0 = pq f g z n m I (J + 1) := by
  funext p
  unfold bk
  have h1 := Nat.mod_lt (p / (n * m)) hm
  by_cases c : p / (n * m) / m = I ∧ p % (n * m) / m = J
  · rw [if_pos ⟨c.1, c.2, Or.inl h1⟩]
    unfold pq
    rw [if_pos (Or.inr ⟨c.1, Nat.lt_of_le_of_lt (Nat.le_of_eq c.2) (Nat.lt_succ_self J)⟩)]
    unfold bG pr
    rw [c.1, c.2]
  · rw [if_neg (fun q => c ⟨q.1, q.2.1⟩)]
    unfold pq
    have e : (p / (n * m) / m < I ∨ (p / (n * m) / m = I ∧ p % (n * m) / m < J)) ↔ (p / (n * m) / m < I ∨ (p / (n * m) / m = I ∧ p % (n * m) / m < J + 1)) := by
      clear h1
      revert c
      generalize p / (n * m) / m = A
      generalize p % (n * m) / m = B
      omega
    exact if_cg e
theorem pq_in {f g z : Nat → Int32} {n m p : Nat} (hp : p < n * m * (n * m)) : pq f g z n m n 0 p = pr f g n m p := by
  unfold pq
  rw [if_pos]
  left
  have h1 : p / (n * m) < n * m := Nat.div_lt_of_lt_mul hp
  exact Nat.div_lt_of_lt_mul (Nat.lt_of_lt_of_eq h1 (Nat.mul_comm n m))
theorem lp_bp_in {a r c r2 o r1 n m I : Nat} {z : Nat → Int32} (k1 : hK h a = (12, 2)) (k2 : hK h r = (1, 144)) (f0 : hF h a 0 = .ref r) (f1 : hF h a 1 = .int (nI (n * m))) (k3 : hK h c = (12, 2)) (k4 : hK h r2 = (1, 144)) (f2 : hF h c 0 = .ref r2) (f3 : hF h c 1 = .int (nI m)) (hne : r2 ≠ r) (k5 : hK h o = (12, 2)) (k6 : hK h r1 = (1, 144)) (f4 : hF h o 0 = .ref r1) (f5 : hF h o 1 = .int (nI n)) (hne1 : r1 ≠ r) (hI_ : I < n) (hN : n * m ≤ 12) (hm : m ≤ 12) (hm0 : 0 < m) (hn : n ≤ 12) : ∀ (x J : Nat), J + x = n → zl E (d + 2) kX2_becomeProduct 30 [some (.ref a), some (.ref o), some (.ref c), some (.int (nI m)), some (.int (nI I)), some (.int (nI J))] [] (sI h r (pq (hI h r1) (hI h r2) z n m I J)) = zl E (d + 2) kX2_becomeProduct 18 [some (.ref a), some (.ref o), some (.ref c), some (.int (nI m)), some (.int (nI (I + 1))), some (.int (nI n))] [] (sI h r (pq (hI h r1) (hI h r2) z n m (I + 1) 0))
  | 0, J, e => by
    have : J = n := by omega
    subst this
    rw [s_X2_becomeProduct_30]
    simp only [s_X2_becomeProduct_0, s_X2_becomeProduct_1, s_X2_becomeProduct_4, s_X2_becomeProduct_5, s_X2_becomeProduct_6, s_X2_becomeProduct_7, s_X2_becomeProduct_10, s_X2_becomeProduct_11, s_X2_becomeProduct_12, s_X2_becomeProduct_15, s_X2_becomeProduct_16, s_X2_becomeProduct_20, s_X2_becomeProduct_21, s_X2_becomeProduct_24, s_X2_becomeProduct_27, s_X2_becomeProduct_28, s_X2_becomeProduct_32, s_X2_becomeProduct_33, s_X2_becomeProduct_36, s_X2_becomeProduct_39, s_X2_becomeProduct_40, s_X2_becomeProduct_41, s_X2_becomeProduct_43, s_X2_becomeProduct_44, s_X2_becomeProduct_45, s_X2_becomeProduct_47, s_X2_becomeProduct_48, s_X2_becomeProduct_49, s_X2_becomeProduct_50, s_X2_becomeProduct_51, s_X2_becomeProduct_52, s_X2_becomeProduct_53, s_X2_becomeProduct_55, s_X2_becomeProduct_57, s_X2_becomeProduct_60, s_X2_becomeProduct_61, s_X2_becomeProduct_62, s_X2_becomeProduct_63, s_X2_becomeProduct_66, s_X2_becomeProduct_69, s_X2_becomeProduct_72, s_X2_becomeProduct_75, s_X2_becomeProduct_78, if_true, if_false, and_true, true_and, and_false, false_and, true_or, or_true, or_false, false_or, eq_self, not_true_eq_false, not_false_eq_true, zv_int, zv_ref, zv_null, zv_none, hK_sI, hF_sI, hJ_sI, hN_sI, hZ_sI, hI_sI_same, hK_sJ, hF_sJ, hI_sJ, hN_sJ, hZ_sJ, hJ_sJ_same, hK_sF, hI_sF, hJ_sF, hN_sF, hZ_sF, Option.bind_some, Option.toList_some, Option.toList_none, List.cons_append, List.nil_append, zq_ref, zq_null, k5, f5, Int32.le_refl, nI_1]
    rw [pq_r (by omega) hm0]
  | x + 1, J, e => by
    have hJ_ : J < n := by omega
    have q1 : ¬ nI n ≤ nI J := nI_ge (by omega) (by omega)
    have hi1 : hI (sI h r (pq (hI h r1) (hI h r2) z n m I J)) r1 = hI h r1 := hI_sI_ne h _ hne1
    have e1 := c_X2_numberN (E := E) (d := d + 1) (h := sI h r (pq (hI h r1) (hI h r2) z n m I J)) k5 k6 f4 f5 hn hI_ hJ_
    rw [hi1] at e1
    have e2 := c_X2_layBlock (E := E) (d := d) (w := nI (m * m) * (hI h r1 (I * n + J) - 1)) (z := pq (hI h r1) (hI h r2) z n m I J) k1 k2 f0 f1 k3 k4 f2 f3 hne hI_ hJ_ hN hm
    rw [pq_s hm0] at e2
    rw [s_X2_becomeProduct_30]
    simp only [s_X2_becomeProduct_0, s_X2_becomeProduct_1, s_X2_becomeProduct_4, s_X2_becomeProduct_5, s_X2_becomeProduct_6, s_X2_becomeProduct_7, s_X2_becomeProduct_10, s_X2_becomeProduct_11, s_X2_becomeProduct_12, s_X2_becomeProduct_15, s_X2_becomeProduct_16, s_X2_becomeProduct_20, s_X2_becomeProduct_21, s_X2_becomeProduct_24, s_X2_becomeProduct_27, s_X2_becomeProduct_28, s_X2_becomeProduct_32, s_X2_becomeProduct_33, s_X2_becomeProduct_36, s_X2_becomeProduct_39, s_X2_becomeProduct_40, s_X2_becomeProduct_41, s_X2_becomeProduct_43, s_X2_becomeProduct_44, s_X2_becomeProduct_45, s_X2_becomeProduct_47, s_X2_becomeProduct_48, s_X2_becomeProduct_49, s_X2_becomeProduct_50, s_X2_becomeProduct_51, s_X2_becomeProduct_52, s_X2_becomeProduct_53, s_X2_becomeProduct_55, s_X2_becomeProduct_57, s_X2_becomeProduct_60, s_X2_becomeProduct_61, s_X2_becomeProduct_62, s_X2_becomeProduct_63, s_X2_becomeProduct_66, s_X2_becomeProduct_69, s_X2_becomeProduct_72, s_X2_becomeProduct_75, s_X2_becomeProduct_78, if_true, if_false, and_true, true_and, and_false, false_and, true_or, or_true, or_false, false_or, eq_self, not_true_eq_false, not_false_eq_true, zv_int, zv_ref, zv_null, zv_none, hK_sI, hF_sI, hJ_sI, hN_sI, hZ_sI, hI_sI_same, hK_sJ, hF_sJ, hI_sJ, hN_sJ, hZ_sJ, hJ_sJ_same, hK_sF, hI_sF, hJ_sF, hN_sF, hZ_sF, Option.bind_some, Option.toList_some, Option.toList_none, List.cons_append, List.nil_append, zq_ref, zq_null, k1, k3, k5, f5, q1, pk_mul, e1, e2, nI_1]
    exact lp_bp_in k1 k2 f0 f1 k3 k4 f2 f3 hne k5 k6 f4 f5 hne1 hI_ hN hm hm0 hn x (J + 1) (by omega)
theorem lp_bp {a r c r2 o r1 n m : Nat} {z : Nat → Int32} (k1 : hK h a = (12, 2)) (k2 : hK h r = (1, 144)) (f0 : hF h a 0 = .ref r) (f1 : hF h a 1 = .int (nI (n * m))) (k3 : hK h c = (12, 2)) (k4 : hK h r2 = (1, 144)) (f2 : hF h c 0 = .ref r2) (f3 : hF h c 1 = .int (nI m)) (hne : r2 ≠ r) (k5 : hK h o = (12, 2)) (k6 : hK h r1 = (1, 144)) (f4 : hF h o 0 = .ref r1) (f5 : hF h o 1 = .int (nI n)) (hne1 : r1 ≠ r) (hN : n * m ≤ 12) (hm : m ≤ 12) (hm0 : 0 < m) (hn : n ≤ 12) : ∀ (x I : Nat) (v5 : Option Value), I + x = n → zl E (d + 2) kX2_becomeProduct 18 [some (.ref a), some (.ref o), some (.ref c), some (.int (nI m)), some (.int (nI I)), v5] [] (sI h r (pq (hI h r1) (hI h r2) z n m I 0)) = some (none, sI h r (pq (hI h r1) (hI h r2) z n m n 0))
  | 0, I, v5, e => by
    have : I = n := by omega
    subst this
    rw [s_X2_becomeProduct_18]
    simp only [s_X2_becomeProduct_0, s_X2_becomeProduct_1, s_X2_becomeProduct_4, s_X2_becomeProduct_5, s_X2_becomeProduct_6, s_X2_becomeProduct_7, s_X2_becomeProduct_10, s_X2_becomeProduct_11, s_X2_becomeProduct_12, s_X2_becomeProduct_15, s_X2_becomeProduct_16, s_X2_becomeProduct_20, s_X2_becomeProduct_21, s_X2_becomeProduct_24, s_X2_becomeProduct_27, s_X2_becomeProduct_28, s_X2_becomeProduct_32, s_X2_becomeProduct_33, s_X2_becomeProduct_36, s_X2_becomeProduct_39, s_X2_becomeProduct_40, s_X2_becomeProduct_41, s_X2_becomeProduct_43, s_X2_becomeProduct_44, s_X2_becomeProduct_45, s_X2_becomeProduct_47, s_X2_becomeProduct_48, s_X2_becomeProduct_49, s_X2_becomeProduct_50, s_X2_becomeProduct_51, s_X2_becomeProduct_52, s_X2_becomeProduct_53, s_X2_becomeProduct_55, s_X2_becomeProduct_57, s_X2_becomeProduct_60, s_X2_becomeProduct_61, s_X2_becomeProduct_62, s_X2_becomeProduct_63, s_X2_becomeProduct_66, s_X2_becomeProduct_69, s_X2_becomeProduct_72, s_X2_becomeProduct_75, s_X2_becomeProduct_78, if_true, if_false, and_true, true_and, and_false, false_and, true_or, or_true, or_false, false_or, eq_self, not_true_eq_false, not_false_eq_true, zv_int, zv_ref, zv_null, zv_none, hK_sI, hF_sI, hJ_sI, hN_sI, hZ_sI, hI_sI_same, hK_sJ, hF_sJ, hI_sJ, hN_sJ, hZ_sJ, hJ_sJ_same, hK_sF, hI_sF, hJ_sF, hN_sF, hZ_sF, Option.bind_some, Option.toList_some, Option.toList_none, List.cons_append, List.nil_append, zq_ref, zq_null, k5, f5, Int32.le_refl]
  | x + 1, I, v5, e => by
    have q1 : ¬ nI n ≤ nI I := nI_ge (by omega) (by omega)
    have e1 := lp_bp_in (E := E) (d := d) (z := z) k1 k2 f0 f1 k3 k4 f2 f3 hne k5 k6 f4 f5 hne1 (show I < n by omega) hN hm hm0 hn n 0 (by omega)
    rw [nI_0] at e1
    rw [s_X2_becomeProduct_18]
    simp only [s_X2_becomeProduct_0, s_X2_becomeProduct_1, s_X2_becomeProduct_4, s_X2_becomeProduct_5, s_X2_becomeProduct_6, s_X2_becomeProduct_7, s_X2_becomeProduct_10, s_X2_becomeProduct_11, s_X2_becomeProduct_12, s_X2_becomeProduct_15, s_X2_becomeProduct_16, s_X2_becomeProduct_20, s_X2_becomeProduct_21, s_X2_becomeProduct_24, s_X2_becomeProduct_27, s_X2_becomeProduct_28, s_X2_becomeProduct_32, s_X2_becomeProduct_33, s_X2_becomeProduct_36, s_X2_becomeProduct_39, s_X2_becomeProduct_40, s_X2_becomeProduct_41, s_X2_becomeProduct_43, s_X2_becomeProduct_44, s_X2_becomeProduct_45, s_X2_becomeProduct_47, s_X2_becomeProduct_48, s_X2_becomeProduct_49, s_X2_becomeProduct_50, s_X2_becomeProduct_51, s_X2_becomeProduct_52, s_X2_becomeProduct_53, s_X2_becomeProduct_55, s_X2_becomeProduct_57, s_X2_becomeProduct_60, s_X2_becomeProduct_61, s_X2_becomeProduct_62, s_X2_becomeProduct_63, s_X2_becomeProduct_66, s_X2_becomeProduct_69, s_X2_becomeProduct_72, s_X2_becomeProduct_75, s_X2_becomeProduct_78, if_true, if_false, and_true, true_and, and_false, false_and, true_or, or_true, or_false, false_or, eq_self, not_true_eq_false, not_false_eq_true, zv_int, zv_ref, zv_null, zv_none, hK_sI, hF_sI, hJ_sI, hN_sI, hZ_sI, hI_sI_same, hK_sJ, hF_sJ, hI_sJ, hN_sJ, hZ_sJ, hJ_sJ_same, hK_sF, hI_sF, hJ_sF, hN_sF, hZ_sF, Option.bind_some, Option.toList_some, Option.toList_none, List.cons_append, List.nil_append, zq_ref, zq_null, k5, f5, q1]
    rw [e1]
    exact lp_bp k1 k2 f0 f1 k3 k4 f2 f3 hne k5 k6 f4 f5 hne1 hN hm hm0 hn x (I + 1) _ (by omega)
theorem c_X2_becomeProduct {a r c r2 o r1 n m : Nat} (k1 : hK h a = (12, 2)) (k2 : hK h r = (1, 144)) (f0 : hF h a 0 = .ref r) (k3 : hK h c = (12, 2)) (k4 : hK h r2 = (1, 144)) (f2 : hF h c 0 = .ref r2) (f3 : hF h c 1 = .int (nI m)) (hne : r2 ≠ r) (hca : c ≠ a) (k5 : hK h o = (12, 2)) (k6 : hK h r1 = (1, 144)) (f4 : hF h o 0 = .ref r1) (f5 : hF h o 1 = .int (nI n)) (hne1 : r1 ≠ r) (hoa : o ≠ a) (hN : n * m ≤ 12) (hm : m ≤ 12) (hm0 : 0 < m) (hn : n ≤ 12) : cal E (d + 3) kX2_becomeProduct [.ref a, .ref o, .ref c] h = some (none, sI (sF h a 1 (.int (nI (n * m)))) r (pq (hI h r1) (hI h r2) (zr (hI h r)) n m n 0)) := by
  have g0 : hF (sF h a 1 (.int (nI (n * m)))) a 0 = .ref r := by rw [hF_sF, if_neg (fun q => absurd q.2 (by decide))]; exact f0
  have g1 : hF (sF h a 1 (.int (nI (n * m)))) a 1 = .int (nI (n * m)) := by rw [hF_sF, if_pos ⟨rfl, rfl⟩]
  have g2 : ∀ k, hF (sF h a 1 (.int (nI (n * m)))) c k = hF h c k := fun k => by rw [hF_sF, if_neg (fun q => hca q.1)]
  have g3 : ∀ k, hF (sF h a 1 (.int (nI (n * m)))) o k = hF h o k := fun k => by rw [hF_sF, if_neg (fun q => hoa q.1)]
  have e1 := lp_bp (E := E) (d := d) (h := sF h a 1 (.int (nI (n * m)))) (z := zr (hI h r)) k1 k2 g0 g1 k3 k4 (by rw [g2]; exact f2) (by rw [g2]; exact f3) hne k5 k6 (by rw [g3]; exact f4) (by rw [g3]; exact f5) hne1 hN hm hm0 hn n 0 none (by omega)
  simp only [hI_sF, pq_0] at e1
  have e0 := c_X2_clear (E := E) (d := d) (n := nI (n * m)) k1 k2 f0
  simp only [e_X2_becomeProduct, s_X2_becomeProduct_0, s_X2_becomeProduct_1, s_X2_becomeProduct_4, s_X2_becomeProduct_5, s_X2_becomeProduct_6, s_X2_becomeProduct_7, s_X2_becomeProduct_10, s_X2_becomeProduct_11, s_X2_becomeProduct_12, s_X2_becomeProduct_15, s_X2_becomeProduct_16, s_X2_becomeProduct_20, s_X2_becomeProduct_21, s_X2_becomeProduct_24, s_X2_becomeProduct_27, s_X2_becomeProduct_28, s_X2_becomeProduct_32, s_X2_becomeProduct_33, s_X2_becomeProduct_36, s_X2_becomeProduct_39, s_X2_becomeProduct_40, s_X2_becomeProduct_41, s_X2_becomeProduct_43, s_X2_becomeProduct_44, s_X2_becomeProduct_45, s_X2_becomeProduct_47, s_X2_becomeProduct_48, s_X2_becomeProduct_49, s_X2_becomeProduct_50, s_X2_becomeProduct_51, s_X2_becomeProduct_52, s_X2_becomeProduct_53, s_X2_becomeProduct_55, s_X2_becomeProduct_57, s_X2_becomeProduct_60, s_X2_becomeProduct_61, s_X2_becomeProduct_62, s_X2_becomeProduct_63, s_X2_becomeProduct_66, s_X2_becomeProduct_69, s_X2_becomeProduct_72, s_X2_becomeProduct_75, s_X2_becomeProduct_78, if_true, if_false, and_true, true_and, and_false, false_and, true_or, or_true, or_false, false_or, eq_self, not_true_eq_false, not_false_eq_true, zv_int, zv_ref, zv_null, zv_none, hK_sI, hF_sI, hJ_sI, hN_sI, hZ_sI, hI_sI_same, hK_sJ, hF_sJ, hI_sJ, hN_sJ, hZ_sJ, hJ_sJ_same, hK_sF, hI_sF, hJ_sF, hN_sF, hZ_sF, Option.bind_some, Option.toList_some, Option.toList_none, List.cons_append, List.nil_append, zq_ref, zq_null, k1, k3, k5, f3, f5, pk_mul, e0]
  exact e1
end
