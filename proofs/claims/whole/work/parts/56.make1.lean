/-! ===== makers ===== -/
section
variable {E : mE} {d : Nat} {h h1 h2 : mH} {b : Nat}
/-- the draft, laid; the reference's square at hand -/
def drf (b : Nat) (h : mH) (n : Nat) (f : Nat → Int32) : mH := sI (sF h (b + 3) 1 (.int (nI n))) (b + 4) f
def nxt (b : Nat) (h : mH) (n : Nat) (g : Nat → Int64) : mH := sJ (sF h (b + 70) 8 (.int (nI n))) (b + 78) g
theorem mk_end0 {o : Nat → Nat} {z : Nat → Option Nat} {n : Nat} (f : Nat → Int32) (R : Rel b o z h) (hn : n ≤ 12) : Lay b (drf b h n f) ∧ ∃ r k1, (∀ E d, cal E (d + 2) kX3_keepDraft [.ref b] (drf b h n f) = some (some (.int r), k1)) ∧ Lay b k1 ∧ (∀ a, b + 70 ≤ a → hI k1 a = hI h a) ∧ (∀ j, hF k1 (b + 70) j = hF h (b + 70) j) ∧ ∀ hB, scr b k1 hB → sameF b k1 hB → hF hB (b + 70) 8 = .int (nI n) → (∀ p, p < n * n → hJ hB (b + 78) p = (f p).toInt64) → ∃ k2 o', (∀ E d, cal E (d + 2) kX4_comes [.ref (b + 70)] hB = some (some (.int r), k2)) ∧ Rel b o' z k2 ∧ sameF b h k2 := by
  have L := R.1
  have L' : Lay b (sF h (b + 3) 1 (.int (nI n))) := L.sF 3 1 _ (by decide +kernel)
  have LA : Lay b (drf b h n f) := L'.sI _ _
  have sA : scr b h (drf b h n f) := scr_trans (scr_sF L _ (Or.inl ⟨Or.inl rfl, rfl⟩)) (scr_sI L' _ (by omega))
  have mA : mSame b h (drf b h n f) := mSame_trans (mSame_sF (o := 3) L _ (by omega) (by decide +kernel)) (mSame_sI L' _ (by omega))
  have fA : sameF b h (drf b h n f) := sameF_trans (sameF_sF (a := b + 3) (j := 1) _ (by omega) (by omega) (by omega)) (sameF_sI _ (by omega))
  have hd : hF (drf b h n f) (b + 3) 1 = .int (nI n) := by
    unfold drf
    rw [hF_sI, hF_sF, if_pos ⟨rfl, rfl⟩]
  obtain ⟨r, k1, eK, mK, fK, K⟩ := op_keep (Rel_scr' R sA) hd hn
  have m := mSame_trans mA mK
  refine ⟨LA, r, k1, eK, mK.1, m.2.1, m.2.2, fun hB sB fB hs hg => ?_⟩
  obtain ⟨k2, o', eM, RM, fM⟩ := K hB sB hs (fun p hp => by
    unfold drf
    rw [hI_sI_same]
    exact hg p hp)
  exact ⟨k2, o', eM, RM, sameF_trans (sameF_trans fA fK) (sameF_trans fB fM)⟩
theorem mk_end {o : Nat → Nat} {z : Nat → Option Nat} {n : Nat} (f : Nat → Int32) (R : Rel b o z h) (hn : n ≤ 12) : Lay b (drf b h n f) ∧ ∃ r k1, (∀ E d, cal E (d + 2) kX3_keepDraft [.ref b] (drf b h n f) = some (some (.int r), k1)) ∧ Lay b k1 ∧ (∀ a, b + 70 ≤ a → hI k1 a = hI h a) ∧ (∀ j, hF k1 (b + 70) j = hF h (b + 70) j) ∧ ∀ g, (∀ p, p < n * n → g p = (f p).toInt64) → ∃ k2 o', (∀ E d, cal E (d + 2) kX4_comes [.ref (b + 70)] (nxt b k1 n g) = some (some (.int r), k2)) ∧ Rel b o' z k2 ∧ sameF b h k2 := by
  obtain ⟨LA, r, k1, eK, L1, hI1, hF1, K⟩ := mk_end0 f R hn
  refine ⟨LA, r, k1, eK, L1, hI1, hF1, fun g hg => ?_⟩
  have L2 : Lay b (sF k1 (b + 70) 8 (.int (nI n))) := L1.sF 70 8 _ (by decide +kernel)
  refine K (nxt b k1 n g) (scr_trans (scr_sF L1 _ (Or.inr ⟨rfl, rfl⟩)) (scr_sJ L2 _)) (sameF_trans (sameF_sF (a := b + 70) (j := 8) _ (by omega) (by omega) (by omega)) (sameF_sJ _)) (by unfold nxt; rw [hF_sJ, hF_sF, if_pos ⟨rfl, rfl⟩]) (fun p hp => ?_)
  unfold nxt
  rw [hJ_sJ_same]
  exact hg p hp
/-- the reference knows a square in a heap whose orders are the same -/
theorem isq {o : Nat → Nat} {k : Nat} (L1 : Lay b h1) (hI1 : ∀ a, b + 70 ≤ a → hI h1 a = hI h a) (hm : oM b h o) (hk : k < 24) (h0 : 1 ≤ o k) : hI h1 (b + 76) k = nI (o k) ∧ ∀ E d, cal E (d + 2) kX4_isSquare [.ref (b + 70), .int (nI k)] h1 = some (some (.int 1), h1) := by
  have e0 : hI h1 (b + 76) k = nI (o k) := by rw [hI1 (b + 76) (by omega)]; exact (hm k hk).1
  refine ⟨e0, fun E d => ?_⟩
  have := c_X4_isSquare (E := E) (d := d) L1 hk e0 (hm k hk).2
  rw [if_pos (show 0 < o k by omega)] at this
  exact this
theorem ageq {k n : Nat} (hI1 : ∀ a, b + 70 ≤ a → hI h1 a = hI h a) (hr : ag (hI h (aR b k)) (fun p => hI h (b + 77) (144 * k + p)) n) : ag (hI h (aR b k)) (fun p => hI h1 (b + 77) (144 * k + p)) n := by
  rw [hI1 (b + 77) (by omega)]
  exact hr
theorem op_turn {o : Nat → Nat} {z : Nat → Option Nat} {q t : Int32} (R : Rel b o z h) : Good E (d + 9) b kX3_turn kX4_turn [.int q, .int t] h := by
  have R' := R
  obtain ⟨L, ho, hm, _, _, hr, _⟩ := R'
  rcases kn2 R q with ⟨e1, e2⟩ | ⟨k, hk, e, h1, e1, e2⟩
  · refine ⟨h, o, z, ⟨.int (-101), h, ?_, ?_⟩, R, sameF_refl⟩
    · simp only [e_X3_turn, s_X3_turn_0, s_X3_turn_1, s_X3_turn_2, s_X3_turn_5, s_X3_turn_5n, s_X3_turn_6, s_X3_turn_6n, s_X3_turn_7, s_X3_turn_7n, s_X3_turn_10, s_X3_turn_12, s_X3_turn_13, s_X3_turn_14, s_X3_turn_17, s_X3_turn_18, s_X3_turn_20, s_X3_turn_23, s_X3_turn_25, s_X3_turn_26, s_X3_turn_27, s_X3_turn_30, s_X3_turn_30n, s_X3_turn_31, s_X3_turn_32, s_X3_turn_35, s_X3_turn_36, s_X3_turn_39, if_true, if_false, and_true, true_and, and_false, false_and, true_or, or_true, or_false, false_or, eq_self, not_true_eq_false, not_false_eq_true, zv_int, zv_ref, zv_null, zv_none, hK_sI, hF_sI, hJ_sI, hN_sI, hZ_sI, hI_sI_same, hK_sJ, hF_sJ, hI_sJ, hN_sJ, hZ_sJ, hJ_sJ_same, hK_sF, hI_sF, hJ_sF, hN_sF, hZ_sF, Option.bind_some, Option.toList_some, Option.toList_none, List.cons_append, List.nil_append, zq_ref, zq_null, L.k0, e1 E (d + 7)]
    · simp (decide := true) only [e_X4_turn, s_X4_turn_0, s_X4_turn_1, s_X4_turn_2, s_X4_turn_5, s_X4_turn_8, s_X4_turn_10, s_X4_turn_11, s_X4_turn_12, s_X4_turn_13, s_X4_turn_14, s_X4_turn_17, s_X4_turn_20, s_X4_turn_23, s_X4_turn_25, s_X4_turn_26, s_X4_turn_27, s_X4_turn_28, s_X4_turn_29, s_X4_turn_32, s_X4_turn_33, s_X4_turn_36, if_true, if_false, and_true, true_and, and_false, false_and, true_or, or_true, or_false, false_or, eq_self, not_true_eq_false, not_false_eq_true, zv_int, zv_ref, zv_null, zv_none, hK_sI, hF_sI, hJ_sI, hN_sI, hZ_sI, hI_sI_same, hK_sJ, hF_sJ, hI_sJ, hN_sJ, hZ_sJ, hJ_sJ_same, hK_sF, hI_sF, hJ_sF, hN_sF, hZ_sF, Option.bind_some, Option.toList_some, Option.toList_none, List.cons_append, List.nil_append, zq_ref, zq_null, L.k70, e2 E (d + 6)]
  · have hn := (ho k hk).2
    have i8 := fun h => inI (E := E) (d := d + 7) (h := h) (N := 8) (by decide) (by decide) t
    have e7 : (nI (8 - 1)).toInt64 = 7 := rfl
    have e8 : (8 : Int32) = nI 8 := rfl
    simp only [e7] at i8
    rcases rng (N := 8) (by decide) t with c | ⟨x, hx, ex⟩
    · simp only [c, if_true] at i8
      refine ⟨h, o, z, ⟨.int (-102), h, ?_, ?_⟩, R, sameF_refl⟩
      · rcases c with c | c
        · simp only [e_X3_turn, s_X3_turn_0, s_X3_turn_1, s_X3_turn_2, s_X3_turn_5, s_X3_turn_5n, s_X3_turn_6, s_X3_turn_6n, s_X3_turn_7, s_X3_turn_7n, s_X3_turn_10, s_X3_turn_12, s_X3_turn_13, s_X3_turn_14, s_X3_turn_17, s_X3_turn_18, s_X3_turn_20, s_X3_turn_23, s_X3_turn_25, s_X3_turn_26, s_X3_turn_27, s_X3_turn_30, s_X3_turn_30n, s_X3_turn_31, s_X3_turn_32, s_X3_turn_35, s_X3_turn_36, s_X3_turn_39, if_true, if_false, and_true, true_and, and_false, false_and, true_or, or_true, or_false, false_or, eq_self, not_true_eq_false, not_false_eq_true, zv_int, zv_ref, zv_null, zv_none, hK_sI, hF_sI, hJ_sI, hN_sI, hZ_sI, hI_sI_same, hK_sJ, hF_sJ, hI_sJ, hN_sJ, hZ_sJ, hJ_sJ_same, hK_sF, hI_sF, hJ_sF, hN_sF, hZ_sF, Option.bind_some, Option.toList_some, Option.toList_none, List.cons_append, List.nil_append, zq_ref, zq_null, L.k0, e1 E (d + 7), c]
        · have c' : ¬ t < nI 8 := n32_lt.mpr c
          by_cases c0 : t < 0
          · simp only [e_X3_turn, s_X3_turn_0, s_X3_turn_1, s_X3_turn_2, s_X3_turn_5, s_X3_turn_5n, s_X3_turn_6, s_X3_turn_6n, s_X3_turn_7, s_X3_turn_7n, s_X3_turn_10, s_X3_turn_12, s_X3_turn_13, s_X3_turn_14, s_X3_turn_17, s_X3_turn_18, s_X3_turn_20, s_X3_turn_23, s_X3_turn_25, s_X3_turn_26, s_X3_turn_27, s_X3_turn_30, s_X3_turn_30n, s_X3_turn_31, s_X3_turn_32, s_X3_turn_35, s_X3_turn_36, s_X3_turn_39, if_true, if_false, and_true, true_and, and_false, false_and, true_or, or_true, or_false, false_or, eq_self, not_true_eq_false, not_false_eq_true, zv_int, zv_ref, zv_null, zv_none, hK_sI, hF_sI, hJ_sI, hN_sI, hZ_sI, hI_sI_same, hK_sJ, hF_sJ, hI_sJ, hN_sJ, hZ_sJ, hJ_sJ_same, hK_sF, hI_sF, hJ_sF, hN_sF, hZ_sF, Option.bind_some, Option.toList_some, Option.toList_none, List.cons_append, List.nil_append, zq_ref, zq_null, L.k0, e1 E (d + 7), c0]
          · simp only [e_X3_turn, s_X3_turn_0, s_X3_turn_1, s_X3_turn_2, s_X3_turn_5, s_X3_turn_5n, s_X3_turn_6, s_X3_turn_6n, s_X3_turn_7, s_X3_turn_7n, s_X3_turn_10, s_X3_turn_12, s_X3_turn_13, s_X3_turn_14, s_X3_turn_17, s_X3_turn_18, s_X3_turn_20, s_X3_turn_23, s_X3_turn_25, s_X3_turn_26, s_X3_turn_27, s_X3_turn_30, s_X3_turn_30n, s_X3_turn_31, s_X3_turn_32, s_X3_turn_35, s_X3_turn_36, s_X3_turn_39, if_true, if_false, and_true, true_and, and_false, false_and, true_or, or_true, or_false, false_or, eq_self, not_true_eq_false, not_false_eq_true, zv_int, zv_ref, zv_null, zv_none, hK_sI, hF_sI, hJ_sI, hN_sI, hZ_sI, hI_sI_same, hK_sJ, hF_sJ, hI_sJ, hN_sJ, hZ_sJ, hJ_sJ_same, hK_sF, hI_sF, hJ_sF, hN_sF, hZ_sF, Option.bind_some, Option.toList_some, Option.toList_none, List.cons_append, List.nil_append, zq_ref, zq_null, L.k0, e1 E (d + 7), e8, c', c0]
      · simp (decide := true) only [e_X4_turn, s_X4_turn_0, s_X4_turn_1, s_X4_turn_2, s_X4_turn_5, s_X4_turn_8, s_X4_turn_10, s_X4_turn_11, s_X4_turn_12, s_X4_turn_13, s_X4_turn_14, s_X4_turn_17, s_X4_turn_20, s_X4_turn_23, s_X4_turn_25, s_X4_turn_26, s_X4_turn_27, s_X4_turn_28, s_X4_turn_29, s_X4_turn_32, s_X4_turn_33, s_X4_turn_36, if_true, if_false, and_true, true_and, and_false, false_and, true_or, or_true, or_false, false_or, eq_self, not_true_eq_false, not_false_eq_true, zv_int, zv_ref, zv_null, zv_none, hK_sI, hF_sI, hJ_sI, hN_sI, hZ_sI, hI_sI_same, hK_sJ, hF_sJ, hI_sJ, hN_sJ, hZ_sJ, hJ_sJ_same, hK_sF, hI_sF, hJ_sF, hN_sF, hZ_sF, Option.bind_some, Option.toList_some, Option.toList_none, List.cons_append, List.nil_append, zq_ref, zq_null, L.k70, e2 E (d + 6), i8]
    · have c0 : ¬ t < 0 := by rw [ex]; exact nI_nlt (b := 0) (by omega) (by omega)
      have c1 : t < nI 8 := by rw [ex]; exact nI_lt hx (by omega)
      have c : ¬ (t < 0 ∨ nI 8 ≤ t) := fun c => c.elim c0 (fun c => n32_lt.mpr c c1)
      simp only [c, if_false] at i8
      have eB := c_X2_becomeTurn (E := E) (d := d + 5) L.k3 L.k4 L.p3_0 (L.kQ hk) (L.kR hk) (L.pQ hk) (ho k hk).1 (by unfold aR; omega) (by unfold aQ; omega) hn hx
      obtain ⟨LA, r, k1, eK, L1, hI1, hF1, K⟩ := mk_end (rw_ (tn (hI h (aR b k)) (o k) x) (zr (hI h (b + 4))) (o k * o k)) R hn
      obtain ⟨e0, eq⟩ := isq L1 hI1 hm hk h1
      have eL := c_X4_layTurn (E := E) (d := d + 6) L1 hk rfl e0 ⟨h1, hn⟩ hx
      obtain ⟨k2, o', eM, RM, fM⟩ := K (rl (fun p => (tn (fun p => hI k1 (b + 77) (144 * k + p)) (o k) x p).toInt64) (hJ k1 (b + 78)) (o k * o k)) (fun p hp => by
        rw [rl_in hp, rw_in hp, tn_cg hn (ageq hI1 (hr k hk).1) hp])
      have L2 : Lay b (nxt b k1 (o k) (rl (fun p => (tn (fun p => hI k1 (b + 77) (144 * k + p)) (o k) x p).toInt64) (hJ k1 (b + 78)) (o k * o k))) := (L1.sF 70 8 _ (by decide +kernel)).sJ _ _
      change cal _ _ _ _ _ = some (none, drf b h _ _) at eB
      change cal _ _ _ _ _ = some (none, nxt b k1 _ _) at eL
      rw [← ex] at eB eL
      rw [← e] at eq eL
      refine ⟨k2, o', z, ⟨.int r, k1, ?_, ?_⟩, RM, fM⟩
      · simp only [e_X3_turn, s_X3_turn_0, s_X3_turn_1, s_X3_turn_2, s_X3_turn_5, s_X3_turn_5n, s_X3_turn_6, s_X3_turn_6n, s_X3_turn_7, s_X3_turn_7n, s_X3_turn_10, s_X3_turn_12, s_X3_turn_13, s_X3_turn_14, s_X3_turn_17, s_X3_turn_18, s_X3_turn_20, s_X3_turn_23, s_X3_turn_25, s_X3_turn_26, s_X3_turn_27, s_X3_turn_30, s_X3_turn_30n, s_X3_turn_31, s_X3_turn_32, s_X3_turn_35, s_X3_turn_36, s_X3_turn_39, if_true, if_false, and_true, true_and, and_false, false_and, true_or, or_true, or_false, false_or, eq_self, not_true_eq_false, not_false_eq_true, zv_int, zv_ref, zv_null, zv_none, hK_sI, hF_sI, hJ_sI, hN_sI, hZ_sI, hI_sI_same, hK_sJ, hF_sJ, hI_sJ, hN_sJ, hZ_sJ, hJ_sJ_same, hK_sF, hI_sF, hJ_sF, hN_sF, hZ_sF, Option.bind_some, Option.toList_some, Option.toList_none, List.cons_append, List.nil_append, zq_ref, zq_null, L.k0, L.p0_2, L.k3, LA.k0, e1 E (d + 7), e8, c0, c1, eB, eK E (d + 6)]
      · simp (decide := true) only [e_X4_turn, s_X4_turn_0, s_X4_turn_1, s_X4_turn_2, s_X4_turn_5, s_X4_turn_8, s_X4_turn_10, s_X4_turn_11, s_X4_turn_12, s_X4_turn_13, s_X4_turn_14, s_X4_turn_17, s_X4_turn_20, s_X4_turn_23, s_X4_turn_25, s_X4_turn_26, s_X4_turn_27, s_X4_turn_28, s_X4_turn_29, s_X4_turn_32, s_X4_turn_33, s_X4_turn_36, if_true, if_false, and_true, true_and, and_false, false_and, true_or, or_true, or_false, false_or, eq_self, not_true_eq_false, not_false_eq_true, zv_int, zv_ref, zv_null, zv_none, hK_sI, hF_sI, hJ_sI, hN_sI, hZ_sI, hI_sI_same, hK_sJ, hF_sJ, hI_sJ, hN_sJ, hZ_sJ, hJ_sJ_same, hK_sF, hI_sF, hJ_sF, hN_sF, hZ_sF, Option.bind_some, Option.toList_some, Option.toList_none, List.cons_append, List.nil_append, zq_ref, zq_null, L1.k70, L2.k70, eq E (d + 6), i8, eL, eM E (d + 6)]
end
