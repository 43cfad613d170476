/-! ===== the class seeks ===== -/
section
variable {E : mE} {d : Nat} {h h1 h2 : mH} {b : Nat}
theorem c_X0_planOf {n : Nat} (hn : 1 ≤ n ∧ n ≤ 4) : cal E (d + 1) kX0_planOf [.int (nI n)] h = some (some (.ref (E.1 (n - 1))), h) := by
  have hc : n = 1 ∨ n = 2 ∨ n = 3 ∨ n = 4 := by omega
  have n1 : nI 1 = 1 := rfl
  have n2 : nI 2 = 2 := rfl
  have n3 : nI 3 = 3 := rfl
  rcases hc with rfl | rfl | rfl | rfl
  · simp only [e_X0_planOf, s_X0_planOf_0, n1, s_X0_planOf_1_1, s_X0_planOf_28, s_X0_planOf_31]
  · simp only [e_X0_planOf, s_X0_planOf_0, n2, s_X0_planOf_1_2, s_X0_planOf_32, s_X0_planOf_35]
  · simp only [e_X0_planOf, s_X0_planOf_0, n3, s_X0_planOf_1_3, s_X0_planOf_36, s_X0_planOf_39]
  · rw [e_X0_planOf, s_X0_planOf_0, s_X0_planOf_1_d (by decide)]
    simp only [s_X0_planOf_40, s_X0_planOf_43]
/-- the room of the keys -/
def KRg (b Z g ka : Nat) (h : mH) : Prop := g ≤ 8 ∧ hF h (b + 8) 2 = .ref ka ∧ hK h ka = (2, 32 * 2 ^ g) ∧ (ka = b + 12 ∨ b + 86 ≤ ka) ∧ ka < hN h ∧ hN h = b + 86 + g ∧ hZ h = Z + 64 * (2 ^ g - 1)
def KR (b Z : Nat) (h : mH) : Prop := ∃ g ka, KRg b Z g ka h
theorem FK_KR {Z n : Nat} {K : List Nat} (F : FK b Z n K h) : KR b Z h := by
  obtain ⟨g, ka, g8, f2, k1, hka, kN, eN, eZ, _⟩ := F
  exact ⟨g, ka, g8, f2, k1, hka, kN, eN, eZ⟩
/-- the finder before it holds -/
def sch (b n : Nat) (ask : Int32) (E : mE) (h : mH) : mH := sF (sF (sF (sF (sF (sF (sF (sF h (b + 8) 3 (.int 0)) (b + 8) 4 (.int 0)) (b + 8) 5 (.int (nI n))) (b + 8) 6 (.int (nI (n * n)))) (b + 8) 7 (.int (nI (TT n)))) (b + 8) 8 (.int ask)) (b + 8) 9 (.int 0)) (b + 8) 10 (.ref (E.1 (n - 1)))
theorem TT_nI {n : Nat} (hn : 1 ≤ n ∧ n ≤ 4) : nI n * (nI (n * n) + 1) / 2 = nI (TT n) := by
  have hc : n = 1 ∨ n = 2 ∨ n = 3 ∨ n = 4 := by omega
  rcases hc with rfl | rfl | rfl | rfl <;> decide
theorem c_search {Z n s : Nat} {ask : Int32} {rd pd : Bool} (hE : zES E) (hb : ∀ k, k < 7 → E.1 k < b) (hn : 1 ≤ n ∧ n ≤ 4) (hs : s < 4) (ha4 : ask &&& 4 = 0 ↔ rd = false) (ha8 : ask &&& 8 = 0 ↔ pd = false) (L : Lay b h) (st : ∀ k, k < 7 → (hK h (E.1 k)).1 = 0) (kr : KR b Z h) : ∃ h' K, cal E (d + 23) kX0_search [.ref (b + 8), .ref (aS b s), .int (nI n), .int ask] h = some (none, h') ∧ frm b h h' ∧ Lay b h' ∧ FK b Z n K h' ∧ sor K ∧ hF h' (b + 8) 5 = .int (nI n) ∧ hF h' (b + 8) 6 = .int (nI (n * n)) ∧ ∀ κ, κ ∈ K ↔ hokP (hI h (aT b s)) (n * n) (n * n) ∧ ∃ f, Sol n rd pd (hdv (hI h (aT b s))) f ∧ kyr f (n * n) = κ := by
  have nn : n * n ≤ 16 := Nat.mul_le_mul hn.2 hn.2
  have n0 : 1 ≤ n * n := Nat.mul_pos hn.1 hn.1
  obtain ⟨h1, eh1⟩ : ∃ h1, h1 = sch b n ask E h := ⟨_, rfl⟩
  have fo : ∀ a j, ¬ (a = b + 8 ∧ 3 ≤ j ∧ j ≤ 10) → hF h1 a j = hF h a j := fun a j q => by
    rw [eh1]
    unfold sch
    rw [hF_sF, if_neg (by omega), hF_sF, if_neg (by omega), hF_sF, if_neg (by omega), hF_sF, if_neg (by omega), hF_sF, if_neg (by omega), hF_sF, if_neg (by omega), hF_sF, if_neg (by omega), hF_sF, if_neg (by omega)]
  have s1 : hI h1 = hI h ∧ hJ h1 = hJ h ∧ hK h1 = hK h ∧ hN h1 = hN h ∧ hZ h1 = hZ h := by rw [eh1]; exact ⟨rfl, rfl, rfl, rfl, rfl⟩
  obtain ⟨i1, j1, k1, nN1, z1⟩ := s1
  have L1 : Lay b h1 := by
    rw [eh1]
    exact (((((((L.sF 8 3 _ (by decide +kernel)).sF 8 4 _ (by decide +kernel)).sF 8 5 _ (by decide +kernel)).sF 8 6 _ (by decide +kernel)).sF 8 7 _ (by decide +kernel)).sF 8 8 _ (by decide +kernel)).sF 8 9 _ (by decide +kernel)).sF 8 10 _ (by decide +kernel)
  have a3 : hF h1 (b + 8) 3 = .int 0 := by rw [eh1]; simp (decide := true) only [sch, hF_sF, and_true, true_and, and_false, if_true, if_false]
  have a4 : hF h1 (b + 8) 4 = .int 0 := by rw [eh1]; simp (decide := true) only [sch, hF_sF, and_true, true_and, and_false, if_true, if_false]
  have a5 : hF h1 (b + 8) 5 = .int (nI n) := by rw [eh1]; simp (decide := true) only [sch, hF_sF, and_true, true_and, and_false, if_true, if_false]
  have a6 : hF h1 (b + 8) 6 = .int (nI (n * n)) := by rw [eh1]; simp (decide := true) only [sch, hF_sF, and_true, true_and, and_false, if_true, if_false]
  have a7 : hF h1 (b + 8) 7 = .int (nI (TT n)) := by rw [eh1]; simp (decide := true) only [sch, hF_sF, and_true, true_and, and_false, if_true, if_false]
  have a8 : hF h1 (b + 8) 8 = .int ask := by rw [eh1]; simp (decide := true) only [sch, hF_sF, and_true, true_and, and_false, if_true, if_false]
  have a9 : hF h1 (b + 8) 9 = .int 0 := by rw [eh1]; simp (decide := true) only [sch, hF_sF, and_true, true_and, and_false, if_true, if_false]
  have a10 : hF h1 (b + 8) 10 = .ref (E.1 (n - 1)) := by rw [eh1]; simp (decide := true) only [sch, hF_sF, and_true, true_and, and_false, if_true, if_false]
  have eC := c_X2_clear (E := E) (d := d + 20) (n := nI n) L1.k9 L1.k10 L1.p9_0
  obtain ⟨h2, eh2⟩ : ∃ h2, h2 = sI (sF h1 (b + 9) 1 (.int (nI n))) (b + 10) (rw_ (fun _ => 0) (hI h1 (b + 10)) 144) := ⟨_, rfl⟩
  rw [← eh2] at eC
  have L2 : Lay b h2 := by rw [eh2]; exact (L1.sF 9 1 _ (by decide +kernel)).sI _ _
  have fo2 : ∀ a j, ¬ (a = b + 9 ∧ j = 1) → hF h2 a j = hF h1 a j := fun a j q => by rw [eh2, hF_sI, hF_sF, if_neg q]
  have i2 : ∀ a, a ≠ b + 10 → hI h2 a = hI h a := fun a ha => by rw [eh2, hI_sI_ne _ _ ha, hI_sF, i1]
  have s2 : hJ h2 = hJ h ∧ hK h2 = hK h ∧ hN h2 = hN h ∧ hZ h2 = hZ h := by rw [eh2]; exact ⟨j1, k1, nN1, z1⟩
  obtain ⟨j2, k2, nN2, z2⟩ := s2
  have fr2 : frm b h h2 := ⟨fun a _ h10 _ => i2 a h10, fun a j _ h8 h9 => by rw [fo2 a j (fun q => h9 q.1), fo a j (fun q => h8 q.1)], fun a _ _ => by rw [j2], fun a _ => by rw [k2]⟩
  have rT : hI h2 (aT b s) = hI h (aT b s) := i2 _ (by unfold aT; omega)
  have b6 : hF h2 (b + 8) 6 = .int (nI (n * n)) := by rw [fo2 _ _ (by omega)]; exact a6
  have b9 : hF h2 (b + 8) 9 = .int 0 := by rw [fo2 _ _ (by omega)]; exact a9
  -- what is held
  have eH := lp_hold (E := E) (d := d + 20) (g := hI h2 (b + 11)) (r := hI h2 (aT b s)) L2 hs rfl nn b6 rfl (n * n) 0 0 none (by omega) (fun j hj => absurd hj (by omega)) (fun v _ _ => ⟨fun _ j hj => absurd hj (by omega), fun _ => by
    unfold ub
    exact zero_and32 _⟩)
  have h00 : hoh h2 b (hI h2 (aT b s)) (hI h2 (b + 11)) 0 0 = h2 := by
    unfold hoh
    rw [rw_0, ← b9]
    have e1 : sF h2 (b + 8) 9 (hF h2 (b + 8) 9) = h2 := sF_self h2 (b + 8) 9
    rw [e1, sI_self]
  rw [h00, nI_0] at eH
  -- the finder with what was held
  have frH : ∀ u i, frm b h (hoh h2 b (hI h2 (aT b s)) (hI h2 (b + 11)) u i) := fun u i => by
    refine frm_trans fr2 ⟨fun a _ _ h11 => ?_, fun a j _ h8 _ => ?_, fun _ _ _ => rfl, fun _ _ => rfl⟩
    · unfold hoh
      rw [hI_sI_ne _ _ h11, hI_sF]
    · unfold hoh
      rw [hF_sI, hF_sF, if_neg (fun q => h8 q.1)]
  have LH : ∀ u i, Lay b (hoh h2 b (hI h2 (aT b s)) (hI h2 (b + 11)) u i) := fun u i => (L2.sF 8 9 _ (by decide +kernel)).sI _ _
  have fH : ∀ u i a j, ¬ (a = b + 8 ∧ j = 9) → hF (hoh h2 b (hI h2 (aT b s)) (hI h2 (b + 11)) u i) a j = hF h2 a j := fun u i a j q => by
    unfold hoh
    rw [hF_sI, hF_sF, if_neg q]
  have FKH : ∀ u i, FK b Z n [] (hoh h2 b (hI h2 (aT b s)) (hI h2 (b + 11)) u i) := fun u i => by
    obtain ⟨g, ka, g8, f2, kk, hka, kN, eN, eZ⟩ := kr
    refine ⟨g, ka, g8, ?_, ?_, hka, ?_, ?_, ?_, Nat.zero_le _, fun j hj => absurd hj (Nat.not_lt_zero j), ?_, ?_⟩
    · rw [fH _ _ _ _ (by omega), fo2 _ _ (by omega), fo _ _ (by omega)]
      exact f2
    · show hK h2 ka = _
      rw [k2]
      exact kk
    · show ka < hN h2
      rw [nN2]
      exact kN
    · show hN h2 = _
      rw [nN2]
      exact eN
    · show hZ h2 = _
      rw [z2]
      exact eZ
    · rw [fH _ _ _ _ (by omega), fo2 _ _ (by omega)]
      exact a3
    · rw [fH _ _ _ _ (by omega), fo2 _ _ (by omega)]
      exact a4
  have ePl := c_X0_planOf (E := E) (d := d + 21) (h := sF (sF (sF (sF (sF (sF (sF h (b + 8) 3 (.int 0)) (b + 8) 4 (.int 0)) (b + 8) 5 (.int (nI n))) (b + 8) 6 (.int (nI (n * n)))) (b + 8) 7 (.int (nI (TT n)))) (b + 8) 8 (.int ask)) (b + 8) 9 (.int 0)) hn
  have tt := TT_nI hn
  -- the way up to hold
  have A : cal E (d + 23) kX0_search [.ref (b + 8), .ref (aS b s), .int (nI n), .int ask] h = (cal E (d + 22) kX0_hold [.ref (b + 8), .ref (aS b s)] h2).bind (fun x => zl E (d + 22) kX0_search 67 [some (.ref (b + 8)), some (.ref (aS b s)), some (.int (nI n)), some (.int ask)] (x.1.toList ++ []) x.2) := by
    simp (decide := true) only [e_X0_search, s_X0_search_0, s_X0_search_1, s_X0_search_2, s_X0_search_5, s_X0_search_6, s_X0_search_7, s_X0_search_10, s_X0_search_11, s_X0_search_12, s_X0_search_15, s_X0_search_16, s_X0_search_17, s_X0_search_18, s_X0_search_19, s_X0_search_22, s_X0_search_23, s_X0_search_24, s_X0_search_25, s_X0_search_28, s_X0_search_29, s_X0_search_30, s_X0_search_31, s_X0_search_32, s_X0_search_33, s_X0_search_36, s_X0_search_37, s_X0_search_38, s_X0_search_41, s_X0_search_42, s_X0_search_43, s_X0_search_46, s_X0_search_47, s_X0_search_48, s_X0_search_51, s_X0_search_70, s_X0_search_71, s_X0_search_72, s_X0_search_75, if_true, if_false, and_true, true_and, and_false, false_and, true_or, or_true, or_false, false_or, eq_self, not_true_eq_false, not_false_eq_true, zv_int, zv_ref, zv_null, zv_none, hK_sI, hF_sI, hJ_sI, hN_sI, hZ_sI, hI_sI_same, hK_sJ, hF_sJ, hI_sJ, hN_sJ, hZ_sJ, hJ_sJ_same, hK_sF, hI_sF, hJ_sF, hN_sF, hZ_sF, Option.bind_some, Option.toList_some, Option.toList_none, List.cons_append, List.nil_append, zq_ref, zq_null, L.k8, hF_sF, pk_mul, tt, zfit, ePl]
    rw [show sF (sF (sF (sF (sF (sF (sF (sF h (b + 8) 3 (.int 0)) (b + 8) 4 (.int 0)) (b + 8) 5 (.int (nI n))) (b + 8) 6 (.int (nI (n * n)))) (b + 8) 7 (.int (nI (TT n)))) (b + 8) 8 (.int ask)) (b + 8) 9 (.int 0)) (b + 8) 10 (.ref (E.1 (n - 1))) = h1 from eh1.symm]
    simp (decide := true) only [s_X0_search_54, s_X0_search_55, s_X0_search_58, s_X0_search_59, if_true, if_false, and_true, true_and, and_false, false_and, true_or, or_true, or_false, false_or, eq_self, not_true_eq_false, not_false_eq_true, zv_int, zv_ref, zv_null, zv_none, hK_sI, hF_sI, hJ_sI, hN_sI, hZ_sI, hI_sI_same, hK_sJ, hF_sJ, hI_sJ, hN_sJ, hZ_sJ, hJ_sJ_same, hK_sF, hI_sF, hJ_sF, hN_sF, hZ_sF, Option.bind_some, Option.toList_some, Option.toList_none, List.cons_append, List.nil_append, zq_ref, zq_null, L1.k8, L1.p8_0, L1.k9, eC]
    simp (decide := true) only [s_X0_search_62, s_X0_search_63, s_X0_search_64, if_true, if_false, and_true, true_and, and_false, false_and, true_or, or_true, or_false, false_or, eq_self, not_true_eq_false, not_false_eq_true, zv_int, zv_ref, zv_null, zv_none, hK_sI, hF_sI, hJ_sI, hN_sI, hZ_sI, hI_sI_same, hK_sJ, hF_sJ, hI_sJ, hN_sJ, hZ_sJ, hJ_sJ_same, hK_sF, hI_sF, hJ_sF, hN_sF, hZ_sF, Option.bind_some, Option.toList_some, Option.toList_none, List.cons_append, List.nil_append, zq_ref, zq_null, L2.k8]
  have eHc : cal E (d + 22) kX0_hold [.ref (b + 8), .ref (aS b s)] h2 = zl E (d + 21) kX0_hold 2 [some (.ref (b + 8)), some (.ref (aS b s)), some (.int 0), none] [] h2 := by
    simp (decide := true) only [e_X0_hold, s_X0_hold_0, s_X0_hold_1, if_true, if_false, and_true, true_and, and_false, false_and, true_or, or_true, or_false, false_or, eq_self, not_true_eq_false, not_false_eq_true, zv_int, zv_ref, zv_null, zv_none, hK_sI, hF_sI, hJ_sI, hN_sI, hZ_sI, hI_sI_same, hK_sJ, hF_sJ, hI_sJ, hN_sJ, hZ_sJ, hJ_sJ_same, hK_sF, hI_sF, hJ_sF, hN_sF, hZ_sF, Option.bind_some, Option.toList_some, Option.toList_none, List.cons_append, List.nil_append, zq_ref, zq_null]
  rcases eH with ⟨ok, u', U', e1⟩ | ⟨nok, u', i', e1⟩
  · rw [rT] at ok
    have hd_ := hdv_ok nn ok
    have HDok := hokP_HD hn ok
    obtain ⟨h3, eh3⟩ : ∃ h3, h3 = hoh h2 b (hI h2 (aT b s)) (hI h2 (b + 11)) u' (n * n) := ⟨_, rfl⟩
    have C3 : FC E b n ask (hdv (hI h (aT b s))) h3 := by
      rw [eh3]
      refine ⟨LH _ _, fun k hk => ?_, ?_, ?_, ?_, ?_, ?_, ?_, fun p hp => ?_⟩
      · show (hK h2 (E.1 k)).1 = 0
        rw [k2]
        exact st k hk
      · rw [fH _ _ _ _ (by omega), fo2 _ _ (by omega)]; exact a5
      · rw [fH _ _ _ _ (by omega), fo2 _ _ (by omega)]; exact a6
      · rw [fH _ _ _ _ (by omega), fo2 _ _ (by omega)]; exact a7
      · rw [fH _ _ _ _ (by omega), fo2 _ _ (by omega)]; exact a8
      · rw [fH _ _ _ _ (by omega), fo2 _ _ (by omega)]; exact a10
      · rw [fH _ _ _ _ (by omega), eh2, hF_sI, hF_sF, if_pos ⟨rfl, rfl⟩]
      · unfold hoh
        rw [hI_sI_same, rw_in hp, rT]
        exact (hd_ p hp).1
    have T3 : ST E b Z n ask rd pd (hdv (hI h (aT b s))) (fun _ => 0) 0 u' [] h3 := by
      refine ⟨C3, by rw [eh3]; exact FKH _ _, ?_, fun j hj => absurd hj (by omega), List.Pairwise.nil, fun κ hκ => by cases hκ⟩
      rw [eh3]
      unfold hoh
      rw [hF_sI, hF_sF, if_pos ⟨rfl, rfl⟩]
    have U3 : UM n (hdv (hI h (aT b s))) (fun _ => 0) 0 u' := fun v v1 v2 => by
      rw [U' v v1 v2, rT]
      constructor
      · intro q
        refine ⟨fun p hp e => ?_, fun j hj => absurd hj (by omega)⟩
        apply q p hp
        rw [(hd_ p hp).1, e]
      · rintro ⟨q, _⟩ p hp e
        apply q p hp
        rw [(hd_ p hp).1] at e
        have := (hd_ p hp).2
        exact (nI_eq (by omega) (by omega)).mp e
    obtain ⟨h4, K, eL, T4, fr4, m4⟩ := lay_all (E := E) (d := d + 17 - n * n) (Z := Z) hE hb hn HDok ha4 ha8 (n * n) 0 (by omega) (fun _ => 0) u' [] h3 ⟨fun j hj => absurd hj (by omega), fun i j _ hj => absurd hj (by omega)⟩ U3 T3 (fun κ hκ => by cases hκ)
    rw [show d + 17 - n * n + 5 + n * n = d + 22 by omega, nI_0] at eL
    obtain ⟨C4, F4, _, _, sK4, _⟩ := T4
    refine ⟨h4, K, ?_, frm_trans (by rw [eh3]; exact frH _ _) fr4, C4.1, F4, sK4, C4.2.2.1, C4.2.2.2.1, fun κ => ?_⟩
    · have e1' : zl E (d + 21) kX0_hold 2 [some (.ref (b + 8)), some (.ref (aS b s)), some (.int 0), none] [] h2 = some (some (.int 1), h3) := by rw [eh3]; exact e1
      rw [A, eHc, e1']
      simp (decide := true) only [s_X0_search_67, s_X0_search_70, s_X0_search_71, s_X0_search_72, s_X0_search_75, if_true, if_false, and_true, true_and, and_false, false_and, true_or, or_true, or_false, false_or, eq_self, not_true_eq_false, not_false_eq_true, zv_int, zv_ref, zv_null, zv_none, hK_sI, hF_sI, hJ_sI, hN_sI, hZ_sI, hI_sI_same, hK_sJ, hF_sJ, hI_sJ, hN_sJ, hZ_sJ, hJ_sJ_same, hK_sF, hI_sF, hJ_sF, hN_sF, hZ_sF, Option.bind_some, Option.toList_some, Option.toList_none, List.cons_append, List.nil_append, zq_ref, zq_null, C3.1.k8, eL]
    · rw [m4]
      constructor
      · rintro (q | ⟨f, S, ek, _⟩)
        · cases q
        · exact ⟨ok, f, S, ek⟩
      · rintro ⟨_, f, S, ek⟩
        exact Or.inr ⟨f, S, ek, fun j hj => absurd hj (by omega)⟩
  · rw [rT] at nok
    refine ⟨hoh h2 b (hI h2 (aT b s)) (hI h2 (b + 11)) u' i', [], ?_, frH _ _, LH _ _, FKH _ _, List.Pairwise.nil, ?_, ?_, fun κ => ⟨fun q => (by cases q), fun q => absurd q.1 nok⟩⟩
    · have e1' : zl E (d + 21) kX0_hold 2 [some (.ref (b + 8)), some (.ref (aS b s)), some (.int 0), none] [] h2 = some (some (.int 0), hoh h2 b (hI h2 (aT b s)) (hI h2 (b + 11)) u' i') := e1
      rw [A, eHc, e1']
      simp (decide := true) only [s_X0_search_67, s_X0_search_70, s_X0_search_71, s_X0_search_72, s_X0_search_75, if_true, if_false, and_true, true_and, and_false, false_and, true_or, or_true, or_false, false_or, eq_self, not_true_eq_false, not_false_eq_true, zv_int, zv_ref, zv_null, zv_none, hK_sI, hF_sI, hJ_sI, hN_sI, hZ_sI, hI_sI_same, hK_sJ, hF_sJ, hI_sJ, hN_sJ, hZ_sJ, hJ_sJ_same, hK_sF, hI_sF, hJ_sF, hN_sF, hZ_sF, Option.bind_some, Option.toList_some, Option.toList_none, List.cons_append, List.nil_append, zq_ref, zq_null]
    · rw [fH _ _ _ _ (by omega), fo2 _ _ (by omega)]; exact a5
    · rw [fH _ _ _ _ (by omega), fo2 _ _ (by omega)]; exact a6
end
