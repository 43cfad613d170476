/-! ===== place ===== -/
section
variable {E : mE} {d : Nat} {h h1 h2 : mH} {b : Nat}
/-- the only one is the first one -/
theorem fs_first {p : Nat → Bool} : ∀ {k i m : Nat}, i ≤ m → m < i + k → p m = true → (∀ j, i ≤ j → j < m → p j = false) → fs p k i = some m
  | 0, i, m, h1, h2, _, _ => absurd h2 (by omega)
  | k + 1, i, m, h1, h2, hm, hl => by
    unfold fs
    by_cases c : i = m
    · rw [c, hm]
      rfl
    · rw [hl i (Nat.le_refl _) (by omega)]
      exact fs_first (by omega) (by omega) hm (fun j a1 a2 => hl j (by omega) a2)
theorem lp_bin {n len N ka : Nat} {K : List Nat} {μ : Nat} {v1 : Option Value} (L : Lay b h) (f2 : hF h (b + 8) 2 = .ref ka) (k1 : hK h ka = (2, N)) (hl : len = K.length) (hN : len ≤ N) (hN2 : N ≤ 8192) (l72 : len ≤ 7200) (dat : ∀ j, j < len → hJ h ka j = enc (K.getD j 0)) (sK : sor K) (vK : ∀ κ ∈ K, κ < 2 ^ 64) (hμ : μ < 2 ^ 64) : ∀ (f lo hi t : Nat) (w7 : Option Value), hi - lo ≤ f → lo ≤ hi → hi ≤ len → t + (hi - lo) ≤ 7200 → (∀ j, j < lo → K.getD j 0 < μ) → (∀ j, hi ≤ j → j < len → μ < K.getD j 0) → zl E d kX0_indexOf 40 [some (.ref (b + 8)), v1, some (.long (enc μ)), none, some (.int (nI lo)), some (.int (nI hi - 1)), some (.int (nI t)), w7] [] h = some (some (.int (rs (fs (fun j => decide (K.getD j 0 = μ)) len 0))), h)
  | f, lo, hi, t, w7, hf, h1, h2, h3, hlo, hhi => by
    have hiI : (nI hi - 1).toInt = (hi : Int) - 1 := by
      have one : (1 : Int32).toInt = 1 := rfl
      rw [su32 (by rw [nIt (by omega), one]; omega), nIt (by omega), one]
    rw [s_X0_indexOf_40]
    by_cases c : lo = hi
    · have q1 : nI hi - 1 < nI lo := by rw [Int32.lt_iff_toInt_lt, hiI, nIt (by omega)]; omega
      have none_ : fs (fun j => decide (K.getD j 0 = μ)) len 0 = none := fs_none.mpr (fun j _ hj => decide_eq_false (fun e => by
        by_cases x : j < lo
        · have := hlo j x
          omega
        · have := hhi j (by omega) (by omega)
          omega))
      rw [none_]
      simp (decide := true) only [s_X0_indexOf_0, s_X0_indexOf_1, s_X0_indexOf_4, s_X0_indexOf_5, s_X0_indexOf_8, s_X0_indexOf_11, s_X0_indexOf_12, s_X0_indexOf_13, s_X0_indexOf_16, s_X0_indexOf_19, s_X0_indexOf_20, s_X0_indexOf_21, s_X0_indexOf_22, s_X0_indexOf_25, s_X0_indexOf_26, s_X0_indexOf_27, s_X0_indexOf_29, s_X0_indexOf_30, s_X0_indexOf_33, s_X0_indexOf_34, s_X0_indexOf_35, s_X0_indexOf_37, s_X0_indexOf_38, s_X0_indexOf_42, s_X0_indexOf_44, s_X0_indexOf_47, s_X0_indexOf_49, s_X0_indexOf_52, s_X0_indexOf_55, s_X0_indexOf_57, s_X0_indexOf_59, s_X0_indexOf_60, s_X0_indexOf_61, s_X0_indexOf_62, s_X0_indexOf_64, s_X0_indexOf_65, s_X0_indexOf_68, s_X0_indexOf_70, s_X0_indexOf_71, s_X0_indexOf_72, s_X0_indexOf_73, s_X0_indexOf_76, s_X0_indexOf_78, s_X0_indexOf_79, s_X0_indexOf_80, s_X0_indexOf_83, s_X0_indexOf_85, s_X0_indexOf_86, s_X0_indexOf_87, s_X0_indexOf_88, s_X0_indexOf_91, s_X0_indexOf_93, s_X0_indexOf_94, s_X0_indexOf_95, s_X0_indexOf_97, s_X0_indexOf_100, s_X0_indexOf_102, s_X0_indexOf_103, s_X0_indexOf_104, s_X0_indexOf_106, s_X0_indexOf_109, s_X0_indexOf_112, s_X0_indexOf_113, if_true, if_false, and_true, true_and, and_false, false_and, true_or, or_true, or_false, false_or, eq_self, not_true_eq_false, not_false_eq_true, zv_int, zv_ref, zv_null, zv_none, hK_sI, hF_sI, hJ_sI, hN_sI, hZ_sI, hI_sI_same, hK_sJ, hF_sJ, hI_sJ, hN_sJ, hZ_sJ, hJ_sJ_same, hK_sF, hI_sF, hJ_sF, hN_sF, hZ_sF, Option.bind_some, Option.toList_some, Option.toList_none, List.cons_append, List.nil_append, zq_ref, zq_null, q1]
      rfl
    · obtain ⟨f', rfl⟩ : ∃ f', f = f' + 1 := ⟨f - 1, by omega⟩
      have q1 : ¬ nI hi - 1 < nI lo := by rw [Int32.lt_iff_toInt_lt, hiI, nIt (by omega)]; omega
      have q2 : ¬ 8192 ≤ nI t := nI_ge (b := 8192) (by omega) (by decide)
      obtain ⟨m, em⟩ : ∃ m, m = (lo + hi - 1) / 2 := ⟨_, rfl⟩
      have m1 : lo ≤ m := by omega
      have m2 : m < hi := by omega
      have sum : nI lo + (nI hi - 1) = nI (lo + hi - 1) := by
        apply Int32.toInt_inj.1
        rw [ad32 (by rw [hiI, nIt (by omega)]; omega), hiI, nIt (by omega), nIt (by omega)]
        omega
      have dv_ : nI (lo + hi - 1) / 2 = nI m := by
        rw [show (2 : Int32) = nI 2 from rfl, pk_div (by omega) (by omega) (by omega), em]
      have z0 : zR (nI m) N := zR_to (by omega) (by omega)
      have z1 : (nI m).toNatClampNeg = m := nI_clamp (by omega)
      have dm := dat m (by omega)
      have vm := vK _ (getD_mem (l := K) (j := m) (by omega))
      by_cases ce : K.getD m 0 = μ
      · have some_ : fs (fun j => decide (K.getD j 0 = μ)) len 0 = some m := fs_first (by omega) (by omega) (decide_eq_true ce) (fun j _ hj => decide_eq_false (fun e => by
          have := sor_iff.mp sK j m hj (by omega)
          omega))
        have e0 : lg_cmp (enc μ) (enc μ) = 0 := (lg_cmp_eq _ _).mpr rfl
        rw [some_]
        rw [ce] at dm
        simp (decide := true) only [s_X0_indexOf_0, s_X0_indexOf_1, s_X0_indexOf_4, s_X0_indexOf_5, s_X0_indexOf_8, s_X0_indexOf_11, s_X0_indexOf_12, s_X0_indexOf_13, s_X0_indexOf_16, s_X0_indexOf_19, s_X0_indexOf_20, s_X0_indexOf_21, s_X0_indexOf_22, s_X0_indexOf_25, s_X0_indexOf_26, s_X0_indexOf_27, s_X0_indexOf_29, s_X0_indexOf_30, s_X0_indexOf_33, s_X0_indexOf_34, s_X0_indexOf_35, s_X0_indexOf_37, s_X0_indexOf_38, s_X0_indexOf_42, s_X0_indexOf_44, s_X0_indexOf_47, s_X0_indexOf_49, s_X0_indexOf_52, s_X0_indexOf_55, s_X0_indexOf_57, s_X0_indexOf_59, s_X0_indexOf_60, s_X0_indexOf_61, s_X0_indexOf_62, s_X0_indexOf_64, s_X0_indexOf_65, s_X0_indexOf_68, s_X0_indexOf_70, s_X0_indexOf_71, s_X0_indexOf_72, s_X0_indexOf_73, s_X0_indexOf_76, s_X0_indexOf_78, s_X0_indexOf_79, s_X0_indexOf_80, s_X0_indexOf_83, s_X0_indexOf_85, s_X0_indexOf_86, s_X0_indexOf_87, s_X0_indexOf_88, s_X0_indexOf_91, s_X0_indexOf_93, s_X0_indexOf_94, s_X0_indexOf_95, s_X0_indexOf_97, s_X0_indexOf_100, s_X0_indexOf_102, s_X0_indexOf_103, s_X0_indexOf_104, s_X0_indexOf_106, s_X0_indexOf_109, s_X0_indexOf_112, s_X0_indexOf_113, if_true, if_false, and_true, true_and, and_false, false_and, true_or, or_true, or_false, false_or, eq_self, not_true_eq_false, not_false_eq_true, zv_int, zv_ref, zv_null, zv_none, hK_sI, hF_sI, hJ_sI, hN_sI, hZ_sI, hI_sI_same, hK_sJ, hF_sJ, hI_sJ, hN_sJ, hZ_sJ, hJ_sJ_same, hK_sF, hI_sF, hJ_sF, hN_sF, hZ_sF, Option.bind_some, Option.toList_some, Option.toList_none, List.cons_append, List.nil_append, zq_ref, zq_null, L.k8, f2, k1, q1, q2, sum, dv_, z0, z1, dm, e0]
        rfl
      · have e0 : ¬ lg_cmp (enc (K.getD m 0)) (enc μ) = 0 := fun q => ce ((enc_eq vm hμ).mp ((lg_cmp_eq _ _).mp q))
        have t1 := nI_1 t
        by_cases cl : K.getD m 0 < μ
        · have e1 : ¬ 0 ≤ lg_cmp (enc (K.getD m 0)) (enc μ) := fun q => lg_ge.mp q ((enc_lt vm hμ).mpr cl)
          have ih := lp_bin (n := n) (v1 := v1) L f2 k1 hl hN hN2 l72 dat sK vK hμ f' (m + 1) hi (t + 1) (some (.int (nI m))) (by omega) (by omega) h2 (by omega) (fun j hj => by
            by_cases x : j = m
            · rw [x]; exact cl
            · have := sor_iff.mp sK j m (by omega) (by omega)
              omega) hhi
          simp (decide := true) only [s_X0_indexOf_0, s_X0_indexOf_1, s_X0_indexOf_4, s_X0_indexOf_5, s_X0_indexOf_8, s_X0_indexOf_11, s_X0_indexOf_12, s_X0_indexOf_13, s_X0_indexOf_16, s_X0_indexOf_19, s_X0_indexOf_20, s_X0_indexOf_21, s_X0_indexOf_22, s_X0_indexOf_25, s_X0_indexOf_26, s_X0_indexOf_27, s_X0_indexOf_29, s_X0_indexOf_30, s_X0_indexOf_33, s_X0_indexOf_34, s_X0_indexOf_35, s_X0_indexOf_37, s_X0_indexOf_38, s_X0_indexOf_42, s_X0_indexOf_44, s_X0_indexOf_47, s_X0_indexOf_49, s_X0_indexOf_52, s_X0_indexOf_55, s_X0_indexOf_57, s_X0_indexOf_59, s_X0_indexOf_60, s_X0_indexOf_61, s_X0_indexOf_62, s_X0_indexOf_64, s_X0_indexOf_65, s_X0_indexOf_68, s_X0_indexOf_70, s_X0_indexOf_71, s_X0_indexOf_72, s_X0_indexOf_73, s_X0_indexOf_76, s_X0_indexOf_78, s_X0_indexOf_79, s_X0_indexOf_80, s_X0_indexOf_83, s_X0_indexOf_85, s_X0_indexOf_86, s_X0_indexOf_87, s_X0_indexOf_88, s_X0_indexOf_91, s_X0_indexOf_93, s_X0_indexOf_94, s_X0_indexOf_95, s_X0_indexOf_97, s_X0_indexOf_100, s_X0_indexOf_102, s_X0_indexOf_103, s_X0_indexOf_104, s_X0_indexOf_106, s_X0_indexOf_109, s_X0_indexOf_112, s_X0_indexOf_113, if_true, if_false, and_true, true_and, and_false, false_and, true_or, or_true, or_false, false_or, eq_self, not_true_eq_false, not_false_eq_true, zv_int, zv_ref, zv_null, zv_none, hK_sI, hF_sI, hJ_sI, hN_sI, hZ_sI, hI_sI_same, hK_sJ, hF_sJ, hI_sJ, hN_sJ, hZ_sJ, hJ_sJ_same, hK_sF, hI_sF, hJ_sF, hN_sF, hZ_sF, Option.bind_some, Option.toList_some, Option.toList_none, List.cons_append, List.nil_append, zq_ref, zq_null, L.k8, f2, k1, q1, q2, sum, dv_, z0, z1, dm, e0, e1, nI_1]
          exact ih
        · have e1 : 0 ≤ lg_cmp (enc (K.getD m 0)) (enc μ) := lg_ge.mpr (fun q => cl ((enc_lt vm hμ).mp q))
          have ih := lp_bin (n := n) (v1 := v1) L f2 k1 hl hN hN2 l72 dat sK vK hμ f' lo m (t + 1) (some (.int (nI m))) (by omega) (by omega) (by omega) (by omega) hlo (fun j a1 a2 => by
            by_cases x : j = m
            · rw [x]; omega
            · have := sor_iff.mp sK m j (by omega) (by omega)
              omega)
          simp (decide := true) only [s_X0_indexOf_0, s_X0_indexOf_1, s_X0_indexOf_4, s_X0_indexOf_5, s_X0_indexOf_8, s_X0_indexOf_11, s_X0_indexOf_12, s_X0_indexOf_13, s_X0_indexOf_16, s_X0_indexOf_19, s_X0_indexOf_20, s_X0_indexOf_21, s_X0_indexOf_22, s_X0_indexOf_25, s_X0_indexOf_26, s_X0_indexOf_27, s_X0_indexOf_29, s_X0_indexOf_30, s_X0_indexOf_33, s_X0_indexOf_34, s_X0_indexOf_35, s_X0_indexOf_37, s_X0_indexOf_38, s_X0_indexOf_42, s_X0_indexOf_44, s_X0_indexOf_47, s_X0_indexOf_49, s_X0_indexOf_52, s_X0_indexOf_55, s_X0_indexOf_57, s_X0_indexOf_59, s_X0_indexOf_60, s_X0_indexOf_61, s_X0_indexOf_62, s_X0_indexOf_64, s_X0_indexOf_65, s_X0_indexOf_68, s_X0_indexOf_70, s_X0_indexOf_71, s_X0_indexOf_72, s_X0_indexOf_73, s_X0_indexOf_76, s_X0_indexOf_78, s_X0_indexOf_79, s_X0_indexOf_80, s_X0_indexOf_83, s_X0_indexOf_85, s_X0_indexOf_86, s_X0_indexOf_87, s_X0_indexOf_88, s_X0_indexOf_91, s_X0_indexOf_93, s_X0_indexOf_94, s_X0_indexOf_95, s_X0_indexOf_97, s_X0_indexOf_100, s_X0_indexOf_102, s_X0_indexOf_103, s_X0_indexOf_104, s_X0_indexOf_106, s_X0_indexOf_109, s_X0_indexOf_112, s_X0_indexOf_113, if_true, if_false, and_true, true_and, and_false, false_and, true_or, or_true, or_false, false_or, eq_self, not_true_eq_false, not_false_eq_true, zv_int, zv_ref, zv_null, zv_none, hK_sI, hF_sI, hJ_sI, hN_sI, hZ_sI, hI_sI_same, hK_sJ, hF_sJ, hI_sJ, hN_sJ, hZ_sJ, hJ_sJ_same, hK_sF, hI_sF, hJ_sF, hN_sF, hZ_sF, Option.bind_some, Option.toList_some, Option.toList_none, List.cons_append, List.nil_append, zq_ref, zq_null, L.k8, f2, k1, q1, q2, sum, dv_, z0, z1, dm, e0, e1, nI_1]
          exact ih
/-- one row of the reference's against a square -/
theorem lp_pl_in {n q j : Nat} {f g : Nat → Int32} (L : Lay b h) (hn : 1 ≤ n ∧ n ≤ 4) (hq : q < 24) (hj : j < 7200) (f15 : hF h (b + 70) 15 = .int (nI n)) (hf : ∀ c, c < n * n → hI h (b + 81) (16 * j + c) = f c) (hg : ∀ c, c < n * n → hI h (b + 77) (144 * q + c) = g c) : ∀ (k p : Nat), p + k = n * n → ∃ w4, zl E d kX4_place 49 [some (.ref (b + 70)), some (.int (nI q)), some (.int (nI j)), some (.int 1), some (.int (nI p))] [] h = zl E d kX4_place 107 [some (.ref (b + 70)), some (.int (nI q)), some (.int (nI j)), some (.int (if al (fun c => decide (f c = g c)) k p = true then 1 else 0)), w4] [] h
  | 0, p, e => by
    have : p = n * n := by omega
    subst this
    refine ⟨some (.int (nI (n * n))), ?_⟩
    rw [s_X4_place_49]
    simp (decide := true) only [s_X4_place_0, s_X4_place_1, s_X4_place_4, s_X4_place_7, s_X4_place_9, s_X4_place_10, s_X4_place_11, s_X4_place_12, s_X4_place_15, s_X4_place_18, s_X4_place_20, s_X4_place_21, s_X4_place_22, s_X4_place_24, s_X4_place_25, s_X4_place_28, s_X4_place_31, s_X4_place_32, s_X4_place_35, s_X4_place_36, s_X4_place_37, s_X4_place_38, s_X4_place_41, s_X4_place_44, s_X4_place_45, s_X4_place_46, s_X4_place_47, s_X4_place_51, s_X4_place_52, s_X4_place_55, s_X4_place_56, s_X4_place_59, s_X4_place_60, s_X4_place_63, s_X4_place_64, s_X4_place_67, s_X4_place_68, s_X4_place_71, s_X4_place_73, s_X4_place_74, s_X4_place_75, s_X4_place_77, s_X4_place_78, s_X4_place_79, s_X4_place_80, s_X4_place_83, s_X4_place_86, s_X4_place_87, s_X4_place_88, s_X4_place_90, s_X4_place_91, s_X4_place_92, s_X4_place_95, s_X4_place_96, s_X4_place_99, s_X4_place_100, s_X4_place_101, s_X4_place_104, s_X4_place_108, s_X4_place_111, s_X4_place_112, s_X4_place_113, s_X4_place_116, s_X4_place_119, s_X4_place_120, if_true, if_false, and_true, true_and, and_false, false_and, true_or, or_true, or_false, false_or, eq_self, not_true_eq_false, not_false_eq_true, zv_int, zv_ref, zv_null, zv_none, hK_sI, hF_sI, hJ_sI, hN_sI, hZ_sI, hI_sI_same, hK_sJ, hF_sJ, hI_sJ, hN_sJ, hZ_sJ, hJ_sJ_same, hK_sF, hI_sF, hJ_sF, hN_sF, hZ_sF, Option.bind_some, Option.toList_some, Option.toList_none, List.cons_append, List.nil_append, zq_ref, zq_null, L.k70, f15, pk_mul, Int32.le_refl, al]
  | k + 1, p, e => by
    have nn : n * n ≤ 16 := Nat.mul_le_mul hn.2 hn.2
    have hp : p < n * n := by omega
    have q1 : ¬ nI (n * n) ≤ nI p := nI_ge (by omega) (by omega)
    have z0 : zR (nI (16 * j + p)) 115200 := zR_to (by decide) (by omega)
    have z1 : (nI (16 * j + p)).toNatClampNeg = 16 * j + p := nI_clamp (by omega)
    have z2 : zR (nI (144 * q + p)) 3456 := zR_to (by decide) (by omega)
    have z3 : (nI (144 * q + p)).toNatClampNeg = 144 * q + p := nI_clamp (by omega)
    have r1 := hf p hp
    have r2 := hg p hp
    unfold al
    by_cases c : f p = g p
    · obtain ⟨w4, ih⟩ := lp_pl_in L hn hq hj f15 hf hg k (p + 1) (by omega)
      refine ⟨w4, ?_⟩
      rw [s_X4_place_49]
      simp (decide := true) only [s_X4_place_0, s_X4_place_1, s_X4_place_4, s_X4_place_7, s_X4_place_9, s_X4_place_10, s_X4_place_11, s_X4_place_12, s_X4_place_15, s_X4_place_18, s_X4_place_20, s_X4_place_21, s_X4_place_22, s_X4_place_24, s_X4_place_25, s_X4_place_28, s_X4_place_31, s_X4_place_32, s_X4_place_35, s_X4_place_36, s_X4_place_37, s_X4_place_38, s_X4_place_41, s_X4_place_44, s_X4_place_45, s_X4_place_46, s_X4_place_47, s_X4_place_51, s_X4_place_52, s_X4_place_55, s_X4_place_56, s_X4_place_59, s_X4_place_60, s_X4_place_63, s_X4_place_64, s_X4_place_67, s_X4_place_68, s_X4_place_71, s_X4_place_73, s_X4_place_74, s_X4_place_75, s_X4_place_77, s_X4_place_78, s_X4_place_79, s_X4_place_80, s_X4_place_83, s_X4_place_86, s_X4_place_87, s_X4_place_88, s_X4_place_90, s_X4_place_91, s_X4_place_92, s_X4_place_95, s_X4_place_96, s_X4_place_99, s_X4_place_100, s_X4_place_101, s_X4_place_104, s_X4_place_108, s_X4_place_111, s_X4_place_112, s_X4_place_113, s_X4_place_116, s_X4_place_119, s_X4_place_120, if_true, if_false, and_true, true_and, and_false, false_and, true_or, or_true, or_false, false_or, eq_self, not_true_eq_false, not_false_eq_true, zv_int, zv_ref, zv_null, zv_none, hK_sI, hF_sI, hJ_sI, hN_sI, hZ_sI, hI_sI_same, hK_sJ, hF_sJ, hI_sJ, hN_sJ, hZ_sJ, hJ_sJ_same, hK_sF, hI_sF, hJ_sF, hN_sF, hZ_sF, Option.bind_some, Option.toList_some, Option.toList_none, List.cons_append, List.nil_append, zq_ref, zq_null, L.k70, L.p70_7, L.p70_16, L.k77, L.k81, f15, pk_mul, q1, e16, e144, nI_add, z0, z1, z2, z3, r1, r2, eq_true c, decide_true, Bool.true_and, nI_1]
      exact ih
    · refine ⟨some (.int (nI (p + 1))), ?_⟩
      rw [s_X4_place_49]
      simp (decide := true) only [s_X4_place_0, s_X4_place_1, s_X4_place_4, s_X4_place_7, s_X4_place_9, s_X4_place_10, s_X4_place_11, s_X4_place_12, s_X4_place_15, s_X4_place_18, s_X4_place_20, s_X4_place_21, s_X4_place_22, s_X4_place_24, s_X4_place_25, s_X4_place_28, s_X4_place_31, s_X4_place_32, s_X4_place_35, s_X4_place_36, s_X4_place_37, s_X4_place_38, s_X4_place_41, s_X4_place_44, s_X4_place_45, s_X4_place_46, s_X4_place_47, s_X4_place_51, s_X4_place_52, s_X4_place_55, s_X4_place_56, s_X4_place_59, s_X4_place_60, s_X4_place_63, s_X4_place_64, s_X4_place_67, s_X4_place_68, s_X4_place_71, s_X4_place_73, s_X4_place_74, s_X4_place_75, s_X4_place_77, s_X4_place_78, s_X4_place_79, s_X4_place_80, s_X4_place_83, s_X4_place_86, s_X4_place_87, s_X4_place_88, s_X4_place_90, s_X4_place_91, s_X4_place_92, s_X4_place_95, s_X4_place_96, s_X4_place_99, s_X4_place_100, s_X4_place_101, s_X4_place_104, s_X4_place_108, s_X4_place_111, s_X4_place_112, s_X4_place_113, s_X4_place_116, s_X4_place_119, s_X4_place_120, if_true, if_false, and_true, true_and, and_false, false_and, true_or, or_true, or_false, false_or, eq_self, not_true_eq_false, not_false_eq_true, zv_int, zv_ref, zv_null, zv_none, hK_sI, hF_sI, hJ_sI, hN_sI, hZ_sI, hI_sI_same, hK_sJ, hF_sJ, hI_sJ, hN_sJ, hZ_sJ, hJ_sJ_same, hK_sF, hI_sF, hJ_sF, hN_sF, hZ_sF, Option.bind_some, Option.toList_some, Option.toList_none, List.cons_append, List.nil_append, zq_ref, zq_null, L.k70, L.p70_7, L.p70_16, L.k77, L.k81, f15, pk_mul, q1, e16, e144, nI_add, z0, z1, z2, z3, r1, r2, eq_false c, decide_false, Bool.false_and, nI_1]
      rw [s_X4_place_49]
      by_cases cq : nI (n * n) ≤ nI (p + 1)
      · simp (decide := true) only [s_X4_place_0, s_X4_place_1, s_X4_place_4, s_X4_place_7, s_X4_place_9, s_X4_place_10, s_X4_place_11, s_X4_place_12, s_X4_place_15, s_X4_place_18, s_X4_place_20, s_X4_place_21, s_X4_place_22, s_X4_place_24, s_X4_place_25, s_X4_place_28, s_X4_place_31, s_X4_place_32, s_X4_place_35, s_X4_place_36, s_X4_place_37, s_X4_place_38, s_X4_place_41, s_X4_place_44, s_X4_place_45, s_X4_place_46, s_X4_place_47, s_X4_place_51, s_X4_place_52, s_X4_place_55, s_X4_place_56, s_X4_place_59, s_X4_place_60, s_X4_place_63, s_X4_place_64, s_X4_place_67, s_X4_place_68, s_X4_place_71, s_X4_place_73, s_X4_place_74, s_X4_place_75, s_X4_place_77, s_X4_place_78, s_X4_place_79, s_X4_place_80, s_X4_place_83, s_X4_place_86, s_X4_place_87, s_X4_place_88, s_X4_place_90, s_X4_place_91, s_X4_place_92, s_X4_place_95, s_X4_place_96, s_X4_place_99, s_X4_place_100, s_X4_place_101, s_X4_place_104, s_X4_place_108, s_X4_place_111, s_X4_place_112, s_X4_place_113, s_X4_place_116, s_X4_place_119, s_X4_place_120, if_true, if_false, and_true, true_and, and_false, false_and, true_or, or_true, or_false, false_or, eq_self, not_true_eq_false, not_false_eq_true, zv_int, zv_ref, zv_null, zv_none, hK_sI, hF_sI, hJ_sI, hN_sI, hZ_sI, hI_sI_same, hK_sJ, hF_sJ, hI_sJ, hN_sJ, hZ_sJ, hJ_sJ_same, hK_sF, hI_sF, hJ_sF, hN_sF, hZ_sF, Option.bind_some, Option.toList_some, Option.toList_none, List.cons_append, List.nil_append, zq_ref, zq_null, L.k70, f15, pk_mul, cq]
      · simp (decide := true) only [s_X4_place_0, s_X4_place_1, s_X4_place_4, s_X4_place_7, s_X4_place_9, s_X4_place_10, s_X4_place_11, s_X4_place_12, s_X4_place_15, s_X4_place_18, s_X4_place_20, s_X4_place_21, s_X4_place_22, s_X4_place_24, s_X4_place_25, s_X4_place_28, s_X4_place_31, s_X4_place_32, s_X4_place_35, s_X4_place_36, s_X4_place_37, s_X4_place_38, s_X4_place_41, s_X4_place_44, s_X4_place_45, s_X4_place_46, s_X4_place_47, s_X4_place_51, s_X4_place_52, s_X4_place_55, s_X4_place_56, s_X4_place_59, s_X4_place_60, s_X4_place_63, s_X4_place_64, s_X4_place_67, s_X4_place_68, s_X4_place_71, s_X4_place_73, s_X4_place_74, s_X4_place_75, s_X4_place_77, s_X4_place_78, s_X4_place_79, s_X4_place_80, s_X4_place_83, s_X4_place_86, s_X4_place_87, s_X4_place_88, s_X4_place_90, s_X4_place_91, s_X4_place_92, s_X4_place_95, s_X4_place_96, s_X4_place_99, s_X4_place_100, s_X4_place_101, s_X4_place_104, s_X4_place_108, s_X4_place_111, s_X4_place_112, s_X4_place_113, s_X4_place_116, s_X4_place_119, s_X4_place_120, if_true, if_false, and_true, true_and, and_false, false_and, true_or, or_true, or_false, false_or, eq_self, not_true_eq_false, not_false_eq_true, zv_int, zv_ref, zv_null, zv_none, hK_sI, hF_sI, hJ_sI, hN_sI, hZ_sI, hI_sI_same, hK_sJ, hF_sJ, hI_sJ, hN_sJ, hZ_sJ, hJ_sJ_same, hK_sF, hI_sF, hJ_sF, hN_sF, hZ_sF, Option.bind_some, Option.toList_some, Option.toList_none, List.cons_append, List.nil_append, zq_ref, zq_null, L.k70, f15, pk_mul, cq]
theorem lp_place {n q len : Nat} {F : Nat → Nat → Int32} {g : Nat → Int32} (L : Lay b h) (hn : 1 ≤ n ∧ n ≤ 4) (hq : q < 24) (l72 : len ≤ 7200) (f12 : hF h (b + 70) 12 = .int (nI len)) (f15 : hF h (b + 70) 15 = .int (nI n)) (ho : hI h (b + 76) q = nI n) (hf : ∀ j, j < len → ∀ c, c < n * n → hI h (b + 81) (16 * j + c) = F j c) (hg : ∀ c, c < n * n → hI h (b + 77) (144 * q + c) = g c) : ∀ (k j : Nat) (w3 w4 : Option Value), j + k = len → zl E d kX4_place 23 [some (.ref (b + 70)), some (.int (nI q)), some (.int (nI j)), w3, w4] [] h = some (some (.int (rs (fs (fun j => al (fun c => decide (F j c = g c)) (n * n) 0) k j))), h)
  | 0, j, w3, w4, e => by
    have : j = len := by omega
    subst this
    rw [s_X4_place_23]
    simp (decide := true) only [s_X4_place_0, s_X4_place_1, s_X4_place_4, s_X4_place_7, s_X4_place_9, s_X4_place_10, s_X4_place_11, s_X4_place_12, s_X4_place_15, s_X4_place_18, s_X4_place_20, s_X4_place_21, s_X4_place_22, s_X4_place_24, s_X4_place_25, s_X4_place_28, s_X4_place_31, s_X4_place_32, s_X4_place_35, s_X4_place_36, s_X4_place_37, s_X4_place_38, s_X4_place_41, s_X4_place_44, s_X4_place_45, s_X4_place_46, s_X4_place_47, s_X4_place_51, s_X4_place_52, s_X4_place_55, s_X4_place_56, s_X4_place_59, s_X4_place_60, s_X4_place_63, s_X4_place_64, s_X4_place_67, s_X4_place_68, s_X4_place_71, s_X4_place_73, s_X4_place_74, s_X4_place_75, s_X4_place_77, s_X4_place_78, s_X4_place_79, s_X4_place_80, s_X4_place_83, s_X4_place_86, s_X4_place_87, s_X4_place_88, s_X4_place_90, s_X4_place_91, s_X4_place_92, s_X4_place_95, s_X4_place_96, s_X4_place_99, s_X4_place_100, s_X4_place_101, s_X4_place_104, s_X4_place_107, s_X4_place_108, s_X4_place_111, s_X4_place_112, s_X4_place_113, s_X4_place_116, s_X4_place_119, s_X4_place_120, if_true, if_false, and_true, true_and, and_false, false_and, true_or, or_true, or_false, false_or, eq_self, not_true_eq_false, not_false_eq_true, zv_int, zv_ref, zv_null, zv_none, hK_sI, hF_sI, hJ_sI, hN_sI, hZ_sI, hI_sI_same, hK_sJ, hF_sJ, hI_sJ, hN_sJ, hZ_sJ, hJ_sJ_same, hK_sF, hI_sF, hJ_sF, hN_sF, hZ_sF, Option.bind_some, Option.toList_some, Option.toList_none, List.cons_append, List.nil_append, zq_ref, zq_null, L.k70, f12, Int32.le_refl, fs, rs]
  | k + 1, j, w3, w4, e => by
    have q1 : ¬ nI len ≤ nI j := nI_ge (by omega) (by omega)
    have z0 : zR (nI q) 24 := zR_to (by decide) hq
    have z1 : (nI q).toNatClampNeg = q := nI_clamp (by omega)
    obtain ⟨u4, e1⟩ := lp_pl_in (E := E) (d := d) L hn hq (show j < 7200 by omega) f15 (hf j (by omega)) hg (n * n) 0 (by omega)
    rw [nI_0] at e1
    rw [s_X4_place_23]
    simp (decide := true) only [s_X4_place_0, s_X4_place_1, s_X4_place_4, s_X4_place_7, s_X4_place_9, s_X4_place_10, s_X4_place_11, s_X4_place_12, s_X4_place_15, s_X4_place_18, s_X4_place_20, s_X4_place_21, s_X4_place_22, s_X4_place_24, s_X4_place_25, s_X4_place_28, s_X4_place_31, s_X4_place_32, s_X4_place_35, s_X4_place_36, s_X4_place_37, s_X4_place_38, s_X4_place_41, s_X4_place_44, s_X4_place_45, s_X4_place_46, s_X4_place_47, s_X4_place_51, s_X4_place_52, s_X4_place_55, s_X4_place_56, s_X4_place_59, s_X4_place_60, s_X4_place_63, s_X4_place_64, s_X4_place_67, s_X4_place_68, s_X4_place_71, s_X4_place_73, s_X4_place_74, s_X4_place_75, s_X4_place_77, s_X4_place_78, s_X4_place_79, s_X4_place_80, s_X4_place_83, s_X4_place_86, s_X4_place_87, s_X4_place_88, s_X4_place_90, s_X4_place_91, s_X4_place_92, s_X4_place_95, s_X4_place_96, s_X4_place_99, s_X4_place_100, s_X4_place_101, s_X4_place_104, s_X4_place_108, s_X4_place_111, s_X4_place_112, s_X4_place_113, s_X4_place_116, s_X4_place_119, s_X4_place_120, if_true, if_false, and_true, true_and, and_false, false_and, true_or, or_true, or_false, false_or, eq_self, not_true_eq_false, not_false_eq_true, zv_int, zv_ref, zv_null, zv_none, hK_sI, hF_sI, hJ_sI, hN_sI, hZ_sI, hI_sI_same, hK_sJ, hF_sJ, hI_sJ, hN_sJ, hZ_sJ, hJ_sJ_same, hK_sF, hI_sF, hJ_sF, hN_sF, hZ_sF, Option.bind_some, Option.toList_some, Option.toList_none, List.cons_append, List.nil_append, zq_ref, zq_null, L.k70, L.p70_6, L.k76, f12, f15, q1, z0, z1, ho]
    rw [e1]
    unfold fs
    cases ca : al (fun c => decide (F j c = g c)) (n * n) 0 with
    | true =>
      simp (decide := true) only [s_X4_place_0, s_X4_place_1, s_X4_place_4, s_X4_place_7, s_X4_place_9, s_X4_place_10, s_X4_place_11, s_X4_place_12, s_X4_place_15, s_X4_place_18, s_X4_place_20, s_X4_place_21, s_X4_place_22, s_X4_place_24, s_X4_place_25, s_X4_place_28, s_X4_place_31, s_X4_place_32, s_X4_place_35, s_X4_place_36, s_X4_place_37, s_X4_place_38, s_X4_place_41, s_X4_place_44, s_X4_place_45, s_X4_place_46, s_X4_place_47, s_X4_place_51, s_X4_place_52, s_X4_place_55, s_X4_place_56, s_X4_place_59, s_X4_place_60, s_X4_place_63, s_X4_place_64, s_X4_place_67, s_X4_place_68, s_X4_place_71, s_X4_place_73, s_X4_place_74, s_X4_place_75, s_X4_place_77, s_X4_place_78, s_X4_place_79, s_X4_place_80, s_X4_place_83, s_X4_place_86, s_X4_place_87, s_X4_place_88, s_X4_place_90, s_X4_place_91, s_X4_place_92, s_X4_place_95, s_X4_place_96, s_X4_place_99, s_X4_place_100, s_X4_place_101, s_X4_place_104, s_X4_place_107, s_X4_place_108, s_X4_place_111, s_X4_place_112, s_X4_place_113, s_X4_place_116, s_X4_place_119, s_X4_place_120, if_true, if_false, and_true, true_and, and_false, false_and, true_or, or_true, or_false, false_or, eq_self, not_true_eq_false, not_false_eq_true, zv_int, zv_ref, zv_null, zv_none, hK_sI, hF_sI, hJ_sI, hN_sI, hZ_sI, hI_sI_same, hK_sJ, hF_sJ, hI_sJ, hN_sJ, hZ_sJ, hJ_sJ_same, hK_sF, hI_sF, hJ_sF, hN_sF, hZ_sF, Option.bind_some, Option.toList_some, Option.toList_none, List.cons_append, List.nil_append, zq_ref, zq_null, cond_true, rs]
    | false =>
      have ih := lp_place L hn hq l72 f12 f15 ho hf hg k (j + 1) (some (.int 0)) u4 (by omega)
      simp (decide := true) only [s_X4_place_0, s_X4_place_1, s_X4_place_4, s_X4_place_7, s_X4_place_9, s_X4_place_10, s_X4_place_11, s_X4_place_12, s_X4_place_15, s_X4_place_18, s_X4_place_20, s_X4_place_21, s_X4_place_22, s_X4_place_24, s_X4_place_25, s_X4_place_28, s_X4_place_31, s_X4_place_32, s_X4_place_35, s_X4_place_36, s_X4_place_37, s_X4_place_38, s_X4_place_41, s_X4_place_44, s_X4_place_45, s_X4_place_46, s_X4_place_47, s_X4_place_51, s_X4_place_52, s_X4_place_55, s_X4_place_56, s_X4_place_59, s_X4_place_60, s_X4_place_63, s_X4_place_64, s_X4_place_67, s_X4_place_68, s_X4_place_71, s_X4_place_73, s_X4_place_74, s_X4_place_75, s_X4_place_77, s_X4_place_78, s_X4_place_79, s_X4_place_80, s_X4_place_83, s_X4_place_86, s_X4_place_87, s_X4_place_88, s_X4_place_90, s_X4_place_91, s_X4_place_92, s_X4_place_95, s_X4_place_96, s_X4_place_99, s_X4_place_100, s_X4_place_101, s_X4_place_104, s_X4_place_107, s_X4_place_108, s_X4_place_111, s_X4_place_112, s_X4_place_113, s_X4_place_116, s_X4_place_119, s_X4_place_120, if_true, if_false, and_true, true_and, and_false, false_and, true_or, or_true, or_false, false_or, eq_self, not_true_eq_false, not_false_eq_true, zv_int, zv_ref, zv_null, zv_none, hK_sI, hF_sI, hJ_sI, hN_sI, hZ_sI, hI_sI_same, hK_sJ, hF_sJ, hI_sJ, hN_sJ, hZ_sJ, hJ_sJ_same, hK_sF, hI_sF, hJ_sF, hN_sF, hZ_sF, Option.bind_some, Option.toList_some, Option.toList_none, List.cons_append, List.nil_append, zq_ref, zq_null, cond_false, nI_1]
      exact ih
theorem op_place {Z : Nat} {o : Nat → Nat} {z : Nat → Option Nat} {q : Int32} (R : Rel b o z h) (F : FI b Z h) : Good E (d + 9) b kX3_place kX4_place [.int q] h := by
  have R' := R
  obtain ⟨L, ho, hm, _, _, hr, _⟩ := R'
  obtain ⟨_, _, fd⟩ := F
  rcases fd with ⟨x3, x12⟩ | ⟨n, K, hn, FKK, sK, kv, l72, x5, x6, x12, x15, rows⟩
  · have eF := c_X0_isFresh (E := E) (d := d + 7) L.k8 x3
    refine good0 R ⟨.int (-103), h, ?_, ?_⟩
    · simp (decide := true) only [e_X3_place, s_X3_place_0, s_X3_place_1, s_X3_place_4, s_X3_place_7, s_X3_place_10, s_X3_place_12, s_X3_place_13, s_X3_place_14, s_X3_place_15, s_X3_place_18, s_X3_place_18n, s_X3_place_19, s_X3_place_19n, s_X3_place_20, s_X3_place_20n, s_X3_place_23, s_X3_place_25, s_X3_place_28, s_X3_place_29, s_X3_place_32, s_X3_place_32n, s_X3_place_33, s_X3_place_36, if_true, if_false, and_true, true_and, and_false, false_and, true_or, or_true, or_false, false_or, eq_self, not_true_eq_false, not_false_eq_true, zv_int, zv_ref, zv_null, zv_none, hK_sI, hF_sI, hJ_sI, hN_sI, hZ_sI, hI_sI_same, hK_sJ, hF_sJ, hI_sJ, hN_sJ, hZ_sJ, hJ_sJ_same, hK_sF, hI_sF, hJ_sF, hN_sF, hZ_sF, Option.bind_some, Option.toList_some, Option.toList_none, List.cons_append, List.nil_append, zq_ref, zq_null, L.k0, L.p0_5, L.k8, eF]
    · simp (decide := true) only [e_X4_place, s_X4_place_0, s_X4_place_1, s_X4_place_4, s_X4_place_7, s_X4_place_9, s_X4_place_10, s_X4_place_11, s_X4_place_12, s_X4_place_15, s_X4_place_18, s_X4_place_20, s_X4_place_21, s_X4_place_22, s_X4_place_24, s_X4_place_25, s_X4_place_28, s_X4_place_31, s_X4_place_32, s_X4_place_35, s_X4_place_36, s_X4_place_37, s_X4_place_38, s_X4_place_41, s_X4_place_44, s_X4_place_45, s_X4_place_46, s_X4_place_47, s_X4_place_51, s_X4_place_52, s_X4_place_55, s_X4_place_56, s_X4_place_59, s_X4_place_60, s_X4_place_63, s_X4_place_64, s_X4_place_67, s_X4_place_68, s_X4_place_71, s_X4_place_73, s_X4_place_74, s_X4_place_75, s_X4_place_77, s_X4_place_78, s_X4_place_79, s_X4_place_80, s_X4_place_83, s_X4_place_86, s_X4_place_87, s_X4_place_88, s_X4_place_90, s_X4_place_91, s_X4_place_92, s_X4_place_95, s_X4_place_96, s_X4_place_99, s_X4_place_100, s_X4_place_101, s_X4_place_104, s_X4_place_107, s_X4_place_108, s_X4_place_111, s_X4_place_112, s_X4_place_113, s_X4_place_116, s_X4_place_119, s_X4_place_120, if_true, if_false, and_true, true_and, and_false, false_and, true_or, or_true, or_false, false_or, eq_self, not_true_eq_false, not_false_eq_true, zv_int, zv_ref, zv_null, zv_none, hK_sI, hF_sI, hJ_sI, hN_sI, hZ_sI, hI_sI_same, hK_sJ, hF_sJ, hI_sJ, hN_sJ, hZ_sJ, hJ_sJ_same, hK_sF, hI_sF, hJ_sF, hN_sF, hZ_sF, Option.bind_some, Option.toList_some, Option.toList_none, List.cons_append, List.nil_append, zq_ref, zq_null, L.k70, x12]
  · have nn : n * n ≤ 16 := Nat.mul_le_mul hn.2 hn.2
    obtain ⟨g, ka, g8, f2, k1, hka, kN, eN, eZ, len, dat, f3, f4⟩ := FKK
    have p8 := pow8 g8
    have p0 : (0 : Int32) ≤ nI K.length := nI_pos' (by omega)
    have eF := c_X0_isFresh (E := E) (d := d + 7) L.k8 f3
    rw [if_pos p0] at eF
    rcases kn2 R q with ⟨e1, e2⟩ | ⟨k, hk, e, h1, e1, e2⟩
    · refine good0 R ⟨.int (-101), h, ?_, ?_⟩
      · simp (decide := true) only [e_X3_place, s_X3_place_0, s_X3_place_1, s_X3_place_4, s_X3_place_7, s_X3_place_10, s_X3_place_12, s_X3_place_13, s_X3_place_14, s_X3_place_15, s_X3_place_18, s_X3_place_18n, s_X3_place_19, s_X3_place_19n, s_X3_place_20, s_X3_place_20n, s_X3_place_23, s_X3_place_25, s_X3_place_28, s_X3_place_29, s_X3_place_32, s_X3_place_32n, s_X3_place_33, s_X3_place_36, if_true, if_false, and_true, true_and, and_false, false_and, true_or, or_true, or_false, false_or, eq_self, not_true_eq_false, not_false_eq_true, zv_int, zv_ref, zv_null, zv_none, hK_sI, hF_sI, hJ_sI, hN_sI, hZ_sI, hI_sI_same, hK_sJ, hF_sJ, hI_sJ, hN_sJ, hZ_sJ, hJ_sJ_same, hK_sF, hI_sF, hJ_sF, hN_sF, hZ_sF, Option.bind_some, Option.toList_some, Option.toList_none, List.cons_append, List.nil_append, zq_ref, zq_null, L.k0, L.p0_5, L.k8, eF, e1 E (d + 7)]
      · simp (decide := true) only [e_X4_place, s_X4_place_0, s_X4_place_1, s_X4_place_4, s_X4_place_7, s_X4_place_9, s_X4_place_10, s_X4_place_11, s_X4_place_12, s_X4_place_15, s_X4_place_18, s_X4_place_20, s_X4_place_21, s_X4_place_22, s_X4_place_24, s_X4_place_25, s_X4_place_28, s_X4_place_31, s_X4_place_32, s_X4_place_35, s_X4_place_36, s_X4_place_37, s_X4_place_38, s_X4_place_41, s_X4_place_44, s_X4_place_45, s_X4_place_46, s_X4_place_47, s_X4_place_51, s_X4_place_52, s_X4_place_55, s_X4_place_56, s_X4_place_59, s_X4_place_60, s_X4_place_63, s_X4_place_64, s_X4_place_67, s_X4_place_68, s_X4_place_71, s_X4_place_73, s_X4_place_74, s_X4_place_75, s_X4_place_77, s_X4_place_78, s_X4_place_79, s_X4_place_80, s_X4_place_83, s_X4_place_86, s_X4_place_87, s_X4_place_88, s_X4_place_90, s_X4_place_91, s_X4_place_92, s_X4_place_95, s_X4_place_96, s_X4_place_99, s_X4_place_100, s_X4_place_101, s_X4_place_104, s_X4_place_107, s_X4_place_108, s_X4_place_111, s_X4_place_112, s_X4_place_113, s_X4_place_116, s_X4_place_119, s_X4_place_120, if_true, if_false, and_true, true_and, and_false, false_and, true_or, or_true, or_false, false_or, eq_self, not_true_eq_false, not_false_eq_true, zv_int, zv_ref, zv_null, zv_none, hK_sI, hF_sI, hJ_sI, hN_sI, hZ_sI, hI_sI_same, hK_sJ, hF_sJ, hI_sJ, hN_sJ, hZ_sJ, hJ_sJ_same, hK_sF, hI_sF, hJ_sF, hN_sF, hZ_sF, Option.bind_some, Option.toList_some, Option.toList_none, List.cons_append, List.nil_append, zq_ref, zq_null, L.k70, x12, p0, e2 E (d + 6)]
    · have hnk := (ho k hk).2
      have z0 : zR q 24 := by rw [e]; exact zR_to (by decide) hk
      have z1 : q.toNatClampNeg = k := by rw [e]; exact nI_clamp (by omega)
      by_cases cn_ : o k = n
      · -- the same order
        have hok := (ho k hk).1
        have hmk := (hm k hk).1
        have hrk := hr k hk
        rw [cn_] at hok hmk hrk
        have lp := lp_place (E := E) (d := d + 8) (q := k) (len := K.length) (F := fun j c => nI (kdg (K.getD j 0) (n * n) c + 1)) (g := hI h (aR b k)) L hn hk l72 x12 x15 hmk rows (fun c hc => (hrk.1 c hc).symm) K.length 0 none none (by omega)
        rw [nI_0, ← e] at lp
        have ePk := c_X0_isPackable (E := E) (d := d + 6) (N := n * n) L.k8 x6 (L.kQ hk) (L.kR hk) (L.pQ hk) (by omega)
        -- both find the same
        have both : ∃ r, cal E (d + 8) kX0_indexOf [.ref (b + 8), .ref (aQ b k)] h = some (some (.int r), h) ∧ r = rs (fs (fun j => al (fun c => decide (nI (kdg (K.getD j 0) (n * n) c + 1) = hI h (aR b k) c)) (n * n) 0) K.length 0) := by
          have nEq : nI n = nI n := rfl
          cases cp : al (pkb (hI h (aR b k)) (n * n)) (n * n) 0 with
          | false =>
            rw [cp] at ePk
            refine ⟨-1, ?_, ?_⟩
            · simp (decide := true) only [e_X0_indexOf, s_X0_indexOf_0, s_X0_indexOf_1, s_X0_indexOf_4, s_X0_indexOf_5, s_X0_indexOf_8, s_X0_indexOf_11, s_X0_indexOf_12, s_X0_indexOf_13, s_X0_indexOf_16, s_X0_indexOf_19, s_X0_indexOf_20, s_X0_indexOf_21, s_X0_indexOf_22, s_X0_indexOf_25, s_X0_indexOf_26, s_X0_indexOf_27, s_X0_indexOf_29, s_X0_indexOf_30, s_X0_indexOf_33, s_X0_indexOf_34, s_X0_indexOf_35, s_X0_indexOf_37, s_X0_indexOf_38, s_X0_indexOf_42, s_X0_indexOf_44, s_X0_indexOf_47, s_X0_indexOf_49, s_X0_indexOf_52, s_X0_indexOf_55, s_X0_indexOf_57, s_X0_indexOf_59, s_X0_indexOf_60, s_X0_indexOf_61, s_X0_indexOf_62, s_X0_indexOf_64, s_X0_indexOf_65, s_X0_indexOf_68, s_X0_indexOf_70, s_X0_indexOf_71, s_X0_indexOf_72, s_X0_indexOf_73, s_X0_indexOf_76, s_X0_indexOf_78, s_X0_indexOf_79, s_X0_indexOf_80, s_X0_indexOf_83, s_X0_indexOf_85, s_X0_indexOf_86, s_X0_indexOf_87, s_X0_indexOf_88, s_X0_indexOf_91, s_X0_indexOf_93, s_X0_indexOf_94, s_X0_indexOf_95, s_X0_indexOf_97, s_X0_indexOf_100, s_X0_indexOf_102, s_X0_indexOf_103, s_X0_indexOf_104, s_X0_indexOf_106, s_X0_indexOf_109, s_X0_indexOf_112, s_X0_indexOf_113, if_true, if_false, and_true, true_and, and_false, false_and, true_or, or_true, or_false, false_or, eq_self, not_true_eq_false, not_false_eq_true, zv_int, zv_ref, zv_null, zv_none, hK_sI, hF_sI, hJ_sI, hN_sI, hZ_sI, hI_sI_same, hK_sJ, hF_sJ, hI_sJ, hN_sJ, hZ_sJ, hJ_sJ_same, hK_sF, hI_sF, hJ_sF, hN_sF, hZ_sF, Option.bind_some, Option.toList_some, Option.toList_none, List.cons_append, List.nil_append, zq_ref, zq_null, L.k8, L.kQ hk, x5, hok, ePk]
            · have : fs (fun j => al (fun c => decide (nI (kdg (K.getD j 0) (n * n) c + 1) = hI h (aR b k) c)) (n * n) 0) K.length 0 = none := fs_none.mpr (fun j _ hj => by
                cases ca : al (fun c => decide (nI (kdg (K.getD j 0) (n * n) c + 1) = hI h (aR b k) c)) (n * n) 0 with
                | false => rfl
                | true =>
                  exfalso
                  rw [al_iff] at ca
                  have : al (pkb (hI h (aR b k)) (n * n)) (n * n) 0 = true := al_iff.mpr (fun c _ hc => by
                    have ec := of_decide_eq_true (ca c (by omega) hc)
                    obtain ⟨f, fv, ek⟩ := kv _ (getD_mem (l := K) (j := j) (by omega))
                    have v16 : val16 f (n * n) := fun p hp => by have := fv p hp; omega
                    rw [← ek, kdg_kyr v16 (by omega)] at ec
                    have hv := fv c (by omega)
                    rw [show f c - 1 + 1 = f c by omega] at ec
                    unfold pkb
                    rw [← ec]
                    have a1 : ¬ nI (f c) < 1 := nI_nlt (a := f c) (b := 1) hv.1 (by omega)
                    have a2 : nI (f c) ≤ nI (n * n) := nI_le hv.2 (by omega)
                    simp only [a1, a2, not_false_eq_true, decide_true, Bool.and_self])
                  rw [cp] at this
                  cases this)
              rw [this]
              rfl
          | true =>
            rw [cp] at ePk
            rw [al_iff] at cp
            obtain ⟨t, et⟩ : ∃ t : Nat → Nat, t = fun c => (hI h (aR b k) c).toInt.toNat := ⟨_, rfl⟩
            have tv : ∀ c, c < n * n → hI h (aR b k) c = nI (t c) ∧ 1 ≤ t c ∧ t c ≤ n * n := fun c hc => by
              have := cp c (by omega) (by omega)
              unfold pkb at this
              rw [Bool.and_eq_true, decide_eq_true_iff, decide_eq_true_iff] at this
              rcases rng1 (N := n * n) (by omega) (hI h (aR b k) c) with x | ⟨v, v1, v2, ev⟩
              · exact absurd x (fun x => x.elim this.1 (fun y => n32_lt.mpr this.2 y))
              · rw [et]
                show _ = nI (hI h (aR b k) c).toInt.toNat ∧ _ ≤ (hI h (aR b k) c).toInt.toNat ∧ (hI h (aR b k) c).toInt.toNat ≤ _
                rw [ev, nIt (by omega)]
                exact ⟨rfl, v1, v2⟩
            have t16 : val16 t (n * n) := fun c hc => by have := tv c hc; omega
            obtain ⟨μ, eμ⟩ : ∃ μ, μ = kyr t (n * n) := ⟨_, rfl⟩
            have μ64 : μ < 2 ^ 64 := by rw [eμ]; exact Nat.lt_of_lt_of_le (kyr_lt t16) (pow16 hn.2)
            have ePa := c_X0_packed (E := E) (d := d + 6) (L.kQ hk) (L.kR hk) (L.pQ hk) hok (show n ≤ 12 by omega)
            rw [pckd_enc nn t16 (fun c hc => (tv c hc).1), ← eμ] at ePa
            have vK : ∀ κ ∈ K, κ < 2 ^ 64 := fun κ hκ => by
              obtain ⟨f, fv, ek⟩ := kv κ hκ
              rw [← ek]
              exact Nat.lt_of_lt_of_le (kyr_lt (fun p hp => by have := fv p hp; omega)) (pow16 hn.2)
            have lb := lp_bin (E := E) (d := d + 7) (n := n) (len := K.length) (N := 32 * 2 ^ g) (K := K) (μ := μ) (v1 := some (.ref (aQ b k))) L f2 k1 rfl len (by omega) l72 dat sK vK μ64 K.length 0 K.length 0 none (by omega) (by omega) (by omega) (by omega) (fun j hj => absurd hj (by omega)) (fun j a1 a2 => absurd a1 (by omega))
            rw [nI_0] at lb
            refine ⟨rs (fs (fun j => decide (K.getD j 0 = μ)) K.length 0), ?_, ?_⟩
            · simp (decide := true) only [e_X0_indexOf, s_X0_indexOf_0, s_X0_indexOf_1, s_X0_indexOf_4, s_X0_indexOf_5, s_X0_indexOf_8, s_X0_indexOf_11, s_X0_indexOf_12, s_X0_indexOf_13, s_X0_indexOf_16, s_X0_indexOf_19, s_X0_indexOf_20, s_X0_indexOf_21, s_X0_indexOf_22, s_X0_indexOf_25, s_X0_indexOf_26, s_X0_indexOf_27, s_X0_indexOf_29, s_X0_indexOf_30, s_X0_indexOf_33, s_X0_indexOf_34, s_X0_indexOf_35, s_X0_indexOf_37, s_X0_indexOf_38, s_X0_indexOf_42, s_X0_indexOf_44, s_X0_indexOf_47, s_X0_indexOf_49, s_X0_indexOf_52, s_X0_indexOf_55, s_X0_indexOf_57, s_X0_indexOf_59, s_X0_indexOf_60, s_X0_indexOf_61, s_X0_indexOf_62, s_X0_indexOf_64, s_X0_indexOf_65, s_X0_indexOf_68, s_X0_indexOf_70, s_X0_indexOf_71, s_X0_indexOf_72, s_X0_indexOf_73, s_X0_indexOf_76, s_X0_indexOf_78, s_X0_indexOf_79, s_X0_indexOf_80, s_X0_indexOf_83, s_X0_indexOf_85, s_X0_indexOf_86, s_X0_indexOf_87, s_X0_indexOf_88, s_X0_indexOf_91, s_X0_indexOf_93, s_X0_indexOf_94, s_X0_indexOf_95, s_X0_indexOf_97, s_X0_indexOf_100, s_X0_indexOf_102, s_X0_indexOf_103, s_X0_indexOf_104, s_X0_indexOf_106, s_X0_indexOf_109, s_X0_indexOf_112, s_X0_indexOf_113, if_true, if_false, and_true, true_and, and_false, false_and, true_or, or_true, or_false, false_or, eq_self, not_true_eq_false, not_false_eq_true, zv_int, zv_ref, zv_null, zv_none, hK_sI, hF_sI, hJ_sI, hN_sI, hZ_sI, hI_sI_same, hK_sJ, hF_sJ, hI_sJ, hN_sJ, hZ_sJ, hJ_sJ_same, hK_sF, hI_sF, hJ_sF, hN_sF, hZ_sF, Option.bind_some, Option.toList_some, Option.toList_none, List.cons_append, List.nil_append, zq_ref, zq_null, L.k8, L.kQ hk, x5, hok, ePk, ePa, f3]
              exact lb
            · congr 1
              apply fs_cg
              intro j _ hj
              rw [Bool.eq_iff_iff, decide_eq_true_iff, al_iff]
              obtain ⟨f, fv, ek⟩ := kv _ (getD_mem (l := K) (j := j) (by omega))
              have v16 : val16 f (n * n) := fun p hp => by have := fv p hp; omega
              constructor
              · intro x c _ hc
                apply decide_eq_true
                rw [x, eμ, kdg_kyr t16 (by omega), (tv c (by omega)).1]
                congr 1
                have := tv c (by omega)
                omega
              · intro x
                rw [← ek, eμ]
                apply kyr_cg
                intro c hc
                have y := of_decide_eq_true (x c (by omega) (by omega))
                have hv := fv c hc
                rw [← ek, kdg_kyr v16 hc, (tv c hc).1] at y
                have tc := tv c hc
                have := (nI_eq (by omega) (by omega)).mp y
                omega
        obtain ⟨r, eI, er⟩ := both
        rw [← er] at lp
        refine good0 R ⟨.int r, h, ?_, ?_⟩
        · simp (decide := true) only [e_X3_place, s_X3_place_0, s_X3_place_1, s_X3_place_4, s_X3_place_7, s_X3_place_10, s_X3_place_12, s_X3_place_13, s_X3_place_14, s_X3_place_15, s_X3_place_18, s_X3_place_18n, s_X3_place_19, s_X3_place_19n, s_X3_place_20, s_X3_place_20n, s_X3_place_23, s_X3_place_25, s_X3_place_28, s_X3_place_29, s_X3_place_32, s_X3_place_32n, s_X3_place_33, s_X3_place_36, if_true, if_false, and_true, true_and, and_false, false_and, true_or, or_true, or_false, false_or, eq_self, not_true_eq_false, not_false_eq_true, zv_int, zv_ref, zv_null, zv_none, hK_sI, hF_sI, hJ_sI, hN_sI, hZ_sI, hI_sI_same, hK_sJ, hF_sJ, hI_sJ, hN_sJ, hZ_sJ, hJ_sJ_same, hK_sF, hI_sF, hJ_sF, hN_sF, hZ_sF, Option.bind_some, Option.toList_some, Option.toList_none, List.cons_append, List.nil_append, zq_ref, zq_null, L.k0, L.p0_5, L.k8, eF, e1 E (d + 7), eI]
        · simp (decide := true) only [e_X4_place, s_X4_place_0, s_X4_place_1, s_X4_place_4, s_X4_place_7, s_X4_place_9, s_X4_place_10, s_X4_place_11, s_X4_place_12, s_X4_place_15, s_X4_place_18, s_X4_place_20, s_X4_place_21, s_X4_place_22, s_X4_place_24, s_X4_place_25, s_X4_place_28, s_X4_place_31, s_X4_place_32, s_X4_place_35, s_X4_place_36, s_X4_place_37, s_X4_place_38, s_X4_place_41, s_X4_place_44, s_X4_place_45, s_X4_place_46, s_X4_place_47, s_X4_place_51, s_X4_place_52, s_X4_place_55, s_X4_place_56, s_X4_place_59, s_X4_place_60, s_X4_place_63, s_X4_place_64, s_X4_place_67, s_X4_place_68, s_X4_place_71, s_X4_place_73, s_X4_place_74, s_X4_place_75, s_X4_place_77, s_X4_place_78, s_X4_place_79, s_X4_place_80, s_X4_place_83, s_X4_place_86, s_X4_place_87, s_X4_place_88, s_X4_place_90, s_X4_place_91, s_X4_place_92, s_X4_place_95, s_X4_place_96, s_X4_place_99, s_X4_place_100, s_X4_place_101, s_X4_place_104, s_X4_place_107, s_X4_place_108, s_X4_place_111, s_X4_place_112, s_X4_place_113, s_X4_place_116, s_X4_place_119, s_X4_place_120, if_true, if_false, and_true, true_and, and_false, false_and, true_or, or_true, or_false, false_or, eq_self, not_true_eq_false, not_false_eq_true, zv_int, zv_ref, zv_null, zv_none, hK_sI, hF_sI, hJ_sI, hN_sI, hZ_sI, hI_sI_same, hK_sJ, hF_sJ, hI_sJ, hN_sJ, hZ_sJ, hJ_sJ_same, hK_sF, hI_sF, hJ_sF, hN_sF, hZ_sF, Option.bind_some, Option.toList_some, Option.toList_none, List.cons_append, List.nil_append, zq_ref, zq_null, L.k70, x12, p0, e2 E (d + 6)]
          exact lp
      · have c1 : ¬ nI (o k) = nI n := fun x => cn_ ((nI_eq (by omega) (by omega)).mp x)
        have eI : cal E (d + 8) kX0_indexOf [.ref (b + 8), .ref (aQ b k)] h = some (some (.int (-1)), h) := by
          simp (decide := true) only [e_X0_indexOf, s_X0_indexOf_0, s_X0_indexOf_1, s_X0_indexOf_4, s_X0_indexOf_5, s_X0_indexOf_8, s_X0_indexOf_11, s_X0_indexOf_12, s_X0_indexOf_13, s_X0_indexOf_16, s_X0_indexOf_19, s_X0_indexOf_20, s_X0_indexOf_21, s_X0_indexOf_22, s_X0_indexOf_25, s_X0_indexOf_26, s_X0_indexOf_27, s_X0_indexOf_29, s_X0_indexOf_30, s_X0_indexOf_33, s_X0_indexOf_34, s_X0_indexOf_35, s_X0_indexOf_37, s_X0_indexOf_38, s_X0_indexOf_42, s_X0_indexOf_44, s_X0_indexOf_47, s_X0_indexOf_49, s_X0_indexOf_52, s_X0_indexOf_55, s_X0_indexOf_57, s_X0_indexOf_59, s_X0_indexOf_60, s_X0_indexOf_61, s_X0_indexOf_62, s_X0_indexOf_64, s_X0_indexOf_65, s_X0_indexOf_68, s_X0_indexOf_70, s_X0_indexOf_71, s_X0_indexOf_72, s_X0_indexOf_73, s_X0_indexOf_76, s_X0_indexOf_78, s_X0_indexOf_79, s_X0_indexOf_80, s_X0_indexOf_83, s_X0_indexOf_85, s_X0_indexOf_86, s_X0_indexOf_87, s_X0_indexOf_88, s_X0_indexOf_91, s_X0_indexOf_93, s_X0_indexOf_94, s_X0_indexOf_95, s_X0_indexOf_97, s_X0_indexOf_100, s_X0_indexOf_102, s_X0_indexOf_103, s_X0_indexOf_104, s_X0_indexOf_106, s_X0_indexOf_109, s_X0_indexOf_112, s_X0_indexOf_113, if_true, if_false, and_true, true_and, and_false, false_and, true_or, or_true, or_false, false_or, eq_self, not_true_eq_false, not_false_eq_true, zv_int, zv_ref, zv_null, zv_none, hK_sI, hF_sI, hJ_sI, hN_sI, hZ_sI, hI_sI_same, hK_sJ, hF_sJ, hI_sJ, hN_sJ, hZ_sJ, hJ_sJ_same, hK_sF, hI_sF, hJ_sF, hN_sF, hZ_sF, Option.bind_some, Option.toList_some, Option.toList_none, List.cons_append, List.nil_append, zq_ref, zq_null, L.k8, L.kQ hk, x5, (ho k hk).1, c1]
        refine good0 R ⟨.int (-1), h, ?_, ?_⟩
        · simp (decide := true) only [e_X3_place, s_X3_place_0, s_X3_place_1, s_X3_place_4, s_X3_place_7, s_X3_place_10, s_X3_place_12, s_X3_place_13, s_X3_place_14, s_X3_place_15, s_X3_place_18, s_X3_place_18n, s_X3_place_19, s_X3_place_19n, s_X3_place_20, s_X3_place_20n, s_X3_place_23, s_X3_place_25, s_X3_place_28, s_X3_place_29, s_X3_place_32, s_X3_place_32n, s_X3_place_33, s_X3_place_36, if_true, if_false, and_true, true_and, and_false, false_and, true_or, or_true, or_false, false_or, eq_self, not_true_eq_false, not_false_eq_true, zv_int, zv_ref, zv_null, zv_none, hK_sI, hF_sI, hJ_sI, hN_sI, hZ_sI, hI_sI_same, hK_sJ, hF_sJ, hI_sJ, hN_sJ, hZ_sJ, hJ_sJ_same, hK_sF, hI_sF, hJ_sF, hN_sF, hZ_sF, Option.bind_some, Option.toList_some, Option.toList_none, List.cons_append, List.nil_append, zq_ref, zq_null, L.k0, L.p0_5, L.k8, eF, e1 E (d + 7), eI]
        · simp (decide := true) only [e_X4_place, s_X4_place_0, s_X4_place_1, s_X4_place_4, s_X4_place_7, s_X4_place_9, s_X4_place_10, s_X4_place_11, s_X4_place_12, s_X4_place_15, s_X4_place_18, s_X4_place_20, s_X4_place_21, s_X4_place_22, s_X4_place_24, s_X4_place_25, s_X4_place_28, s_X4_place_31, s_X4_place_32, s_X4_place_35, s_X4_place_36, s_X4_place_37, s_X4_place_38, s_X4_place_41, s_X4_place_44, s_X4_place_45, s_X4_place_46, s_X4_place_47, s_X4_place_51, s_X4_place_52, s_X4_place_55, s_X4_place_56, s_X4_place_59, s_X4_place_60, s_X4_place_63, s_X4_place_64, s_X4_place_67, s_X4_place_68, s_X4_place_71, s_X4_place_73, s_X4_place_74, s_X4_place_75, s_X4_place_77, s_X4_place_78, s_X4_place_79, s_X4_place_80, s_X4_place_83, s_X4_place_86, s_X4_place_87, s_X4_place_88, s_X4_place_90, s_X4_place_91, s_X4_place_92, s_X4_place_95, s_X4_place_96, s_X4_place_99, s_X4_place_100, s_X4_place_101, s_X4_place_104, s_X4_place_107, s_X4_place_108, s_X4_place_111, s_X4_place_112, s_X4_place_113, s_X4_place_116, s_X4_place_119, s_X4_place_120, if_true, if_false, and_true, true_and, and_false, false_and, true_or, or_true, or_false, false_or, eq_self, not_true_eq_false, not_false_eq_true, zv_int, zv_ref, zv_null, zv_none, hK_sI, hF_sI, hJ_sI, hN_sI, hZ_sI, hI_sI_same, hK_sJ, hF_sJ, hI_sJ, hN_sJ, hZ_sJ, hJ_sJ_same, hK_sF, hI_sF, hJ_sF, hN_sF, hZ_sF, Option.bind_some, Option.toList_some, Option.toList_none, List.cons_append, List.nil_append, zq_ref, zq_null, L.k70, x12, p0, e2 E (d + 6)]
          rw [s_X4_place_23]
          by_cases cl : nI K.length ≤ 0
          · simp (decide := true) only [s_X4_place_0, s_X4_place_1, s_X4_place_4, s_X4_place_7, s_X4_place_9, s_X4_place_10, s_X4_place_11, s_X4_place_12, s_X4_place_15, s_X4_place_18, s_X4_place_20, s_X4_place_21, s_X4_place_22, s_X4_place_24, s_X4_place_25, s_X4_place_28, s_X4_place_31, s_X4_place_32, s_X4_place_35, s_X4_place_36, s_X4_place_37, s_X4_place_38, s_X4_place_41, s_X4_place_44, s_X4_place_45, s_X4_place_46, s_X4_place_47, s_X4_place_51, s_X4_place_52, s_X4_place_55, s_X4_place_56, s_X4_place_59, s_X4_place_60, s_X4_place_63, s_X4_place_64, s_X4_place_67, s_X4_place_68, s_X4_place_71, s_X4_place_73, s_X4_place_74, s_X4_place_75, s_X4_place_77, s_X4_place_78, s_X4_place_79, s_X4_place_80, s_X4_place_83, s_X4_place_86, s_X4_place_87, s_X4_place_88, s_X4_place_90, s_X4_place_91, s_X4_place_92, s_X4_place_95, s_X4_place_96, s_X4_place_99, s_X4_place_100, s_X4_place_101, s_X4_place_104, s_X4_place_107, s_X4_place_108, s_X4_place_111, s_X4_place_112, s_X4_place_113, s_X4_place_116, s_X4_place_119, s_X4_place_120, if_true, if_false, and_true, true_and, and_false, false_and, true_or, or_true, or_false, false_or, eq_self, not_true_eq_false, not_false_eq_true, zv_int, zv_ref, zv_null, zv_none, hK_sI, hF_sI, hJ_sI, hN_sI, hZ_sI, hI_sI_same, hK_sJ, hF_sJ, hI_sJ, hN_sJ, hZ_sJ, hJ_sJ_same, hK_sF, hI_sF, hJ_sF, hN_sF, hZ_sF, Option.bind_some, Option.toList_some, Option.toList_none, List.cons_append, List.nil_append, zq_ref, zq_null, L.k70, x12, cl]
          · simp (decide := true) only [s_X4_place_0, s_X4_place_1, s_X4_place_4, s_X4_place_7, s_X4_place_9, s_X4_place_10, s_X4_place_11, s_X4_place_12, s_X4_place_15, s_X4_place_18, s_X4_place_20, s_X4_place_21, s_X4_place_22, s_X4_place_24, s_X4_place_25, s_X4_place_28, s_X4_place_31, s_X4_place_32, s_X4_place_35, s_X4_place_36, s_X4_place_37, s_X4_place_38, s_X4_place_41, s_X4_place_44, s_X4_place_45, s_X4_place_46, s_X4_place_47, s_X4_place_51, s_X4_place_52, s_X4_place_55, s_X4_place_56, s_X4_place_59, s_X4_place_60, s_X4_place_63, s_X4_place_64, s_X4_place_67, s_X4_place_68, s_X4_place_71, s_X4_place_73, s_X4_place_74, s_X4_place_75, s_X4_place_77, s_X4_place_78, s_X4_place_79, s_X4_place_80, s_X4_place_83, s_X4_place_86, s_X4_place_87, s_X4_place_88, s_X4_place_90, s_X4_place_91, s_X4_place_92, s_X4_place_95, s_X4_place_96, s_X4_place_99, s_X4_place_100, s_X4_place_101, s_X4_place_104, s_X4_place_107, s_X4_place_108, s_X4_place_111, s_X4_place_112, s_X4_place_113, s_X4_place_116, s_X4_place_119, s_X4_place_120, if_true, if_false, and_true, true_and, and_false, false_and, true_or, or_true, or_false, false_or, eq_self, not_true_eq_false, not_false_eq_true, zv_int, zv_ref, zv_null, zv_none, hK_sI, hF_sI, hJ_sI, hN_sI, hZ_sI, hI_sI_same, hK_sJ, hF_sJ, hI_sJ, hN_sJ, hZ_sJ, hJ_sJ_same, hK_sF, hI_sF, hJ_sF, hN_sF, hZ_sF, Option.bind_some, Option.toList_some, Option.toList_none, List.cons_append, List.nil_append, zq_ref, zq_null, L.k70, L.p70_6, L.k76, x12, x15, cl, z0, z1, (hm k hk).1, c1]
end
