/-! ===== the class finds all that are sought: the whole ===== -/
section
variable {E : mE} {d : Nat} {h h1 h2 : mH} {b : Nat}
def EXge (n : Nat) (rd pd : Bool) (hd t : Nat → Nat) (s v κ : Nat) : Prop := ∃ f, Sol n rd pd hd f ∧ kyr f (n * n) = κ ∧ (∀ j, j < s → f (cs n j) = t (cs n j)) ∧ v ≤ f (cs n s)
theorem EXge_v {n s v κ : Nat} {rd pd : Bool} {hd t : Nat → Nat} (hn : 1 ≤ n ∧ n ≤ 4) (hs : s < n * n) (hv : v ≤ 16) : EXge n rd pd hd t s v κ ↔ EXv n rd pd hd t s (nI v) κ ∨ EXge n rd pd hd t s (v + 1) κ := by
  have nn : n * n ≤ 16 := Nat.mul_le_mul hn.2 hn.2
  have hc := (pz_cs n (by omega) hn.1 s hs).1
  constructor
  · rintro ⟨f, S, ek, ag_, ge⟩
    by_cases c : f (cs n s) = v
    · exact Or.inl ⟨f, S, ek, ag_, by rw [c]⟩
    · exact Or.inr ⟨f, S, ek, ag_, by omega⟩
  · rintro (⟨f, S, ek, ag_, ev⟩ | ⟨f, S, ek, ag_, ge⟩)
    · have := S.1 _ hc
      have := (nI_eq (by omega) (by omega)).mp ev
      exact ⟨f, S, ek, ag_, by omega⟩
    · exact ⟨f, S, ek, ag_, by omega⟩
/-- the same key is the same square -/
theorem sol_key {n : Nat} {rd pd : Bool} {hd f g : Nat → Nat} (hn : n ≤ 4) (S : Sol n rd pd hd f) (G : Sol n rd pd hd g) (e : kyr f (n * n) = kyr g (n * n)) : ∀ p, p < n * n → f p = g p := kyr_inj (Sol_val hn S) (Sol_val hn G) e
theorem lay_free {Z n s : Nat} {ask u : Int32} {rd pd : Bool} {hd t : Nat → Nat} {lo : Option Value} (hn : 1 ≤ n ∧ n ≤ 4) (hs : s < n * n) (H : HD n hd) (hds : dsn n s = [])
    (IH : ∀ (t : Nat → Nat) (u : Int32) (K : List Nat) (h : mH), PC n hd t (s + 1) → UM n hd t (s + 1) u → ST E b Z n ask rd pd hd t (s + 1) u K h → (∀ κ ∈ K, ¬ EX n rd pd hd t (s + 1) κ) → ∃ h' K', cal E (d + 2) kX0_layFrom [.ref (b + 8), .int (nI (s + 1))] h = some (none, h') ∧ ST E b Z n ask rd pd hd t (s + 1) u K' h' ∧ frm b h h' ∧ ∀ κ, κ ∈ K' ↔ κ ∈ K ∨ EX n rd pd hd t (s + 1) κ)
    (P : PC n hd t s) (U : UM n hd t s u) : ∀ (m v : Nat) (K : List Nat) (h : mH) (v6 : Option Value), v + m = n * n + 1 → ST E b Z n ask rd pd hd t s u K h → (∀ κ ∈ K, ¬ EXge n rd pd hd t s v κ) → ∃ h' K', zl E (d + 2) kX0_layFrom 57 [some (.ref (b + 8)), some (.int (nI s)), some (.int (nI (cs n s))), lo, some (.int (nI (n * n))), some (.int (nI v)), v6] [] h = some (none, h') ∧ ST E b Z n ask rd pd hd t s u K' h' ∧ frm b h h' ∧ ∀ κ, κ ∈ K' ↔ κ ∈ K ∨ EXge n rd pd hd t s v κ
  | 0, v, K, h, v6, e, T, dis => by
    have nn : n * n ≤ 16 := Nat.mul_le_mul hn.2 hn.2
    have hc := (pz_cs n (by omega) hn.1 s hs).1
    have q1 : nI (n * n) < nI v := nI_lt (by omega) (by omega)
    refine ⟨h, K, ?_, T, frm_refl, fun κ => ⟨Or.inl, fun q => q.elim id ?_⟩⟩
    · rw [s_X0_layFrom_57]
      simp (decide := true) only [s_X0_layFrom_0, s_X0_layFrom_1, s_X0_layFrom_2, s_X0_layFrom_5, s_X0_layFrom_8, s_X0_layFrom_9, s_X0_layFrom_12, s_X0_layFrom_13, s_X0_layFrom_14, s_X0_layFrom_17, s_X0_layFrom_18, s_X0_layFrom_19, s_X0_layFrom_20, s_X0_layFrom_21, s_X0_layFrom_22, s_X0_layFrom_23, s_X0_layFrom_24, s_X0_layFrom_25, s_X0_layFrom_28, s_X0_layFrom_30, s_X0_layFrom_31, s_X0_layFrom_34, s_X0_layFrom_35, s_X0_layFrom_36, s_X0_layFrom_37, s_X0_layFrom_38, s_X0_layFrom_39, s_X0_layFrom_40, s_X0_layFrom_43, s_X0_layFrom_44, s_X0_layFrom_45, s_X0_layFrom_46, s_X0_layFrom_47, s_X0_layFrom_50, s_X0_layFrom_51, s_X0_layFrom_52, s_X0_layFrom_54, s_X0_layFrom_55, s_X0_layFrom_59, s_X0_layFrom_61, s_X0_layFrom_64, s_X0_layFrom_65, s_X0_layFrom_66, s_X0_layFrom_68, s_X0_layFrom_71, s_X0_layFrom_74, s_X0_layFrom_75, s_X0_layFrom_78, s_X0_layFrom_80, s_X0_layFrom_81, s_X0_layFrom_82, s_X0_layFrom_85, s_X0_layFrom_86, s_X0_layFrom_88, s_X0_layFrom_89, s_X0_layFrom_90, s_X0_layFrom_93, s_X0_layFrom_94, s_X0_layFrom_97, s_X0_layFrom_100, s_X0_layFrom_101, s_X0_layFrom_103, s_X0_layFrom_104, s_X0_layFrom_105, s_X0_layFrom_106, s_X0_layFrom_107, s_X0_layFrom_108, s_X0_layFrom_111, s_X0_layFrom_112, s_X0_layFrom_114, s_X0_layFrom_117, s_X0_layFrom_120, s_X0_layFrom_123, if_true, if_false, and_true, true_and, and_false, false_and, true_or, or_true, or_false, false_or, eq_self, not_true_eq_false, not_false_eq_true, zv_int, zv_ref, zv_null, zv_none, hK_sI, hF_sI, hJ_sI, hN_sI, hZ_sI, hI_sI_same, hK_sJ, hF_sJ, hI_sJ, hN_sJ, hZ_sJ, hJ_sJ_same, hK_sF, hI_sF, hJ_sF, hN_sF, hZ_sF, Option.bind_some, Option.toList_some, Option.toList_none, List.cons_append, List.nil_append, zq_ref, zq_null, q1]
    · rintro ⟨f, S, _, _, ge⟩
      have := S.1 _ hc
      omega
  | m + 1, v, K, h, v6, e, T, dis => by
    have nn : n * n ≤ 16 := Nat.mul_le_mul hn.2 hn.2
    have hc := (pz_cs n (by omega) hn.1 s hs).1
    have q1 : ¬ nI (n * n) < nI v := nI_nlt (by omega) (by omega)
    obtain ⟨h1, K1, w6, e1, T1, fr1, m1⟩ := cand (lo := lo) (v6 := v6) hn hs H IH P U T q1 (fun q => absurd hds q) (fun κ hκ q => dis κ hκ ((EXge_v hn hs (by omega)).mpr (Or.inl q)))
    obtain ⟨h2, K2, e2, T2, fr2, m2⟩ := lay_free hn hs H hds IH P U m (v + 1) K1 h1 w6 (by omega) T1 (fun κ hκ q => by
      rcases (m1 κ).mp hκ with c | ⟨f, S, ek, ag_, ev⟩
      · exact dis κ c ((EXge_v hn hs (by omega)).mpr (Or.inr q))
      · obtain ⟨g, G, eg, _, ge⟩ := q
        have := sol_key hn.2 S G (ek.trans eg.symm) _ hc
        have hv := S.1 _ hc
        have := (nI_eq (by omega) (by omega)).mp ev
        omega)
    refine ⟨h2, K2, ?_, T2, frm_trans fr1 fr2, fun κ => ?_⟩
    · rw [e1, nI_1]
      exact e2
    · rw [m2, m1, EXge_v (v := v) hn hs (by omega), or_assoc]
theorem TT_le {n : Nat} (hn : 1 ≤ n ∧ n ≤ 4) : TT n ≤ 34 := by
  have hc : n = 1 ∨ n = 2 ∨ n = 3 ∨ n = 4 := by omega
  rcases hc with rfl | rfl | rfl | rfl <;> decide
theorem lay_all {Z n : Nat} {ask : Int32} {rd pd : Bool} {hd : Nat → Nat} (hE : zES E) (hb : ∀ k, k < 7 → E.1 k < b) (hn : 1 ≤ n ∧ n ≤ 4) (H : HD n hd) (ha4 : ask &&& 4 = 0 ↔ rd = false) (ha8 : ask &&& 8 = 0 ↔ pd = false) : ∀ (k s : Nat), s + k = n * n → ∀ (t : Nat → Nat) (u : Int32) (K : List Nat) (h : mH), PC n hd t s → UM n hd t s u → ST E b Z n ask rd pd hd t s u K h → (∀ κ ∈ K, ¬ EX n rd pd hd t s κ) → ∃ h' K', cal E (d + 5 + k) kX0_layFrom [.ref (b + 8), .int (nI s)] h = some (none, h') ∧ ST E b Z n ask rd pd hd t s u K' h' ∧ frm b h h' ∧ ∀ κ, κ ∈ K' ↔ κ ∈ K ∨ EX n rd pd hd t s κ
  | 0, s, e, t, u, K, h, P, U, T, dis => by
    have : s = n * n := by omega
    subst this
    exact lay_leaf hb hn ha4 ha8 P T dis
  | k + 1, s, e, t, u, K, h, P, U, T, dis => by
    have hs : s < n * n := by omega
    have nn : n * n ≤ 16 := Nat.mul_le_mul hn.2 hn.2
    have tt := TT_le hn
    have IH := lay_all (Z := Z) hE hb hn H ha4 ha8 k (s + 1) (by omega)
    rw [show d + 5 + k = d + k + 3 + 2 by omega] at IH
    obtain ⟨f, hf, hv⟩ := hE (n - 1) (by omega)
    obtain ⟨hc, hlen, pc, pneg⟩ := pz_cs n (by omega) hn.1 s hs
    rw [hlen] at hf hv
    have T' := T
    obtain ⟨C, F, hu, tr_, sK, kS⟩ := T'
    obtain ⟨L, c1, c2, c3, c4, c5, c6, c7, c8⟩ := C
    have k0 : (hK h (E.1 (n - 1))).1 = 0 := c1 _ (by omega)
    have q1 : nI s < nI (n * n) := nI_lt hs (by omega)
    have z0 : zR (nI (4 * s)) (4 * (n * n)) := zR_to (by omega) (by omega)
    have z1 : (nI (4 * s)).toNatClampNeg = 4 * s := nI_clamp (by omega)
    have z2 : zR (nI (4 * s + 1)) (4 * (n * n)) := zR_to (by omega) (by omega)
    have z3 : (nI (4 * s + 1)).toNatClampNeg = 4 * s + 1 := nI_clamp (by omega)
    have f0 : f (4 * s) = nI (cs n s) := by rw [hv _ (by omega), pc]
    have f1 : f (4 * s + 1) = (zsv (n - 1)).getD (4 * s + 1) 0 := hv _ (by omega)
    by_cases hds : dsn n s = []
    · have neg := pneg hds
      rw [← f1] at neg
      obtain ⟨h', K', e1, T1, fr1, m1⟩ := lay_free (lo := some (.int 1)) hn hs H hds IH P U (n * n) 1 K h none (by omega) T (fun κ hκ q => by
        obtain ⟨g, G, eg, ag_, _⟩ := q
        exact dis κ hκ ⟨g, G, eg, ag_⟩)
      refine ⟨h', K', ?_, T1, fr1, fun κ => ?_⟩
      · rw [show d + 5 + (k + 1) = d + k + 3 + 2 + 1 by omega]
        have n1 : nI 1 = 1 := rfl
        rw [n1] at e1
        simp (decide := true) only [e_X0_layFrom, s_X0_layFrom_0, s_X0_layFrom_1, s_X0_layFrom_2, s_X0_layFrom_5, s_X0_layFrom_8, s_X0_layFrom_9, s_X0_layFrom_12, s_X0_layFrom_13, s_X0_layFrom_14, s_X0_layFrom_17, s_X0_layFrom_18, s_X0_layFrom_19, s_X0_layFrom_21, s_X0_layFrom_22, s_X0_layFrom_23, s_X0_layFrom_24, s_X0_layFrom_25, s_X0_layFrom_28, s_X0_layFrom_30, s_X0_layFrom_31, s_X0_layFrom_34, s_X0_layFrom_35, s_X0_layFrom_36, s_X0_layFrom_37, s_X0_layFrom_38, s_X0_layFrom_40, s_X0_layFrom_43, s_X0_layFrom_44, s_X0_layFrom_45, s_X0_layFrom_46, s_X0_layFrom_47, s_X0_layFrom_50, s_X0_layFrom_51, s_X0_layFrom_52, s_X0_layFrom_54, s_X0_layFrom_55, s_X0_layFrom_59, s_X0_layFrom_61, s_X0_layFrom_64, s_X0_layFrom_65, s_X0_layFrom_66, s_X0_layFrom_68, s_X0_layFrom_71, s_X0_layFrom_74, s_X0_layFrom_75, s_X0_layFrom_78, s_X0_layFrom_80, s_X0_layFrom_81, s_X0_layFrom_82, s_X0_layFrom_85, s_X0_layFrom_86, s_X0_layFrom_88, s_X0_layFrom_89, s_X0_layFrom_90, s_X0_layFrom_93, s_X0_layFrom_94, s_X0_layFrom_97, s_X0_layFrom_100, s_X0_layFrom_101, s_X0_layFrom_103, s_X0_layFrom_104, s_X0_layFrom_105, s_X0_layFrom_106, s_X0_layFrom_107, s_X0_layFrom_108, s_X0_layFrom_111, s_X0_layFrom_112, s_X0_layFrom_114, s_X0_layFrom_117, s_X0_layFrom_120, s_X0_layFrom_123, s_X0_layFrom_20r k0 hf z0, s_X0_layFrom_39r k0 hf z2, if_true, if_false, and_true, true_and, and_false, false_and, true_or, or_true, or_false, false_or, eq_self, not_true_eq_false, not_false_eq_true, zv_int, zv_ref, zv_null, zv_none, hK_sI, hF_sI, hJ_sI, hN_sI, hZ_sI, hI_sI_same, hK_sJ, hF_sJ, hI_sJ, hN_sJ, hZ_sJ, hJ_sJ_same, hK_sF, hI_sF, hJ_sF, hN_sF, hZ_sF, Option.bind_some, Option.toList_some, Option.toList_none, List.cons_append, List.nil_append, zq_ref, zq_null, L.k8, c3, c6, q1, t4m, nI_1, z1, z3, f0, neg]
        exact e1
      · rw [m1]
        refine or_congr_right ⟨?_, ?_⟩
        · rintro ⟨g, G, eg, ag_, _⟩
          exact ⟨g, G, eg, ag_⟩
        · rintro ⟨g, G, eg, ag_⟩
          exact ⟨g, G, eg, ag_, (G.1 _ hc).1⟩
    · obtain ⟨nneg, dl, _, dmem⟩ := pz_ds n (by omega) hn.1 s hs hds
      rw [← f1] at nneg
      have eR := c_X0_rest (E := E) (d := d + k + 4) hE hn ⟨L, c1, c2, c3, c4, c5, c6, c7, c8⟩ hs hds
      obtain ⟨r, er⟩ : ∃ r, r = rsm (hI h (b + 10)) (nI (TT n)) (dsn n s) := ⟨_, rfl⟩
      rw [← er] at eR
      have dep : ∀ x ∈ dsn n s, hI h (b + 10) x = nI (t x) ∧ t x ≤ 16 := fun x hx => by
        obtain ⟨i, hi, ei⟩ := dmem x hx
        rw [← ei]
        have := (P.1 i hi).1
        exact ⟨tr_ i hi, by omega⟩
      have rv : r.toInt = (TT n : Int) - ((dsn n s).map t).sum := by
        rw [er]
        exact rsm_val (dsn n s) (nI (TT n)) (TT n) dep (nIt (by omega)) (by omega) (by omega)
      have sb : ((dsn n s).map t).sum ≤ 16 * (dsn n s).length := by
        have : ∀ l : List Nat, (∀ x ∈ l, t x ≤ 16) → (l.map t).sum ≤ 16 * l.length := by
          intro l
          induction l with
          | nil => intro _; exact Nat.le_refl _
          | cons x l ih =>
            intro hl
            have h1 := hl x List.mem_cons_self
            have h2 := ih (fun y hy => hl y (List.mem_cons_of_mem _ hy))
            rw [List.map_cons, List.sum_cons, List.length_cons]
            omega
        exact this _ (fun x hx => (dep x hx).2)
      have exr : ∀ κ, EX n rd pd hd t s κ ↔ EXv n rd pd hd t s r κ := fun κ => by
        constructor
        · rintro ⟨g, G, eg, ag_⟩
          refine ⟨g, G, eg, ag_, ?_⟩
          have a1 := pln_sum hn G _ (pz_mem n (by omega) hn.1 s hs) hds
          change g (cs n s) + ((dsn n s).map g).sum = TT n at a1
          have a2 : (dsn n s).map g = (dsn n s).map t := by
            apply List.map_congr_left
            intro x hx
            obtain ⟨i, hi, ei⟩ := dmem x hx
            rw [← ei]
            exact ag_ i hi
          rw [a2] at a1
          have := G.1 _ hc
          apply Int32.toInt_inj.1
          rw [rv, nIt (by omega)]
          omega
        · rintro ⟨g, G, eg, ag_, _⟩
          exact ⟨g, G, eg, ag_⟩
      have qrr : ¬ r < r := i32_irr r
      have r1 : (r + 1).toInt = r.toInt + 1 := by
        have one : (1 : Int32).toInt = 1 := rfl
        rw [ad32 (by rw [one, rv]; omega), one]
      have qr1 : r < r + 1 := by
        rw [Int32.lt_iff_toInt_lt, r1]
        omega
      obtain ⟨h', K', w6, e1, T1, fr1, m1⟩ := cand (lo := some (.int r)) (v6 := none) hn hs H IH P U T qrr (fun _ v ev hv16 => by
        have := congrArg Int32.toInt ev
        rw [rv, nIt (by omega)] at this
        omega) (fun κ hκ q => dis κ hκ ((exr κ).mpr q))
      refine ⟨h', K', ?_, T1, fr1, fun κ => by rw [m1, exr]⟩
      rw [show d + 5 + (k + 1) = d + k + 3 + 2 + 1 by omega]
      rw [show d + k + 4 + 1 = d + k + 3 + 2 by omega] at eR
      simp (decide := true) only [e_X0_layFrom, s_X0_layFrom_0, s_X0_layFrom_1, s_X0_layFrom_2, s_X0_layFrom_5, s_X0_layFrom_8, s_X0_layFrom_9, s_X0_layFrom_12, s_X0_layFrom_13, s_X0_layFrom_14, s_X0_layFrom_17, s_X0_layFrom_18, s_X0_layFrom_19, s_X0_layFrom_21, s_X0_layFrom_22, s_X0_layFrom_23, s_X0_layFrom_24, s_X0_layFrom_25, s_X0_layFrom_28, s_X0_layFrom_30, s_X0_layFrom_31, s_X0_layFrom_34, s_X0_layFrom_35, s_X0_layFrom_36, s_X0_layFrom_37, s_X0_layFrom_38, s_X0_layFrom_40, s_X0_layFrom_43, s_X0_layFrom_44, s_X0_layFrom_45, s_X0_layFrom_46, s_X0_layFrom_47, s_X0_layFrom_50, s_X0_layFrom_51, s_X0_layFrom_52, s_X0_layFrom_54, s_X0_layFrom_55, s_X0_layFrom_59, s_X0_layFrom_61, s_X0_layFrom_64, s_X0_layFrom_65, s_X0_layFrom_66, s_X0_layFrom_68, s_X0_layFrom_71, s_X0_layFrom_74, s_X0_layFrom_75, s_X0_layFrom_78, s_X0_layFrom_80, s_X0_layFrom_81, s_X0_layFrom_82, s_X0_layFrom_85, s_X0_layFrom_86, s_X0_layFrom_88, s_X0_layFrom_89, s_X0_layFrom_90, s_X0_layFrom_93, s_X0_layFrom_94, s_X0_layFrom_97, s_X0_layFrom_100, s_X0_layFrom_101, s_X0_layFrom_103, s_X0_layFrom_104, s_X0_layFrom_105, s_X0_layFrom_106, s_X0_layFrom_107, s_X0_layFrom_108, s_X0_layFrom_111, s_X0_layFrom_112, s_X0_layFrom_114, s_X0_layFrom_117, s_X0_layFrom_120, s_X0_layFrom_123, s_X0_layFrom_20r k0 hf z0, s_X0_layFrom_39r k0 hf z2, if_true, if_false, and_true, true_and, and_false, false_and, true_or, or_true, or_false, false_or, eq_self, not_true_eq_false, not_false_eq_true, zv_int, zv_ref, zv_null, zv_none, hK_sI, hF_sI, hJ_sI, hN_sI, hZ_sI, hI_sI_same, hK_sJ, hF_sJ, hI_sJ, hN_sJ, hZ_sJ, hJ_sJ_same, hK_sF, hI_sF, hJ_sF, hN_sF, hZ_sF, Option.bind_some, Option.toList_some, Option.toList_none, List.cons_append, List.nil_append, zq_ref, zq_null, L.k8, c3, c6, q1, t4m, nI_1, z1, z3, f0, nneg, eR]
      rw [e1, s_X0_layFrom_57]
      simp (decide := true) only [s_X0_layFrom_0, s_X0_layFrom_1, s_X0_layFrom_2, s_X0_layFrom_5, s_X0_layFrom_8, s_X0_layFrom_9, s_X0_layFrom_12, s_X0_layFrom_13, s_X0_layFrom_14, s_X0_layFrom_17, s_X0_layFrom_18, s_X0_layFrom_19, s_X0_layFrom_20, s_X0_layFrom_21, s_X0_layFrom_22, s_X0_layFrom_23, s_X0_layFrom_24, s_X0_layFrom_25, s_X0_layFrom_28, s_X0_layFrom_30, s_X0_layFrom_31, s_X0_layFrom_34, s_X0_layFrom_35, s_X0_layFrom_36, s_X0_layFrom_37, s_X0_layFrom_38, s_X0_layFrom_39, s_X0_layFrom_40, s_X0_layFrom_43, s_X0_layFrom_44, s_X0_layFrom_45, s_X0_layFrom_46, s_X0_layFrom_47, s_X0_layFrom_50, s_X0_layFrom_51, s_X0_layFrom_52, s_X0_layFrom_54, s_X0_layFrom_55, s_X0_layFrom_59, s_X0_layFrom_61, s_X0_layFrom_64, s_X0_layFrom_65, s_X0_layFrom_66, s_X0_layFrom_68, s_X0_layFrom_71, s_X0_layFrom_74, s_X0_layFrom_75, s_X0_layFrom_78, s_X0_layFrom_80, s_X0_layFrom_81, s_X0_layFrom_82, s_X0_layFrom_85, s_X0_layFrom_86, s_X0_layFrom_88, s_X0_layFrom_89, s_X0_layFrom_90, s_X0_layFrom_93, s_X0_layFrom_94, s_X0_layFrom_97, s_X0_layFrom_100, s_X0_layFrom_101, s_X0_layFrom_103, s_X0_layFrom_104, s_X0_layFrom_105, s_X0_layFrom_106, s_X0_layFrom_107, s_X0_layFrom_108, s_X0_layFrom_111, s_X0_layFrom_112, s_X0_layFrom_114, s_X0_layFrom_117, s_X0_layFrom_120, s_X0_layFrom_123, if_true, if_false, and_true, true_and, and_false, false_and, true_or, or_true, or_false, false_or, eq_self, not_true_eq_false, not_false_eq_true, zv_int, zv_ref, zv_null, zv_none, hK_sI, hF_sI, hJ_sI, hN_sI, hZ_sI, hI_sI_same, hK_sJ, hF_sJ, hI_sJ, hN_sJ, hZ_sJ, hJ_sJ_same, hK_sF, hI_sF, hJ_sF, hN_sF, hZ_sF, Option.bind_some, Option.toList_some, Option.toList_none, List.cons_append, List.nil_append, zq_ref, zq_null, qr1]
end
