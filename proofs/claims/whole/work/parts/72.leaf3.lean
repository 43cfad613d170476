/-! ===== the class looks at a whole square ===== -/
section
variable {E : mE} {d : Nat} {h h1 h2 : mH} {b : Nat}
theorem nI64 {v : Nat} (hv : v ≤ 16) : (nI v).toInt64 = Int64.ofNat v := by
  have : ∀ v, v < 17 → (nI v).toInt64 = Int64.ofNat v := by decide +kernel
  exact this v (by omega)
theorem ofN_inj {a c : Nat} (ha : a < 2 ^ 31) (hc : c < 2 ^ 31) (e : Int64.ofNat a = Int64.ofNat c) : a = c := by
  have := congrArg Int64.toInt e
  rw [Int64.toInt_ofNat_of_lt (by omega), Int64.toInt_ofNat_of_lt (by omega)] at this
  omega
theorem ls_le {f : Nat → Nat} {n line : Nat} (hl : line < 4 * n) (v : ∀ p, p < n * n → f p ≤ 16) : ∀ k, k ≤ n → ls f n line k ≤ 16 * k
  | 0, _ => Nat.le_refl _
  | k + 1, hk => by
    unfold ls
    have h1 := ls_le hl v k (by omega)
    have h2 := v _ (lc_lt (i := k) hl (by omega))
    omega
theorem lnS_ls {g : Nat → Int32} {f : Nat → Nat} {n line : Nat} (hl : line < 4 * n) (e : ∀ p, p < n * n → g p = nI (f p)) (v : ∀ p, p < n * n → f p ≤ 16) : lnS g n line 1 = Int64.ofNat (ls f n line n) := by
  have key : ∀ k, k ≤ n → sm (fun i => pw 1 (g (lc n line i)).toInt64) k = Int64.ofNat (ls f n line k) := by
    intro k
    induction k with
    | zero => intro _; rfl
    | succ k ih =>
      intro hk
      have hc := lc_lt (i := k) hl (by omega)
      show sm (fun i => pw 1 (g (lc n line i)).toInt64) k + pw 1 (g (lc n line k)).toInt64 = _
      rw [ih (by omega)]
      show _ + (g (lc n line k)).toInt64 = _
      rw [e _ hc, nI64 (v _ hc), ← Int64.ofNat_add]
      rfl
  exact key n (Nat.le_refl _)
theorem fs_none {p : Nat → Bool} : ∀ {k i : Nat}, fs p k i = none ↔ ∀ j, i ≤ j → j < i + k → p j = false
  | 0, i => ⟨fun _ j h1 h2 => absurd h2 (by omega), fun _ => rfl⟩
  | k + 1, i => by
    unfold fs
    cases hp : p i with
    | true =>
      constructor
      · intro q; cases q
      · intro q
        have := q i (Nat.le_refl _) (by omega)
        rw [hp] at this
        cases this
    | false =>
      rw [cond_false, fs_none (k := k) (i := i + 1)]
      constructor
      · intro q j h1 h2
        by_cases c : j = i
        · rw [c]; exact hp
        · exact q j (by omega) (by omega)
      · intro q j h1 h2
        exact q j (by omega) (by omega)
theorem fs_lt {p : Nat → Bool} {k i q : Nat} (e : fs p k i = some q) : q < i + k := (fs_some e).2.1
/-- no odd line: all lines that are asked for sum as the first does -/
theorem odL_ok {g : Nat → Int32} {f : Nat → Nat} {n kd : Nat} (hn : 1 ≤ n ∧ n ≤ 4) (e : ∀ p, p < n * n → g p = nI (f p)) (v : ∀ p, p < n * n → f p ≤ 16) : odL g n kd 1 = -1 ↔ ∀ line, 1 ≤ line → line < 4 * n → ask kd n line = true → ls f n line n = ls f n 0 n := by
  have r : odL g n kd 1 = -1 ↔ fs (odp g n kd 1) (4 * n - 1) 1 = none := by
    unfold odL
    cases q : fs (odp g n kd 1) (4 * n - 1) 1 with
    | none => exact ⟨fun _ => rfl, fun _ => rfl⟩
    | some k =>
      have := fs_lt q
      refine ⟨fun c => ?_, fun c => by cases c⟩
      have h1 : (0 : Int32) ≤ nI k := nI_pos' (by omega)
      change nI k = -1 at c
      rw [c] at h1
      exact absurd h1 (by decide)
  rw [r, fs_none]
  constructor
  · intro q line h1 h2 h3
    have h4 := q line h1 (by omega)
    unfold odp at h4
    rw [h3, Bool.true_and, decide_eq_false_iff_not, Classical.not_not, lnS_ls h2 e v, lnS_ls (by omega) e v] at h4
    have b1 := ls_le h2 v n (Nat.le_refl _)
    have b2 := ls_le (line := 0) (by omega) v n (Nat.le_refl _)
    exact ofN_inj (by omega) (by omega) h4
  · intro q line h1 h2
    unfold odp
    cases h3 : ask kd n line with
    | false => rfl
    | true =>
      rw [Bool.true_and, decide_eq_false_iff_not, Classical.not_not, lnS_ls (by omega) e v, lnS_ls (by omega) e v, q line h1 (by omega) h3]
theorem al_iff {p : Nat → Bool} : ∀ {k i : Nat}, al p k i = true ↔ ∀ j, i ≤ j → j < i + k → p j = true
  | 0, i => ⟨fun _ j h1 h2 => absurd h2 (by omega), fun _ => rfl⟩
  | k + 1, i => by
    unfold al
    rw [Bool.and_eq_true, al_iff (k := k) (i := i + 1)]
    constructor
    · intro q j h1 h2
      by_cases c : j = i
      · rw [c]; exact q.1
      · exact q.2 j (by omega) (by omega)
    · intro q
      exact ⟨q i (Nat.le_refl _) (by omega), fun j h1 h2 => q j (by omega) (by omega)⟩
theorem prB_ok {g : Nat → Int32} {f : Nat → Nat} {N : Nat} (hN : 1 ≤ N ∧ N ≤ 16) (e : ∀ p, p < N → g p = nI (f p)) (v : ∀ p, p < N → f p ≤ 16) : prB g N = true ↔ ∀ p, p < N → f p + f (N - 1 - p) = f 0 + f (N - 1) := by
  rw [← prB_0 hN.1, al_iff]
  have key : ∀ p, p < N → (prp g N p = true ↔ f p + f (N - 1 - p) = f 0 + f (N - 1)) := fun p hp => by
    unfold prp
    rw [decide_eq_true_iff, e p hp, e (N - 1 - p) (by omega), e 0 (by omega), e (N - 1) (by omega), nI_add, nI_add]
    have v1 := v p hp
    have v2 := v (N - 1 - p) (by omega)
    have v3 := v 0 (by omega)
    have v4 := v (N - 1) (by omega)
    exact nI_eq (by omega) (by omega)
  constructor
  · intro q p hp
    exact (key p hp).mp (q p (by omega) (by omega))
  · intro q p _ hp
    exact (key p (by omega)).mpr (q p (by omega))
/-- the paired sum is that of the least and the greatest -/
theorem pair_sum {n : Nat} {rd pd : Bool} {hd f : Nat → Nat} (hn : 1 ≤ n ∧ n ≤ 4) (S : Sol n rd pd hd f) (q : ∀ p, p < n * n → f p + f (n * n - 1 - p) = f 0 + f (n * n - 1)) : ∀ p, p < n * n → f p + f (n * n - 1 - p) = n * n + 1 := by
  have hc : n = 1 ∨ n = 2 ∨ n = 3 ∨ n = 4 := by omega
  intro p hp
  rw [q p hp]
  rcases hc with rfl | rfl | rfl | rfl
  · have := S.1 0 (by decide)
    change f 0 + f 0 = 2
    omega
  · have l := lin2 S
    have := S.2.1 1 2 (by decide) (by decide)
    omega
  · have l := lin3 S
    have q3 := q 3 (by decide)
    have q4 := q 4 (by decide)
    change f 3 + f 5 = f 0 + f 8 at q3
    change f 4 + f 4 = f 0 + f 8 at q4
    change f 0 + f 8 = 10
    omega
  · have l := lin4 S
    have q3 := q 3 (by decide)
    change f 3 + f 12 = f 0 + f 15 at q3
    change f 0 + f 15 = 17
    omega
/-- what the class looks at tells whether it is one that is sought -/
theorem chk_sol {n : Nat} {rd pd : Bool} {hd f : Nat → Nat} {g : Nat → Int32} (hn : 1 ≤ n ∧ n ≤ 4) (e : ∀ p, p < n * n → g p = nI (f p)) (s1 : ∀ p, p < n * n → 1 ≤ f p ∧ f p ≤ n * n) (s2 : ∀ p q, p < q → q < n * n → f p ≠ f q) (s3 : ∀ p, p < n * n → hd p ≠ 0 → f p = hd p) (s4 : ls f n 0 n = TT n) : Sol n rd pd hd f ↔ (odL g n (if rd = true then 4 else 2) 1 = -1 ∧ (pd = true → prB g (n * n) = true)) := by
  have nn : n * n ≤ 16 := Nat.mul_le_mul hn.2 hn.2
  have n0 : 1 ≤ n * n := Nat.mul_pos hn.1 hn.1
  have v : ∀ p, p < n * n → f p ≤ 16 := fun p hp => by have := s1 p hp; omega
  rw [odL_ok hn e v, prB_ok ⟨n0, nn⟩ e v]
  have ask_iff : ∀ line, ask (if rd = true then 4 else 2) n line = true ↔ (line < 2 * n ∨ line = 2 * n ∨ line = 4 * n - 1 ∨ rd = true) := fun line => by
    unfold ask
    cases rd <;> simp
  constructor
  · rintro ⟨_, _, _, S4, S5⟩
    refine ⟨fun line h1 h2 h3 => ?_, fun hp p hq => ?_⟩
    · rw [s4]
      exact S4 line h2 ((ask_iff line).mp h3)
    · have a1 := S5 hp p hq
      have a2 := S5 hp 0 (by omega)
      rw [Nat.sub_zero] at a2
      omega
  · rintro ⟨o1, o2⟩
    have L4 : ∀ line, line < 4 * n → (line < 2 * n ∨ line = 2 * n ∨ line = 4 * n - 1 ∨ rd = true) → ls f n line n = TT n := fun line h2 h3 => by
      by_cases c : line = 0
      · rw [c]; exact s4
      · rw [← s4]
        exact o1 line (by omega) h2 ((ask_iff line).mpr h3)
    have S0 : Sol n rd false hd f := ⟨s1, s2, s3, L4, fun q => by cases q⟩
    exact ⟨s1, s2, s3, L4, fun hp => pair_sum hn S0 (o2 hp)⟩
/-- a square that is not sought: nothing changes -/
theorem c_keep0 {n : Nat} {ask : Int32} {rd pd : Bool} {hd : Nat → Nat} (hn : 1 ≤ n ∧ n ≤ 4) (C : FC E b n ask hd h) (ha4 : ask &&& 4 = 0 ↔ rd = false) (ha8 : ask &&& 8 = 0 ↔ pd = false) (o : ¬ (odL (hI h (b + 10)) n (if rd = true then 4 else 2) 1 = -1 ∧ (pd = true → prB (hI h (b + 10)) (n * n) = true))) : cal E (d + 4) kX0_keepTrial [.ref (b + 8)] h = some (none, h) := by
  have hn12 : 1 ≤ n ∧ n ≤ 12 := ⟨hn.1, by omega⟩
  have L := C.1
  have f91 := C.2.2.2.2.2.2.2.1
  have f88 := C.2.2.2.2.2.1
  have oL := c_X2_oddLine (E := E) (d := d) (kd := if rd = true then 4 else 2) (w := 1) L.k9 L.k10 L.p9_0 f91 hn12 (by cases rd <;> decide) (Or.inl rfl)
  have oP := c_X2_isPaired (E := E) (d := d + 2) L.k9 L.k10 L.p9_0 f91 hn12
  have w1 : nI 1 = 1 := rfl
  have w2 : nI 2 = 2 := rfl
  have w4 : nI 4 = 4 := rfl
  cases rd with
  | false =>
    have a4 := ha4.mpr rfl
    simp (decide := true) only [if_true, if_false, w1, w2] at oL o
    cases pd with
    | false =>
      have a8 := ha8.mpr rfl
      have o1 : ¬ odL (hI h (b + 10)) n 2 1 = -1 := fun q => o ⟨q, fun q => by cases q⟩
      simp (decide := true) only [e_X0_keepTrial, s_X0_keepTrial_0, s_X0_keepTrial_1, s_X0_keepTrial_4, s_X0_keepTrial_5, s_X0_keepTrial_6, s_X0_keepTrial_9, s_X0_keepTrial_10, s_X0_keepTrial_13, s_X0_keepTrial_14, s_X0_keepTrial_15, s_X0_keepTrial_16, s_X0_keepTrial_19, s_X0_keepTrial_21, s_X0_keepTrial_22, s_X0_keepTrial_25, s_X0_keepTrial_26, s_X0_keepTrial_29, s_X0_keepTrial_32, s_X0_keepTrial_35, s_X0_keepTrial_36, s_X0_keepTrial_39, s_X0_keepTrial_40, s_X0_keepTrial_41, s_X0_keepTrial_42, s_X0_keepTrial_45, s_X0_keepTrial_46, s_X0_keepTrial_49, s_X0_keepTrial_50, s_X0_keepTrial_51, s_X0_keepTrial_54, s_X0_keepTrial_55, s_X0_keepTrial_58, s_X0_keepTrial_59, s_X0_keepTrial_62, s_X0_keepTrial_65, s_X0_keepTrial_66, s_X0_keepTrial_67, s_X0_keepTrial_70, s_X0_keepTrial_73, s_X0_keepTrial_74, s_X0_keepTrial_75, s_X0_keepTrial_78, s_X0_keepTrial_82, s_X0_keepTrial_85, s_X0_keepTrial_86, s_X0_keepTrial_89, s_X0_keepTrial_91, s_X0_keepTrial_92, s_X0_keepTrial_93, s_X0_keepTrial_94, s_X0_keepTrial_95, s_X0_keepTrial_96, s_X0_keepTrial_99, s_X0_keepTrial_100, s_X0_keepTrial_103, s_X0_keepTrial_105, s_X0_keepTrial_106, s_X0_keepTrial_109, s_X0_keepTrial_111, s_X0_keepTrial_112, s_X0_keepTrial_113, s_X0_keepTrial_114, s_X0_keepTrial_115, s_X0_keepTrial_118, s_X0_keepTrial_121, s_X0_keepTrial_122, s_X0_keepTrial_125, s_X0_keepTrial_127, s_X0_keepTrial_128, s_X0_keepTrial_129, s_X0_keepTrial_130, s_X0_keepTrial_131, s_X0_keepTrial_134, s_X0_keepTrial_135, s_X0_keepTrial_136, s_X0_keepTrial_139, s_X0_keepTrial_140, s_X0_keepTrial_143, s_X0_keepTrial_146, s_X0_keepTrial_149, s_X0_keepTrial_150, s_X0_keepTrial_151, s_X0_keepTrial_154, s_X0_keepTrial_155, s_X0_keepTrial_156, s_X0_keepTrial_159, if_true, if_false, and_true, true_and, and_false, false_and, true_or, or_true, or_false, false_or, eq_self, not_true_eq_false, not_false_eq_true, zv_int, zv_ref, zv_null, zv_none, hK_sI, hF_sI, hJ_sI, hN_sI, hZ_sI, hI_sI_same, hK_sJ, hF_sJ, hI_sJ, hN_sJ, hZ_sJ, hJ_sJ_same, hK_sF, hI_sF, hJ_sF, hN_sF, hZ_sF, Option.bind_some, Option.toList_some, Option.toList_none, List.cons_append, List.nil_append, zq_ref, zq_null, L.k8, L.p8_0, L.k9, f88, a4, a8, oL, o1]
    | true =>
      have a8 : ¬ ask &&& 8 = 0 := fun q => by have := ha8.mp q; cases this
      cases c : prB (hI h (b + 10)) (n * n) with
      | false =>
        rw [c] at oP
        simp (decide := true) only [e_X0_keepTrial, s_X0_keepTrial_0, s_X0_keepTrial_1, s_X0_keepTrial_4, s_X0_keepTrial_5, s_X0_keepTrial_6, s_X0_keepTrial_9, s_X0_keepTrial_10, s_X0_keepTrial_13, s_X0_keepTrial_14, s_X0_keepTrial_15, s_X0_keepTrial_16, s_X0_keepTrial_19, s_X0_keepTrial_21, s_X0_keepTrial_22, s_X0_keepTrial_25, s_X0_keepTrial_26, s_X0_keepTrial_29, s_X0_keepTrial_32, s_X0_keepTrial_35, s_X0_keepTrial_36, s_X0_keepTrial_39, s_X0_keepTrial_40, s_X0_keepTrial_41, s_X0_keepTrial_42, s_X0_keepTrial_45, s_X0_keepTrial_46, s_X0_keepTrial_49, s_X0_keepTrial_50, s_X0_keepTrial_51, s_X0_keepTrial_54, s_X0_keepTrial_55, s_X0_keepTrial_58, s_X0_keepTrial_59, s_X0_keepTrial_62, s_X0_keepTrial_65, s_X0_keepTrial_66, s_X0_keepTrial_67, s_X0_keepTrial_70, s_X0_keepTrial_73, s_X0_keepTrial_74, s_X0_keepTrial_75, s_X0_keepTrial_78, s_X0_keepTrial_82, s_X0_keepTrial_85, s_X0_keepTrial_86, s_X0_keepTrial_89, s_X0_keepTrial_91, s_X0_keepTrial_92, s_X0_keepTrial_93, s_X0_keepTrial_94, s_X0_keepTrial_95, s_X0_keepTrial_96, s_X0_keepTrial_99, s_X0_keepTrial_100, s_X0_keepTrial_103, s_X0_keepTrial_105, s_X0_keepTrial_106, s_X0_keepTrial_109, s_X0_keepTrial_111, s_X0_keepTrial_112, s_X0_keepTrial_113, s_X0_keepTrial_114, s_X0_keepTrial_115, s_X0_keepTrial_118, s_X0_keepTrial_121, s_X0_keepTrial_122, s_X0_keepTrial_125, s_X0_keepTrial_127, s_X0_keepTrial_128, s_X0_keepTrial_129, s_X0_keepTrial_130, s_X0_keepTrial_131, s_X0_keepTrial_134, s_X0_keepTrial_135, s_X0_keepTrial_136, s_X0_keepTrial_139, s_X0_keepTrial_140, s_X0_keepTrial_143, s_X0_keepTrial_146, s_X0_keepTrial_149, s_X0_keepTrial_150, s_X0_keepTrial_151, s_X0_keepTrial_154, s_X0_keepTrial_155, s_X0_keepTrial_156, s_X0_keepTrial_159, if_true, if_false, and_true, true_and, and_false, false_and, true_or, or_true, or_false, false_or, eq_self, not_true_eq_false, not_false_eq_true, zv_int, zv_ref, zv_null, zv_none, hK_sI, hF_sI, hJ_sI, hN_sI, hZ_sI, hI_sI_same, hK_sJ, hF_sJ, hI_sJ, hN_sJ, hZ_sJ, hJ_sJ_same, hK_sF, hI_sF, hJ_sF, hN_sF, hZ_sF, Option.bind_some, Option.toList_some, Option.toList_none, List.cons_append, List.nil_append, zq_ref, zq_null, L.k8, L.p8_0, L.k9, f88, a4, a8, oP]
      | true =>
        rw [c] at oP
        have o1 : ¬ odL (hI h (b + 10)) n 2 1 = -1 := fun q => o ⟨q, fun _ => c⟩
        simp (decide := true) only [e_X0_keepTrial, s_X0_keepTrial_0, s_X0_keepTrial_1, s_X0_keepTrial_4, s_X0_keepTrial_5, s_X0_keepTrial_6, s_X0_keepTrial_9, s_X0_keepTrial_10, s_X0_keepTrial_13, s_X0_keepTrial_14, s_X0_keepTrial_15, s_X0_keepTrial_16, s_X0_keepTrial_19, s_X0_keepTrial_21, s_X0_keepTrial_22, s_X0_keepTrial_25, s_X0_keepTrial_26, s_X0_keepTrial_29, s_X0_keepTrial_32, s_X0_keepTrial_35, s_X0_keepTrial_36, s_X0_keepTrial_39, s_X0_keepTrial_40, s_X0_keepTrial_41, s_X0_keepTrial_42, s_X0_keepTrial_45, s_X0_keepTrial_46, s_X0_keepTrial_49, s_X0_keepTrial_50, s_X0_keepTrial_51, s_X0_keepTrial_54, s_X0_keepTrial_55, s_X0_keepTrial_58, s_X0_keepTrial_59, s_X0_keepTrial_62, s_X0_keepTrial_65, s_X0_keepTrial_66, s_X0_keepTrial_67, s_X0_keepTrial_70, s_X0_keepTrial_73, s_X0_keepTrial_74, s_X0_keepTrial_75, s_X0_keepTrial_78, s_X0_keepTrial_82, s_X0_keepTrial_85, s_X0_keepTrial_86, s_X0_keepTrial_89, s_X0_keepTrial_91, s_X0_keepTrial_92, s_X0_keepTrial_93, s_X0_keepTrial_94, s_X0_keepTrial_95, s_X0_keepTrial_96, s_X0_keepTrial_99, s_X0_keepTrial_100, s_X0_keepTrial_103, s_X0_keepTrial_105, s_X0_keepTrial_106, s_X0_keepTrial_109, s_X0_keepTrial_111, s_X0_keepTrial_112, s_X0_keepTrial_113, s_X0_keepTrial_114, s_X0_keepTrial_115, s_X0_keepTrial_118, s_X0_keepTrial_121, s_X0_keepTrial_122, s_X0_keepTrial_125, s_X0_keepTrial_127, s_X0_keepTrial_128, s_X0_keepTrial_129, s_X0_keepTrial_130, s_X0_keepTrial_131, s_X0_keepTrial_134, s_X0_keepTrial_135, s_X0_keepTrial_136, s_X0_keepTrial_139, s_X0_keepTrial_140, s_X0_keepTrial_143, s_X0_keepTrial_146, s_X0_keepTrial_149, s_X0_keepTrial_150, s_X0_keepTrial_151, s_X0_keepTrial_154, s_X0_keepTrial_155, s_X0_keepTrial_156, s_X0_keepTrial_159, if_true, if_false, and_true, true_and, and_false, false_and, true_or, or_true, or_false, false_or, eq_self, not_true_eq_false, not_false_eq_true, zv_int, zv_ref, zv_null, zv_none, hK_sI, hF_sI, hJ_sI, hN_sI, hZ_sI, hI_sI_same, hK_sJ, hF_sJ, hI_sJ, hN_sJ, hZ_sJ, hJ_sJ_same, hK_sF, hI_sF, hJ_sF, hN_sF, hZ_sF, Option.bind_some, Option.toList_some, Option.toList_none, List.cons_append, List.nil_append, zq_ref, zq_null, L.k8, L.p8_0, L.k9, f88, a4, a8, oP, oL, o1]
  | true =>
    have a4 : ¬ ask &&& 4 = 0 := fun q => by have := ha4.mp q; cases this
    simp (decide := true) only [if_true, if_false, w1, w4] at oL o
    cases pd with
    | false =>
      have a8 := ha8.mpr rfl
      have o1 : ¬ odL (hI h (b + 10)) n 4 1 = -1 := fun q => o ⟨q, fun q => by cases q⟩
      simp (decide := true) only [e_X0_keepTrial, s_X0_keepTrial_0, s_X0_keepTrial_1, s_X0_keepTrial_4, s_X0_keepTrial_5, s_X0_keepTrial_6, s_X0_keepTrial_9, s_X0_keepTrial_10, s_X0_keepTrial_13, s_X0_keepTrial_14, s_X0_keepTrial_15, s_X0_keepTrial_16, s_X0_keepTrial_19, s_X0_keepTrial_21, s_X0_keepTrial_22, s_X0_keepTrial_25, s_X0_keepTrial_26, s_X0_keepTrial_29, s_X0_keepTrial_32, s_X0_keepTrial_35, s_X0_keepTrial_36, s_X0_keepTrial_39, s_X0_keepTrial_40, s_X0_keepTrial_41, s_X0_keepTrial_42, s_X0_keepTrial_45, s_X0_keepTrial_46, s_X0_keepTrial_49, s_X0_keepTrial_50, s_X0_keepTrial_51, s_X0_keepTrial_54, s_X0_keepTrial_55, s_X0_keepTrial_58, s_X0_keepTrial_59, s_X0_keepTrial_62, s_X0_keepTrial_65, s_X0_keepTrial_66, s_X0_keepTrial_67, s_X0_keepTrial_70, s_X0_keepTrial_73, s_X0_keepTrial_74, s_X0_keepTrial_75, s_X0_keepTrial_78, s_X0_keepTrial_82, s_X0_keepTrial_85, s_X0_keepTrial_86, s_X0_keepTrial_89, s_X0_keepTrial_91, s_X0_keepTrial_92, s_X0_keepTrial_93, s_X0_keepTrial_94, s_X0_keepTrial_95, s_X0_keepTrial_96, s_X0_keepTrial_99, s_X0_keepTrial_100, s_X0_keepTrial_103, s_X0_keepTrial_105, s_X0_keepTrial_106, s_X0_keepTrial_109, s_X0_keepTrial_111, s_X0_keepTrial_112, s_X0_keepTrial_113, s_X0_keepTrial_114, s_X0_keepTrial_115, s_X0_keepTrial_118, s_X0_keepTrial_121, s_X0_keepTrial_122, s_X0_keepTrial_125, s_X0_keepTrial_127, s_X0_keepTrial_128, s_X0_keepTrial_129, s_X0_keepTrial_130, s_X0_keepTrial_131, s_X0_keepTrial_134, s_X0_keepTrial_135, s_X0_keepTrial_136, s_X0_keepTrial_139, s_X0_keepTrial_140, s_X0_keepTrial_143, s_X0_keepTrial_146, s_X0_keepTrial_149, s_X0_keepTrial_150, s_X0_keepTrial_151, s_X0_keepTrial_154, s_X0_keepTrial_155, s_X0_keepTrial_156, s_X0_keepTrial_159, if_true, if_false, and_true, true_and, and_false, false_and, true_or, or_true, or_false, false_or, eq_self, not_true_eq_false, not_false_eq_true, zv_int, zv_ref, zv_null, zv_none, hK_sI, hF_sI, hJ_sI, hN_sI, hZ_sI, hI_sI_same, hK_sJ, hF_sJ, hI_sJ, hN_sJ, hZ_sJ, hJ_sJ_same, hK_sF, hI_sF, hJ_sF, hN_sF, hZ_sF, Option.bind_some, Option.toList_some, Option.toList_none, List.cons_append, List.nil_append, zq_ref, zq_null, L.k8, L.p8_0, L.k9, f88, a4, a8, oL, o1]
    | true =>
      have a8 : ¬ ask &&& 8 = 0 := fun q => by have := ha8.mp q; cases this
      cases c : prB (hI h (b + 10)) (n * n) with
      | false =>
        rw [c] at oP
        simp (decide := true) only [e_X0_keepTrial, s_X0_keepTrial_0, s_X0_keepTrial_1, s_X0_keepTrial_4, s_X0_keepTrial_5, s_X0_keepTrial_6, s_X0_keepTrial_9, s_X0_keepTrial_10, s_X0_keepTrial_13, s_X0_keepTrial_14, s_X0_keepTrial_15, s_X0_keepTrial_16, s_X0_keepTrial_19, s_X0_keepTrial_21, s_X0_keepTrial_22, s_X0_keepTrial_25, s_X0_keepTrial_26, s_X0_keepTrial_29, s_X0_keepTrial_32, s_X0_keepTrial_35, s_X0_keepTrial_36, s_X0_keepTrial_39, s_X0_keepTrial_40, s_X0_keepTrial_41, s_X0_keepTrial_42, s_X0_keepTrial_45, s_X0_keepTrial_46, s_X0_keepTrial_49, s_X0_keepTrial_50, s_X0_keepTrial_51, s_X0_keepTrial_54, s_X0_keepTrial_55, s_X0_keepTrial_58, s_X0_keepTrial_59, s_X0_keepTrial_62, s_X0_keepTrial_65, s_X0_keepTrial_66, s_X0_keepTrial_67, s_X0_keepTrial_70, s_X0_keepTrial_73, s_X0_keepTrial_74, s_X0_keepTrial_75, s_X0_keepTrial_78, s_X0_keepTrial_82, s_X0_keepTrial_85, s_X0_keepTrial_86, s_X0_keepTrial_89, s_X0_keepTrial_91, s_X0_keepTrial_92, s_X0_keepTrial_93, s_X0_keepTrial_94, s_X0_keepTrial_95, s_X0_keepTrial_96, s_X0_keepTrial_99, s_X0_keepTrial_100, s_X0_keepTrial_103, s_X0_keepTrial_105, s_X0_keepTrial_106, s_X0_keepTrial_109, s_X0_keepTrial_111, s_X0_keepTrial_112, s_X0_keepTrial_113, s_X0_keepTrial_114, s_X0_keepTrial_115, s_X0_keepTrial_118, s_X0_keepTrial_121, s_X0_keepTrial_122, s_X0_keepTrial_125, s_X0_keepTrial_127, s_X0_keepTrial_128, s_X0_keepTrial_129, s_X0_keepTrial_130, s_X0_keepTrial_131, s_X0_keepTrial_134, s_X0_keepTrial_135, s_X0_keepTrial_136, s_X0_keepTrial_139, s_X0_keepTrial_140, s_X0_keepTrial_143, s_X0_keepTrial_146, s_X0_keepTrial_149, s_X0_keepTrial_150, s_X0_keepTrial_151, s_X0_keepTrial_154, s_X0_keepTrial_155, s_X0_keepTrial_156, s_X0_keepTrial_159, if_true, if_false, and_true, true_and, and_false, false_and, true_or, or_true, or_false, false_or, eq_self, not_true_eq_false, not_false_eq_true, zv_int, zv_ref, zv_null, zv_none, hK_sI, hF_sI, hJ_sI, hN_sI, hZ_sI, hI_sI_same, hK_sJ, hF_sJ, hI_sJ, hN_sJ, hZ_sJ, hJ_sJ_same, hK_sF, hI_sF, hJ_sF, hN_sF, hZ_sF, Option.bind_some, Option.toList_some, Option.toList_none, List.cons_append, List.nil_append, zq_ref, zq_null, L.k8, L.p8_0, L.k9, f88, a4, a8, oP]
      | true =>
        rw [c] at oP
        have o1 : ¬ odL (hI h (b + 10)) n 4 1 = -1 := fun q => o ⟨q, fun _ => c⟩
        simp (decide := true) only [e_X0_keepTrial, s_X0_keepTrial_0, s_X0_keepTrial_1, s_X0_keepTrial_4, s_X0_keepTrial_5, s_X0_keepTrial_6, s_X0_keepTrial_9, s_X0_keepTrial_10, s_X0_keepTrial_13, s_X0_keepTrial_14, s_X0_keepTrial_15, s_X0_keepTrial_16, s_X0_keepTrial_19, s_X0_keepTrial_21, s_X0_keepTrial_22, s_X0_keepTrial_25, s_X0_keepTrial_26, s_X0_keepTrial_29, s_X0_keepTrial_32, s_X0_keepTrial_35, s_X0_keepTrial_36, s_X0_keepTrial_39, s_X0_keepTrial_40, s_X0_keepTrial_41, s_X0_keepTrial_42, s_X0_keepTrial_45, s_X0_keepTrial_46, s_X0_keepTrial_49, s_X0_keepTrial_50, s_X0_keepTrial_51, s_X0_keepTrial_54, s_X0_keepTrial_55, s_X0_keepTrial_58, s_X0_keepTrial_59, s_X0_keepTrial_62, s_X0_keepTrial_65, s_X0_keepTrial_66, s_X0_keepTrial_67, s_X0_keepTrial_70, s_X0_keepTrial_73, s_X0_keepTrial_74, s_X0_keepTrial_75, s_X0_keepTrial_78, s_X0_keepTrial_82, s_X0_keepTrial_85, s_X0_keepTrial_86, s_X0_keepTrial_89, s_X0_keepTrial_91, s_X0_keepTrial_92, s_X0_keepTrial_93, s_X0_keepTrial_94, s_X0_keepTrial_95, s_X0_keepTrial_96, s_X0_keepTrial_99, s_X0_keepTrial_100, s_X0_keepTrial_103, s_X0_keepTrial_105, s_X0_keepTrial_106, s_X0_keepTrial_109, s_X0_keepTrial_111, s_X0_keepTrial_112, s_X0_keepTrial_113, s_X0_keepTrial_114, s_X0_keepTrial_115, s_X0_keepTrial_118, s_X0_keepTrial_121, s_X0_keepTrial_122, s_X0_keepTrial_125, s_X0_keepTrial_127, s_X0_keepTrial_128, s_X0_keepTrial_129, s_X0_keepTrial_130, s_X0_keepTrial_131, s_X0_keepTrial_134, s_X0_keepTrial_135, s_X0_keepTrial_136, s_X0_keepTrial_139, s_X0_keepTrial_140, s_X0_keepTrial_143, s_X0_keepTrial_146, s_X0_keepTrial_149, s_X0_keepTrial_150, s_X0_keepTrial_151, s_X0_keepTrial_154, s_X0_keepTrial_155, s_X0_keepTrial_156, s_X0_keepTrial_159, if_true, if_false, and_true, true_and, and_false, false_and, true_or, or_true, or_false, false_or, eq_self, not_true_eq_false, not_false_eq_true, zv_int, zv_ref, zv_null, zv_none, hK_sI, hF_sI, hJ_sI, hN_sI, hZ_sI, hI_sI_same, hK_sJ, hF_sJ, hI_sJ, hN_sJ, hZ_sJ, hJ_sJ_same, hK_sF, hI_sF, hJ_sF, hN_sF, hZ_sF, Option.bind_some, Option.toList_some, Option.toList_none, List.cons_append, List.nil_append, zq_ref, zq_null, L.k8, L.p8_0, L.k9, f88, a4, a8, oP, oL, o1]
end
