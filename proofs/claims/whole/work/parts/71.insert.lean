/-! ===== a key comes into its place ===== -/
section
variable {E : mE} {d : Nat} {h h1 h2 : mH} {b : Nat}
def ins_ (K : List Nat) (i κ : Nat) : List Nat := K.take i ++ κ :: K.drop i
theorem ins_len {K : List Nat} {i κ : Nat} (hi : i ≤ K.length) : (ins_ K i κ).length = K.length + 1 := by
  unfold ins_
  rw [List.length_append, List.length_cons, List.length_take, List.length_drop]
  omega
theorem ins_mem {K : List Nat} {i κ x : Nat} : x ∈ ins_ K i κ ↔ x = κ ∨ x ∈ K := by
  unfold ins_
  rw [List.mem_append, List.mem_cons]
  have e : x ∈ K ↔ x ∈ K.take i ∨ x ∈ K.drop i := by
    rw [← List.mem_append, List.take_append_drop]
  rw [e]
  constructor
  · rintro (q | q | q)
    · exact Or.inr (Or.inl q)
    · exact Or.inl q
    · exact Or.inr (Or.inr q)
  · rintro (q | q | q)
    · exact Or.inr (Or.inl q)
    · exact Or.inl q
    · exact Or.inr (Or.inr q)
theorem ins_cnt {K : List Nat} {i κ : Nat} (p : Nat → Bool) : (ins_ K i κ).countP p = K.countP p + if p κ = true then 1 else 0 := by
  unfold ins_
  rw [List.countP_append, List.countP_cons]
  have e : K.countP p = (K.take i).countP p + (K.drop i).countP p := by
    rw [← List.countP_append, List.take_append_drop]
  rw [e]
  omega
theorem ins_getD {K : List Nat} {i κ j : Nat} (hi : i ≤ K.length) : (ins_ K i κ).getD j 0 = if j < i then K.getD j 0 else if j = i then κ else K.getD (j - 1) 0 := by
  unfold ins_
  have hl : (K.take i).length = i := by rw [List.length_take]; omega
  rw [List.getD_eq_getElem?_getD, List.getElem?_append, hl]
  by_cases c : j < i
  · rw [if_pos c, if_pos c, List.getElem?_take_of_lt c, List.getD_eq_getElem?_getD]
  · rw [if_neg c, if_neg c]
    by_cases c2 : j = i
    · rw [if_pos c2, c2, Nat.sub_self]
      rfl
    · rw [if_neg c2]
      obtain ⟨m, hm⟩ : ∃ m, j - i = m + 1 := ⟨j - i - 1, by omega⟩
      rw [hm, List.getElem?_cons_succ, List.getElem?_drop, List.getD_eq_getElem?_getD]
      congr 2
      omega
theorem sor_iff {l : List Nat} : sor l ↔ ∀ i j, i < j → j < l.length → l.getD i 0 < l.getD j 0 := by
  unfold sor
  rw [List.pairwise_iff_getElem]
  constructor
  · intro q i j hij hj
    have := q i j (by omega) hj hij
    rw [List.getD_eq_getElem?_getD, List.getD_eq_getElem?_getD, List.getElem?_eq_getElem hj, List.getElem?_eq_getElem (show i < l.length by omega)]
    exact this
  · intro q i j hi hj hij
    have := q i j hij hj
    rw [List.getD_eq_getElem?_getD, List.getD_eq_getElem?_getD, List.getElem?_eq_getElem hj, List.getElem?_eq_getElem hi] at this
    exact this
theorem getD_mem {l : List Nat} {j : Nat} (hj : j < l.length) : l.getD j 0 ∈ l := by
  rw [List.getD_eq_getElem?_getD, List.getElem?_eq_getElem hj]
  exact List.getElem_mem hj
theorem ins_sor {K : List Nat} {i κ : Nat} (hi : i ≤ K.length) (s : sor K) (lo : ∀ j, j < i → K.getD j 0 < κ) (up : ∀ j, i ≤ j → j < K.length → κ < K.getD j 0) : sor (ins_ K i κ) := by
  rw [sor_iff] at s ⊢
  intro x y hxy hy
  rw [ins_len hi] at hy
  rw [ins_getD hi, ins_getD hi]
  by_cases c1 : y < i
  · rw [if_pos c1, if_pos (by omega)]
    exact s x y hxy (by omega)
  · rw [if_neg c1]
    by_cases c2 : y = i
    · rw [if_pos c2, if_pos (by omega)]
      exact lo x (by omega)
    · rw [if_neg c2]
      by_cases c3 : x < i
      · rw [if_pos c3]
        exact s x (y - 1) (by omega) (by omega)
      · rw [if_neg c3]
        by_cases c4 : x = i
        · rw [if_pos c4]
          exact up (y - 1) (by omega) (by omega)
        · rw [if_neg c4]
          exact s (x - 1) (y - 1) (by omega) (by omega)
/-- the row of keys while those above the new one go one up -/
def shf (g : Nat → Int64) (i len : Nat) : Nat → Int64 := fun j => if i < j ∧ j ≤ len then g (j - 1) else g j
theorem shf_0 (g : Nat → Int64) (len : Nat) : shf g len len = g := by
  funext j
  unfold shf
  rw [if_neg (by omega)]
theorem shf_s (g : Nat → Int64) {i len : Nat} (hi : i < len) : vp_updL (shf g (i + 1) len) (i + 1) (shf g (i + 1) len i) = shf g i len := by
  funext j
  unfold vp_updL shf
  by_cases c : j = i + 1
  · subst c
    rw [if_pos rfl, if_neg (by omega), if_pos (by omega)]
    rfl
  · rw [if_neg c]
    exact if_cgl (by omega)
/-- where the way down ends -/
def stpI (g : Nat → Int64) (key : Int64) : Nat → Nat
  | 0 => 0
  | i + 1 => if key < g i then stpI g key i else i + 1
theorem stpI_le (g : Nat → Int64) (key : Int64) : ∀ i, stpI g key i ≤ i
  | 0 => Nat.le_refl _
  | i + 1 => by
    unfold stpI
    have := stpI_le g key i
    split <;> omega
theorem stpI_up (g : Nat → Int64) (key : Int64) : ∀ i j, stpI g key i ≤ j → j < i → key < g j
  | 0, j, _, h => absurd h (by omega)
  | i + 1, j, h1, h2 => by
    unfold stpI at h1
    by_cases c : key < g i
    · rw [if_pos c] at h1
      by_cases c2 : j = i
      · rw [c2]; exact c
      · exact stpI_up g key i j h1 (by omega)
    · rw [if_neg c] at h1
      omega
theorem stpI_lo (g : Nat → Int64) (key : Int64) : ∀ i, stpI g key i = 0 ∨ ¬ key < g (stpI g key i - 1)
  | 0 => Or.inl rfl
  | i + 1 => by
    unfold stpI
    by_cases c : key < g i
    · rw [if_pos c]
      exact stpI_lo g key i
    · rw [if_neg c]
      exact Or.inr c
theorem lp_ins {v1 v2 : Option Value} {key : Int64} {g : Nat → Int64} {ka N len : Nat} (L : Lay b h) (f2 : hF h (b + 8) 2 = .ref ka) (k1 : hK h ka = (2, N)) (hN_ : len < N) (hN2 : N ≤ 8192) : ∀ i, i ≤ len → zl E d kX0_keepTrial 80 [some (.ref (b + 8)), v1, v2, some (.long key), none, some (.int (nI i))] [] (sJ h ka (shf g i len)) = zl E d kX0_keepTrial 121 [some (.ref (b + 8)), v1, v2, some (.long key), none, some (.int (nI (stpI g key i)))] [] (sJ h ka (shf g (stpI g key i) len))
  | 0, _ => by
    rw [s_X0_keepTrial_80]
    simp (decide := true) only [s_X0_keepTrial_0, s_X0_keepTrial_1, s_X0_keepTrial_4, s_X0_keepTrial_5, s_X0_keepTrial_6, s_X0_keepTrial_9, s_X0_keepTrial_10, s_X0_keepTrial_13, s_X0_keepTrial_14, s_X0_keepTrial_15, s_X0_keepTrial_16, s_X0_keepTrial_19, s_X0_keepTrial_21, s_X0_keepTrial_22, s_X0_keepTrial_25, s_X0_keepTrial_26, s_X0_keepTrial_29, s_X0_keepTrial_32, s_X0_keepTrial_35, s_X0_keepTrial_36, s_X0_keepTrial_39, s_X0_keepTrial_40, s_X0_keepTrial_41, s_X0_keepTrial_42, s_X0_keepTrial_45, s_X0_keepTrial_46, s_X0_keepTrial_49, s_X0_keepTrial_50, s_X0_keepTrial_51, s_X0_keepTrial_54, s_X0_keepTrial_55, s_X0_keepTrial_58, s_X0_keepTrial_59, s_X0_keepTrial_62, s_X0_keepTrial_65, s_X0_keepTrial_66, s_X0_keepTrial_67, s_X0_keepTrial_70, s_X0_keepTrial_73, s_X0_keepTrial_74, s_X0_keepTrial_75, s_X0_keepTrial_78, s_X0_keepTrial_82, s_X0_keepTrial_85, s_X0_keepTrial_86, s_X0_keepTrial_89, s_X0_keepTrial_91, s_X0_keepTrial_92, s_X0_keepTrial_93, s_X0_keepTrial_94, s_X0_keepTrial_95, s_X0_keepTrial_96, s_X0_keepTrial_99, s_X0_keepTrial_100, s_X0_keepTrial_103, s_X0_keepTrial_105, s_X0_keepTrial_106, s_X0_keepTrial_109, s_X0_keepTrial_111, s_X0_keepTrial_112, s_X0_keepTrial_113, s_X0_keepTrial_114, s_X0_keepTrial_115, s_X0_keepTrial_118, s_X0_keepTrial_122, s_X0_keepTrial_125, s_X0_keepTrial_127, s_X0_keepTrial_128, s_X0_keepTrial_129, s_X0_keepTrial_130, s_X0_keepTrial_131, s_X0_keepTrial_134, s_X0_keepTrial_135, s_X0_keepTrial_136, s_X0_keepTrial_139, s_X0_keepTrial_140, s_X0_keepTrial_143, s_X0_keepTrial_146, s_X0_keepTrial_149, s_X0_keepTrial_150, s_X0_keepTrial_151, s_X0_keepTrial_154, s_X0_keepTrial_155, s_X0_keepTrial_156, s_X0_keepTrial_159, if_true, if_false, and_true, true_and, and_false, false_and, true_or, or_true, or_false, false_or, eq_self, not_true_eq_false, not_false_eq_true, zv_int, zv_ref, zv_null, zv_none, hK_sI, hF_sI, hJ_sI, hN_sI, hZ_sI, hI_sI_same, hK_sJ, hF_sJ, hI_sJ, hN_sJ, hZ_sJ, hJ_sJ_same, hK_sF, hI_sF, hJ_sF, hN_sF, hZ_sF, Option.bind_some, Option.toList_some, Option.toList_none, List.cons_append, List.nil_append, zq_ref, zq_null, nI_0, stpI]
  | i + 1, hi => by
    have q1 : ¬ nI (i + 1) ≤ 0 := nI_nle (by omega) (by omega)
    have s1 : nI (i + 1) - 1 = nI i := by rw [show (1 : Int32) = nI 1 from rfl, pk_sub (by omega)]; congr 1
    have z0 : zR (nI i) N := zR_to (by omega) (by omega)
    have z1 : (nI i).toNatClampNeg = i := nI_clamp (by omega)
    have z2 : zR (nI (i + 1)) N := zR_to (by omega) (by omega)
    have z3 : (nI (i + 1)).toNatClampNeg = i + 1 := nI_clamp (by omega)
    have e0 : shf g (i + 1) len i = g i := by unfold shf; rw [if_neg (by omega)]
    have inc : nI (i + 1) + -1 = nI i := by rw [← Int32.sub_eq_add_neg]; exact s1
    rw [s_X0_keepTrial_80]
    unfold stpI
    by_cases c : key < g i
    · have c1 : ¬ lg_cmp (g i) key ≤ 0 := fun q => lg_le.mp q c
      have c2 : 0 < lg_cmp (g i) key := by rw [lg_cmp_gt]; exact c
      have es := shf_s g (show i < len by omega)
      rw [e0] at es
      simp (decide := true) only [s_X0_keepTrial_0, s_X0_keepTrial_1, s_X0_keepTrial_4, s_X0_keepTrial_5, s_X0_keepTrial_6, s_X0_keepTrial_9, s_X0_keepTrial_10, s_X0_keepTrial_13, s_X0_keepTrial_14, s_X0_keepTrial_15, s_X0_keepTrial_16, s_X0_keepTrial_19, s_X0_keepTrial_21, s_X0_keepTrial_22, s_X0_keepTrial_25, s_X0_keepTrial_26, s_X0_keepTrial_29, s_X0_keepTrial_32, s_X0_keepTrial_35, s_X0_keepTrial_36, s_X0_keepTrial_39, s_X0_keepTrial_40, s_X0_keepTrial_41, s_X0_keepTrial_42, s_X0_keepTrial_45, s_X0_keepTrial_46, s_X0_keepTrial_49, s_X0_keepTrial_50, s_X0_keepTrial_51, s_X0_keepTrial_54, s_X0_keepTrial_55, s_X0_keepTrial_58, s_X0_keepTrial_59, s_X0_keepTrial_62, s_X0_keepTrial_65, s_X0_keepTrial_66, s_X0_keepTrial_67, s_X0_keepTrial_70, s_X0_keepTrial_73, s_X0_keepTrial_74, s_X0_keepTrial_75, s_X0_keepTrial_78, s_X0_keepTrial_82, s_X0_keepTrial_85, s_X0_keepTrial_86, s_X0_keepTrial_89, s_X0_keepTrial_91, s_X0_keepTrial_92, s_X0_keepTrial_93, s_X0_keepTrial_94, s_X0_keepTrial_95, s_X0_keepTrial_96, s_X0_keepTrial_99, s_X0_keepTrial_100, s_X0_keepTrial_103, s_X0_keepTrial_105, s_X0_keepTrial_106, s_X0_keepTrial_109, s_X0_keepTrial_111, s_X0_keepTrial_112, s_X0_keepTrial_113, s_X0_keepTrial_114, s_X0_keepTrial_115, s_X0_keepTrial_118, s_X0_keepTrial_122, s_X0_keepTrial_125, s_X0_keepTrial_127, s_X0_keepTrial_128, s_X0_keepTrial_129, s_X0_keepTrial_130, s_X0_keepTrial_131, s_X0_keepTrial_134, s_X0_keepTrial_135, s_X0_keepTrial_136, s_X0_keepTrial_139, s_X0_keepTrial_140, s_X0_keepTrial_143, s_X0_keepTrial_146, s_X0_keepTrial_149, s_X0_keepTrial_150, s_X0_keepTrial_151, s_X0_keepTrial_154, s_X0_keepTrial_155, s_X0_keepTrial_156, s_X0_keepTrial_159, if_true, if_false, and_true, true_and, and_false, false_and, true_or, or_true, or_false, false_or, eq_self, not_true_eq_false, not_false_eq_true, zv_int, zv_ref, zv_null, zv_none, hK_sI, hF_sI, hJ_sI, hN_sI, hZ_sI, hI_sI_same, hK_sJ, hF_sJ, hI_sJ, hN_sJ, hZ_sJ, hJ_sJ_same, hK_sF, hI_sF, hJ_sF, hN_sF, hZ_sF, Option.bind_some, Option.toList_some, Option.toList_none, List.cons_append, List.nil_append, zq_ref, zq_null, L.k8, f2, k1, q1, s1, z0, z1, z2, z3, e0, c, c1, c2, sJ_sJ, es, inc]
      exact lp_ins L f2 k1 hN_ hN2 i (by omega)
    · have c1 : lg_cmp (g i) key ≤ 0 := lg_le.mpr c
      simp (decide := true) only [s_X0_keepTrial_0, s_X0_keepTrial_1, s_X0_keepTrial_4, s_X0_keepTrial_5, s_X0_keepTrial_6, s_X0_keepTrial_9, s_X0_keepTrial_10, s_X0_keepTrial_13, s_X0_keepTrial_14, s_X0_keepTrial_15, s_X0_keepTrial_16, s_X0_keepTrial_19, s_X0_keepTrial_21, s_X0_keepTrial_22, s_X0_keepTrial_25, s_X0_keepTrial_26, s_X0_keepTrial_29, s_X0_keepTrial_32, s_X0_keepTrial_35, s_X0_keepTrial_36, s_X0_keepTrial_39, s_X0_keepTrial_40, s_X0_keepTrial_41, s_X0_keepTrial_42, s_X0_keepTrial_45, s_X0_keepTrial_46, s_X0_keepTrial_49, s_X0_keepTrial_50, s_X0_keepTrial_51, s_X0_keepTrial_54, s_X0_keepTrial_55, s_X0_keepTrial_58, s_X0_keepTrial_59, s_X0_keepTrial_62, s_X0_keepTrial_65, s_X0_keepTrial_66, s_X0_keepTrial_67, s_X0_keepTrial_70, s_X0_keepTrial_73, s_X0_keepTrial_74, s_X0_keepTrial_75, s_X0_keepTrial_78, s_X0_keepTrial_82, s_X0_keepTrial_85, s_X0_keepTrial_86, s_X0_keepTrial_89, s_X0_keepTrial_91, s_X0_keepTrial_92, s_X0_keepTrial_93, s_X0_keepTrial_94, s_X0_keepTrial_95, s_X0_keepTrial_96, s_X0_keepTrial_99, s_X0_keepTrial_100, s_X0_keepTrial_103, s_X0_keepTrial_105, s_X0_keepTrial_106, s_X0_keepTrial_109, s_X0_keepTrial_111, s_X0_keepTrial_112, s_X0_keepTrial_113, s_X0_keepTrial_114, s_X0_keepTrial_115, s_X0_keepTrial_118, s_X0_keepTrial_122, s_X0_keepTrial_125, s_X0_keepTrial_127, s_X0_keepTrial_128, s_X0_keepTrial_129, s_X0_keepTrial_130, s_X0_keepTrial_131, s_X0_keepTrial_134, s_X0_keepTrial_135, s_X0_keepTrial_136, s_X0_keepTrial_139, s_X0_keepTrial_140, s_X0_keepTrial_143, s_X0_keepTrial_146, s_X0_keepTrial_149, s_X0_keepTrial_150, s_X0_keepTrial_151, s_X0_keepTrial_154, s_X0_keepTrial_155, s_X0_keepTrial_156, s_X0_keepTrial_159, if_true, if_false, and_true, true_and, and_false, false_and, true_or, or_true, or_false, false_or, eq_self, not_true_eq_false, not_false_eq_true, zv_int, zv_ref, zv_null, zv_none, hK_sI, hF_sI, hJ_sI, hN_sI, hZ_sI, hI_sI_same, hK_sJ, hF_sJ, hI_sJ, hN_sJ, hZ_sJ, hJ_sJ_same, hK_sF, hI_sF, hJ_sF, hN_sF, hZ_sF, Option.bind_some, Option.toList_some, Option.toList_none, List.cons_append, List.nil_append, zq_ref, zq_null, L.k8, f2, k1, q1, s1, z0, z1, e0, c, c1]
theorem lsT_lt {c : Nat → Nat → Int32} : ∀ (k t m : Nat), t + k = 8 → m < 8 → lsT c k t m < 8
  | 0, _, _, _, hm => hm
  | k + 1, t, m, e, hm => by
    unfold lsT
    refine lsT_lt k (t + 1) _ (by omega) ?_
    split <;> omega
theorem fm_lt (f : Nat → Int32) (n : Nat) : fm f n < 8 := lsT_lt 7 1 0 (by decide) (by decide)
theorem pow16 {n : Nat} (hn : n ≤ 4) : 16 ^ (n * n) ≤ 2 ^ 64 := by
  have h1 : 16 ^ (n * n) ≤ 16 ^ 16 := Nat.pow_le_pow_right (by decide) (Nat.mul_le_mul hn hn)
  have h2 : (16 : Nat) ^ 16 = 2 ^ 64 := by decide
  omega
theorem c_keep1 {Z n : Nat} {ask : Int32} {rd pd : Bool} {hd t : Nat → Nat} {K : List Nat} (hb : ∀ k, k < 7 → E.1 k < b) (hn : 1 ≤ n ∧ n ≤ 4) (C : FC E b n ask hd h) (F : FK b Z n K h) (ha4 : ask &&& 4 = 0 ↔ rd = false) (ha8 : ask &&& 8 = 0 ↔ pd = false) (row : ∀ p, p < n * n → hI h (b + 10) p = nI (t p)) (v : val16 t (n * n)) (h72 : K.length < 7200) (sK : sor K) (nK : kyr t (n * n) ∉ K) (vK : ∀ κ ∈ K, κ < 2 ^ 64) (o1 : odL (hI h (b + 10)) n (if rd = true then 4 else 2) 1 = -1) (o2 : pd = true → prB (hI h (b + 10)) (n * n) = true) : ∃ h', cal E (d + 4) kX0_keepTrial [.ref (b + 8)] h = some (none, h') ∧ frmK b h h' ∧ ∃ i, i ≤ K.length ∧ FK b Z n (ins_ K i (kyr t (n * n))) h' ∧ sor (ins_ K i (kyr t (n * n))) := by
  have hn12 : 1 ≤ n ∧ n ≤ 12 := ⟨hn.1, by omega⟩
  have nn : n * n ≤ 16 := Nat.mul_le_mul hn.2 hn.2
  have L := C.1
  have f91 := C.2.2.2.2.2.2.2.1
  have f88 := C.2.2.2.2.2.1
  obtain ⟨h1, eR, fr1, g, ka, F1, hlt⟩ := c_X0_hasRoom (E := E) (d := d + 1) L F (by omega)
  obtain ⟨g8, f2, k1, hka, kN, eN, eZ, len, dat, f3, f4⟩ := F1
  have p8 := pow8 g8
  have L1 := Lay_frmK L fr1
  have C1 := FC_frmK hb C fr1
  have r1 : hI h1 (b + 10) = hI h (b + 10) := fr1.1 _ (by omega)
  have ePk := c_X0_packed (E := E) (d := d + 2) L1.k9 L1.k10 L1.p9_0 C1.2.2.2.2.2.2.2.1 hn12.2
  rw [r1, pckd_enc nn v row] at ePk
  obtain ⟨κ, eκ⟩ : ∃ κ, κ = kyr t (n * n) := ⟨_, rfl⟩
  rw [← eκ] at ePk nK ⊢
  have κ64 : κ < 2 ^ 64 := by
    rw [eκ]
    exact Nat.lt_of_lt_of_le (kyr_lt v) (pow16 hn.2)
  have eI := lp_ins (E := E) (d := d + 3) (v1 := some (.int (nI (if rd = true then 4 else 2)))) (v2 := some (.int 0)) (key := enc κ) (g := hJ h1 ka) L1 f2 k1 hlt (by omega) K.length (Nat.le_refl _)
  rw [shf_0, sJ_self] at eI
  obtain ⟨i, ei⟩ : ∃ i, i = stpI (hJ h1 ka) (enc κ) K.length := ⟨_, rfl⟩
  rw [← ei] at eI
  have il : i ≤ K.length := by rw [ei]; exact stpI_le _ _ _
  have up : ∀ j, i ≤ j → j < K.length → κ < K.getD j 0 := fun j hj hl => by
    have := stpI_up (hJ h1 ka) (enc κ) K.length j (by rw [← ei]; exact hj) hl
    rw [dat j hl] at this
    exact (enc_lt κ64 (vK _ (getD_mem hl))).mp this
  have lo : ∀ j, j < i → K.getD j 0 < κ := fun j hj => by
    have h0 : i - 1 < K.length := by omega
    have hle : K.getD (i - 1) 0 < κ := by
      rcases stpI_lo (hJ h1 ka) (enc κ) K.length with q | q
      · rw [← ei] at q
        omega
      · rw [← ei, dat _ h0, enc_lt κ64 (vK _ (getD_mem h0))] at q
        have : K.getD (i - 1) 0 ≠ κ := fun e => nK (e ▸ getD_mem h0)
        omega
    by_cases c : j = i - 1
    · rw [c]; exact hle
    · have := sor_iff.mp sK j (i - 1) (by omega) h0
      omega
  have sI_ := ins_sor il sK lo up
  have z0 : zR (nI i) (32 * 2 ^ g) := zR_to (by omega) (by omega)
  have z1 : (nI i).toNatClampNeg = i := nI_clamp (by omega)
  obtain ⟨h2, eh2⟩ : ∃ h2, h2 = sJ h1 ka (vp_updL (shf (hJ h1 ka) i K.length) i (enc κ)) := ⟨_, rfl⟩
  obtain ⟨h3, eh3⟩ : ∃ h3, h3 = sF h2 (b + 8) 3 (.int (nI (K.length + 1))) := ⟨_, rfl⟩
  have fr2 : frmK b h1 h2 := by
    rw [eh2]
    refine ⟨fun _ _ => rfl, fun _ _ _ _ => rfl, fun a ha hb => ?_, fun _ _ => rfl⟩
    rw [hJ_sJ_ne _ _ (by omega)]
  have fr3 : frmK b h2 h3 := by
    rw [eh3]
    refine ⟨fun _ _ => rfl, fun a j ha hj => ?_, fun _ _ _ => rfl, fun _ _ => rfl⟩
    rw [hF_sF, if_neg]
    rintro ⟨rfl, rfl⟩
    exact hj ⟨rfl, Or.inr (Or.inl rfl)⟩
  have L2 := Lay_frmK L1 fr2
  have L3 := Lay_frmK L2 fr3
  have C3 := FC_frmK hb (FC_frmK hb C1 fr2) fr3
  have r3 : hI h3 (b + 10) = hI h (b + 10) := by rw [fr3.1 _ (by omega), fr2.1 _ (by omega), r1]
  have eT := c_X2_leastTurn (E := E) (d := d) L3.k9 L3.k10 L3.p9_0 C3.2.2.2.2.2.2.2.1 hn12.2
  rw [r3] at eT
  have efm : fm (hI h (b + 10)) n = fm (rowOf n κ) n := fm_cg hn12.2 (fun p hp => by
    rw [row p hp]
    unfold rowOf
    rw [eκ, kdg_kyr v hp]
    congr 1
    have := v p hp
    omega)
  rw [efm] at eT
  have f23 : hF h2 (b + 8) 3 = .int (nI K.length) := by rw [eh2, hF_sJ]; exact f3
  have f34 : hF h3 (b + 8) 4 = .int (nI (fcn n K)) := by rw [eh3, hF_sF, if_neg (by omega), eh2, hF_sJ]; exact f4
  have cnt1 := ins_cnt (K := K) (i := i) (κ := κ) (fun κ => decide (fm (rowOf n κ) n = 0))
  have F3 : ∀ (h4 : mH), (h4 = h3 ∨ h4 = sF h3 (b + 8) 4 (.int (nI (fcn n K + 1)))) → hF h4 (b + 8) 4 = .int (nI (fcn n (ins_ K i κ))) → FK b Z n (ins_ K i κ) h4 := by
    intro h4 eh4 e4
    have n4 : hN h4 = hN h1 ∧ hZ h4 = hZ h1 ∧ hK h4 = hK h1 ∧ hJ h4 = hJ h2 ∧ (∀ j, j ≠ 4 → hF h4 (b + 8) j = hF h3 (b + 8) j) := by
      rcases eh4 with e | e
      · rw [e, eh3, eh2]
        exact ⟨rfl, rfl, rfl, rfl, fun _ _ => rfl⟩
      · rw [e, eh3, eh2]
        refine ⟨rfl, rfl, rfl, rfl, fun j hj => ?_⟩
        rw [hF_sF, if_neg (fun q => hj q.2)]
    obtain ⟨n1, n2, n3, n5, n6⟩ := n4
    refine ⟨g, ka, g8, ?_, by rw [n3]; exact k1, hka, by rw [n1]; exact kN, by rw [n1]; exact eN, by rw [n2]; exact eZ, by rw [ins_len il]; omega, fun j hj => ?_, ?_, e4⟩
    · rw [n6 2 (by omega), eh3, hF_sF, if_neg (by omega), eh2, hF_sJ]
      exact f2
    · rw [ins_len il] at hj
      rw [n5, eh2, hJ_sJ_same, ins_getD il]
      unfold vp_updL shf
      by_cases c1 : j < i
      · rw [if_neg (by omega), if_neg (by omega), if_pos c1]
        exact dat j (by omega)
      · rw [if_neg c1]
        by_cases c2 : j = i
        · rw [if_pos c2, if_pos c2]
        · rw [if_neg c2, if_neg c2, if_pos (by omega)]
          exact dat (j - 1) (by omega)
    · rw [n6 3 (by omega), eh3, hF_sF, if_pos ⟨rfl, rfl⟩, ins_len il]
  have nl1 : nI K.length + 1 = nI (K.length + 1) := nI_1 _
  have nl2 : nI (fcn n K) + 1 = nI (fcn n K + 1) := nI_1 _
  have e21 : hF h2 (b + 8) 0 = .ref (b + 9) := L2.p8_0
  have f12 : hF (sJ h1 ka (shf (hJ h1 ka) i K.length)) (b + 8) 2 = .ref ka := by rw [hF_sJ]; exact f2
  have oL := c_X2_oddLine (E := E) (d := d) (kd := if rd = true then 4 else 2) (w := 1) L.k9 L.k10 L.p9_0 f91 hn12 (by cases rd <;> decide) (Or.inl rfl)
  rw [o1] at oL
  have oP := c_X2_isPaired (E := E) (d := d + 2) L.k9 L.k10 L.p9_0 f91 hn12
  have w1 : nI 1 = 1 := rfl
  have w2 : nI 2 = 2 := rfl
  have w4 : nI 4 = 4 := rfl
  -- the way up to the place where keys move
  have A : zl E (d + 3) kX0_keepTrial 0 [some (.ref (b + 8)), none, none, none, none, none] [] h = zl E (d + 3) kX0_keepTrial 80 [some (.ref (b + 8)), some (.int (nI (if rd = true then 4 else 2))), some (.int 0), some (.long (enc κ)), none, some (.int (nI K.length))] [] h1 := by
    cases rd with
    | false =>
      have a4 := ha4.mpr rfl
      simp (decide := true) only [if_true, if_false, w1, w2] at oL
      cases pd with
      | false =>
        have a8 := ha8.mpr rfl
        simp (decide := true) only [s_X0_keepTrial_0, s_X0_keepTrial_1, s_X0_keepTrial_4, s_X0_keepTrial_5, s_X0_keepTrial_6, s_X0_keepTrial_9, s_X0_keepTrial_10, s_X0_keepTrial_13, s_X0_keepTrial_14, s_X0_keepTrial_15, s_X0_keepTrial_16, s_X0_keepTrial_19, s_X0_keepTrial_21, s_X0_keepTrial_22, s_X0_keepTrial_25, s_X0_keepTrial_26, s_X0_keepTrial_29, s_X0_keepTrial_32, s_X0_keepTrial_35, s_X0_keepTrial_36, s_X0_keepTrial_39, s_X0_keepTrial_40, s_X0_keepTrial_41, s_X0_keepTrial_42, s_X0_keepTrial_45, s_X0_keepTrial_46, s_X0_keepTrial_49, s_X0_keepTrial_50, s_X0_keepTrial_51, s_X0_keepTrial_54, s_X0_keepTrial_55, s_X0_keepTrial_58, s_X0_keepTrial_59, s_X0_keepTrial_62, s_X0_keepTrial_65, s_X0_keepTrial_66, s_X0_keepTrial_67, s_X0_keepTrial_70, s_X0_keepTrial_73, s_X0_keepTrial_74, s_X0_keepTrial_75, s_X0_keepTrial_78, s_X0_keepTrial_82, s_X0_keepTrial_85, s_X0_keepTrial_86, s_X0_keepTrial_89, s_X0_keepTrial_91, s_X0_keepTrial_92, s_X0_keepTrial_93, s_X0_keepTrial_94, s_X0_keepTrial_95, s_X0_keepTrial_96, s_X0_keepTrial_99, s_X0_keepTrial_100, s_X0_keepTrial_103, s_X0_keepTrial_105, s_X0_keepTrial_106, s_X0_keepTrial_109, s_X0_keepTrial_111, s_X0_keepTrial_112, s_X0_keepTrial_113, s_X0_keepTrial_114, s_X0_keepTrial_115, s_X0_keepTrial_118, s_X0_keepTrial_121, s_X0_keepTrial_122, s_X0_keepTrial_125, s_X0_keepTrial_127, s_X0_keepTrial_128, s_X0_keepTrial_129, s_X0_keepTrial_130, s_X0_keepTrial_131, s_X0_keepTrial_134, s_X0_keepTrial_135, s_X0_keepTrial_136, s_X0_keepTrial_139, s_X0_keepTrial_140, s_X0_keepTrial_143, s_X0_keepTrial_146, s_X0_keepTrial_149, s_X0_keepTrial_150, s_X0_keepTrial_151, s_X0_keepTrial_154, s_X0_keepTrial_155, s_X0_keepTrial_156, s_X0_keepTrial_159, if_true, if_false, and_true, true_and, and_false, false_and, true_or, or_true, or_false, false_or, eq_self, not_true_eq_false, not_false_eq_true, zv_int, zv_ref, zv_null, zv_none, hK_sI, hF_sI, hJ_sI, hN_sI, hZ_sI, hI_sI_same, hK_sJ, hF_sJ, hI_sJ, hN_sJ, hZ_sJ, hJ_sJ_same, hK_sF, hI_sF, hJ_sF, hN_sF, hZ_sF, Option.bind_some, Option.toList_some, Option.toList_none, List.cons_append, List.nil_append, zq_ref, zq_null, L.k8, L.p8_0, L.k9, L1.k8, L1.p8_0, f88, a4, a8, oL, eR, ePk, f3, w2]
      | true =>
        have a8 : ¬ ask &&& 8 = 0 := fun q => by have := ha8.mp q; cases this
        rw [o2 rfl] at oP
        simp (decide := true) only [s_X0_keepTrial_0, s_X0_keepTrial_1, s_X0_keepTrial_4, s_X0_keepTrial_5, s_X0_keepTrial_6, s_X0_keepTrial_9, s_X0_keepTrial_10, s_X0_keepTrial_13, s_X0_keepTrial_14, s_X0_keepTrial_15, s_X0_keepTrial_16, s_X0_keepTrial_19, s_X0_keepTrial_21, s_X0_keepTrial_22, s_X0_keepTrial_25, s_X0_keepTrial_26, s_X0_keepTrial_29, s_X0_keepTrial_32, s_X0_keepTrial_35, s_X0_keepTrial_36, s_X0_keepTrial_39, s_X0_keepTrial_40, s_X0_keepTrial_41, s_X0_keepTrial_42, s_X0_keepTrial_45, s_X0_keepTrial_46, s_X0_keepTrial_49, s_X0_keepTrial_50, s_X0_keepTrial_51, s_X0_keepTrial_54, s_X0_keepTrial_55, s_X0_keepTrial_58, s_X0_keepTrial_59, s_X0_keepTrial_62, s_X0_keepTrial_65, s_X0_keepTrial_66, s_X0_keepTrial_67, s_X0_keepTrial_70, s_X0_keepTrial_73, s_X0_keepTrial_74, s_X0_keepTrial_75, s_X0_keepTrial_78, s_X0_keepTrial_82, s_X0_keepTrial_85, s_X0_keepTrial_86, s_X0_keepTrial_89, s_X0_keepTrial_91, s_X0_keepTrial_92, s_X0_keepTrial_93, s_X0_keepTrial_94, s_X0_keepTrial_95, s_X0_keepTrial_96, s_X0_keepTrial_99, s_X0_keepTrial_100, s_X0_keepTrial_103, s_X0_keepTrial_105, s_X0_keepTrial_106, s_X0_keepTrial_109, s_X0_keepTrial_111, s_X0_keepTrial_112, s_X0_keepTrial_113, s_X0_keepTrial_114, s_X0_keepTrial_115, s_X0_keepTrial_118, s_X0_keepTrial_121, s_X0_keepTrial_122, s_X0_keepTrial_125, s_X0_keepTrial_127, s_X0_keepTrial_128, s_X0_keepTrial_129, s_X0_keepTrial_130, s_X0_keepTrial_131, s_X0_keepTrial_134, s_X0_keepTrial_135, s_X0_keepTrial_136, s_X0_keepTrial_139, s_X0_keepTrial_140, s_X0_keepTrial_143, s_X0_keepTrial_146, s_X0_keepTrial_149, s_X0_keepTrial_150, s_X0_keepTrial_151, s_X0_keepTrial_154, s_X0_keepTrial_155, s_X0_keepTrial_156, s_X0_keepTrial_159, if_true, if_false, and_true, true_and, and_false, false_and, true_or, or_true, or_false, false_or, eq_self, not_true_eq_false, not_false_eq_true, zv_int, zv_ref, zv_null, zv_none, hK_sI, hF_sI, hJ_sI, hN_sI, hZ_sI, hI_sI_same, hK_sJ, hF_sJ, hI_sJ, hN_sJ, hZ_sJ, hJ_sJ_same, hK_sF, hI_sF, hJ_sF, hN_sF, hZ_sF, Option.bind_some, Option.toList_some, Option.toList_none, List.cons_append, List.nil_append, zq_ref, zq_null, L.k8, L.p8_0, L.k9, L1.k8, L1.p8_0, f88, a4, a8, oP, oL, eR, ePk, f3, w2]
    | true =>
      have a4 : ¬ ask &&& 4 = 0 := fun q => by have := ha4.mp q; cases this
      simp (decide := true) only [if_true, if_false, w1, w4] at oL
      cases pd with
      | false =>
        have a8 := ha8.mpr rfl
        simp (decide := true) only [s_X0_keepTrial_0, s_X0_keepTrial_1, s_X0_keepTrial_4, s_X0_keepTrial_5, s_X0_keepTrial_6, s_X0_keepTrial_9, s_X0_keepTrial_10, s_X0_keepTrial_13, s_X0_keepTrial_14, s_X0_keepTrial_15, s_X0_keepTrial_16, s_X0_keepTrial_19, s_X0_keepTrial_21, s_X0_keepTrial_22, s_X0_keepTrial_25, s_X0_keepTrial_26, s_X0_keepTrial_29, s_X0_keepTrial_32, s_X0_keepTrial_35, s_X0_keepTrial_36, s_X0_keepTrial_39, s_X0_keepTrial_40, s_X0_keepTrial_41, s_X0_keepTrial_42, s_X0_keepTrial_45, s_X0_keepTrial_46, s_X0_keepTrial_49, s_X0_keepTrial_50, s_X0_keepTrial_51, s_X0_keepTrial_54, s_X0_keepTrial_55, s_X0_keepTrial_58, s_X0_keepTrial_59, s_X0_keepTrial_62, s_X0_keepTrial_65, s_X0_keepTrial_66, s_X0_keepTrial_67, s_X0_keepTrial_70, s_X0_keepTrial_73, s_X0_keepTrial_74, s_X0_keepTrial_75, s_X0_keepTrial_78, s_X0_keepTrial_82, s_X0_keepTrial_85, s_X0_keepTrial_86, s_X0_keepTrial_89, s_X0_keepTrial_91, s_X0_keepTrial_92, s_X0_keepTrial_93, s_X0_keepTrial_94, s_X0_keepTrial_95, s_X0_keepTrial_96, s_X0_keepTrial_99, s_X0_keepTrial_100, s_X0_keepTrial_103, s_X0_keepTrial_105, s_X0_keepTrial_106, s_X0_keepTrial_109, s_X0_keepTrial_111, s_X0_keepTrial_112, s_X0_keepTrial_113, s_X0_keepTrial_114, s_X0_keepTrial_115, s_X0_keepTrial_118, s_X0_keepTrial_121, s_X0_keepTrial_122, s_X0_keepTrial_125, s_X0_keepTrial_127, s_X0_keepTrial_128, s_X0_keepTrial_129, s_X0_keepTrial_130, s_X0_keepTrial_131, s_X0_keepTrial_134, s_X0_keepTrial_135, s_X0_keepTrial_136, s_X0_keepTrial_139, s_X0_keepTrial_140, s_X0_keepTrial_143, s_X0_keepTrial_146, s_X0_keepTrial_149, s_X0_keepTrial_150, s_X0_keepTrial_151, s_X0_keepTrial_154, s_X0_keepTrial_155, s_X0_keepTrial_156, s_X0_keepTrial_159, if_true, if_false, and_true, true_and, and_false, false_and, true_or, or_true, or_false, false_or, eq_self, not_true_eq_false, not_false_eq_true, zv_int, zv_ref, zv_null, zv_none, hK_sI, hF_sI, hJ_sI, hN_sI, hZ_sI, hI_sI_same, hK_sJ, hF_sJ, hI_sJ, hN_sJ, hZ_sJ, hJ_sJ_same, hK_sF, hI_sF, hJ_sF, hN_sF, hZ_sF, Option.bind_some, Option.toList_some, Option.toList_none, List.cons_append, List.nil_append, zq_ref, zq_null, L.k8, L.p8_0, L.k9, L1.k8, L1.p8_0, f88, a4, a8, oL, eR, ePk, f3, w4]
      | true =>
        have a8 : ¬ ask &&& 8 = 0 := fun q => by have := ha8.mp q; cases this
        rw [o2 rfl] at oP
        simp (decide := true) only [s_X0_keepTrial_0, s_X0_keepTrial_1, s_X0_keepTrial_4, s_X0_keepTrial_5, s_X0_keepTrial_6, s_X0_keepTrial_9, s_X0_keepTrial_10, s_X0_keepTrial_13, s_X0_keepTrial_14, s_X0_keepTrial_15, s_X0_keepTrial_16, s_X0_keepTrial_19, s_X0_keepTrial_21, s_X0_keepTrial_22, s_X0_keepTrial_25, s_X0_keepTrial_26, s_X0_keepTrial_29, s_X0_keepTrial_32, s_X0_keepTrial_35, s_X0_keepTrial_36, s_X0_keepTrial_39, s_X0_keepTrial_40, s_X0_keepTrial_41, s_X0_keepTrial_42, s_X0_keepTrial_45, s_X0_keepTrial_46, s_X0_keepTrial_49, s_X0_keepTrial_50, s_X0_keepTrial_51, s_X0_keepTrial_54, s_X0_keepTrial_55, s_X0_keepTrial_58, s_X0_keepTrial_59, s_X0_keepTrial_62, s_X0_keepTrial_65, s_X0_keepTrial_66, s_X0_keepTrial_67, s_X0_keepTrial_70, s_X0_keepTrial_73, s_X0_keepTrial_74, s_X0_keepTrial_75, s_X0_keepTrial_78, s_X0_keepTrial_82, s_X0_keepTrial_85, s_X0_keepTrial_86, s_X0_keepTrial_89, s_X0_keepTrial_91, s_X0_keepTrial_92, s_X0_keepTrial_93, s_X0_keepTrial_94, s_X0_keepTrial_95, s_X0_keepTrial_96, s_X0_keepTrial_99, s_X0_keepTrial_100, s_X0_keepTrial_103, s_X0_keepTrial_105, s_X0_keepTrial_106, s_X0_keepTrial_109, s_X0_keepTrial_111, s_X0_keepTrial_112, s_X0_keepTrial_113, s_X0_keepTrial_114, s_X0_keepTrial_115, s_X0_keepTrial_118, s_X0_keepTrial_121, s_X0_keepTrial_122, s_X0_keepTrial_125, s_X0_keepTrial_127, s_X0_keepTrial_128, s_X0_keepTrial_129, s_X0_keepTrial_130, s_X0_keepTrial_131, s_X0_keepTrial_134, s_X0_keepTrial_135, s_X0_keepTrial_136, s_X0_keepTrial_139, s_X0_keepTrial_140, s_X0_keepTrial_143, s_X0_keepTrial_146, s_X0_keepTrial_149, s_X0_keepTrial_150, s_X0_keepTrial_151, s_X0_keepTrial_154, s_X0_keepTrial_155, s_X0_keepTrial_156, s_X0_keepTrial_159, if_true, if_false, and_true, true_and, and_false, false_and, true_or, or_true, or_false, false_or, eq_self, not_true_eq_false, not_false_eq_true, zv_int, zv_ref, zv_null, zv_none, hK_sI, hF_sI, hJ_sI, hN_sI, hZ_sI, hI_sI_same, hK_sJ, hF_sJ, hI_sJ, hN_sJ, hZ_sJ, hJ_sJ_same, hK_sF, hI_sF, hJ_sF, hN_sF, hZ_sF, Option.bind_some, Option.toList_some, Option.toList_none, List.cons_append, List.nil_append, zq_ref, zq_null, L.k8, L.p8_0, L.k9, L1.k8, L1.p8_0, f88, a4, a8, oP, oL, eR, ePk, f3, w4]
  by_cases cf : fm (rowOf n κ) n = 0
  · have ecf : fcn n (ins_ K i κ) = fcn n K + 1 := by
      unfold fcn
      rw [cnt1, if_pos (decide_eq_true cf)]
    have eT0 : nI (fm (rowOf n κ) n) = 0 := by rw [cf]; rfl
    rw [eT0] at eT
    refine ⟨sF h3 (b + 8) 4 (.int (nI (fcn n K + 1))), ?_, frmK_trans (frmK_trans (frmK_trans fr1 fr2) fr3) ?_, i, il, F3 _ (Or.inr rfl) (by rw [hF_sF, if_pos ⟨rfl, rfl⟩, ecf]), sI_⟩
    · rw [e_X0_keepTrial, A, eI]
      simp (decide := true) only [s_X0_keepTrial_0, s_X0_keepTrial_1, s_X0_keepTrial_4, s_X0_keepTrial_5, s_X0_keepTrial_6, s_X0_keepTrial_9, s_X0_keepTrial_10, s_X0_keepTrial_13, s_X0_keepTrial_14, s_X0_keepTrial_15, s_X0_keepTrial_16, s_X0_keepTrial_19, s_X0_keepTrial_21, s_X0_keepTrial_22, s_X0_keepTrial_25, s_X0_keepTrial_26, s_X0_keepTrial_29, s_X0_keepTrial_32, s_X0_keepTrial_35, s_X0_keepTrial_36, s_X0_keepTrial_39, s_X0_keepTrial_40, s_X0_keepTrial_41, s_X0_keepTrial_42, s_X0_keepTrial_45, s_X0_keepTrial_46, s_X0_keepTrial_49, s_X0_keepTrial_50, s_X0_keepTrial_51, s_X0_keepTrial_54, s_X0_keepTrial_55, s_X0_keepTrial_58, s_X0_keepTrial_59, s_X0_keepTrial_62, s_X0_keepTrial_65, s_X0_keepTrial_66, s_X0_keepTrial_67, s_X0_keepTrial_70, s_X0_keepTrial_73, s_X0_keepTrial_74, s_X0_keepTrial_75, s_X0_keepTrial_78, s_X0_keepTrial_82, s_X0_keepTrial_85, s_X0_keepTrial_86, s_X0_keepTrial_89, s_X0_keepTrial_91, s_X0_keepTrial_92, s_X0_keepTrial_93, s_X0_keepTrial_94, s_X0_keepTrial_95, s_X0_keepTrial_96, s_X0_keepTrial_99, s_X0_keepTrial_100, s_X0_keepTrial_103, s_X0_keepTrial_105, s_X0_keepTrial_106, s_X0_keepTrial_109, s_X0_keepTrial_111, s_X0_keepTrial_112, s_X0_keepTrial_113, s_X0_keepTrial_114, s_X0_keepTrial_115, s_X0_keepTrial_118, s_X0_keepTrial_121, s_X0_keepTrial_122, s_X0_keepTrial_125, s_X0_keepTrial_127, s_X0_keepTrial_128, s_X0_keepTrial_129, s_X0_keepTrial_130, s_X0_keepTrial_131, s_X0_keepTrial_134, s_X0_keepTrial_135, s_X0_keepTrial_136, s_X0_keepTrial_139, s_X0_keepTrial_140, s_X0_keepTrial_143, s_X0_keepTrial_146, s_X0_keepTrial_149, s_X0_keepTrial_150, s_X0_keepTrial_151, s_X0_keepTrial_154, s_X0_keepTrial_155, s_X0_keepTrial_156, s_X0_keepTrial_159, if_true, if_false, and_true, true_and, and_false, false_and, true_or, or_true, or_false, false_or, eq_self, not_true_eq_false, not_false_eq_true, zv_int, zv_ref, zv_null, zv_none, hK_sI, hF_sI, hJ_sI, hN_sI, hZ_sI, hI_sI_same, hK_sJ, hF_sJ, hI_sJ, hN_sJ, hZ_sJ, hJ_sJ_same, hK_sF, hI_sF, hJ_sF, hN_sF, hZ_sF, Option.bind_some, Option.toList_some, Option.toList_none, List.cons_append, List.nil_append, zq_ref, zq_null, L1.k8, f2, k1, z0, z1, sJ_sJ]
      rw [← eh2, f3]
      simp (decide := true) only [s_X0_keepTrial_0, s_X0_keepTrial_1, s_X0_keepTrial_4, s_X0_keepTrial_5, s_X0_keepTrial_6, s_X0_keepTrial_9, s_X0_keepTrial_10, s_X0_keepTrial_13, s_X0_keepTrial_14, s_X0_keepTrial_15, s_X0_keepTrial_16, s_X0_keepTrial_19, s_X0_keepTrial_21, s_X0_keepTrial_22, s_X0_keepTrial_25, s_X0_keepTrial_26, s_X0_keepTrial_29, s_X0_keepTrial_32, s_X0_keepTrial_35, s_X0_keepTrial_36, s_X0_keepTrial_39, s_X0_keepTrial_40, s_X0_keepTrial_41, s_X0_keepTrial_42, s_X0_keepTrial_45, s_X0_keepTrial_46, s_X0_keepTrial_49, s_X0_keepTrial_50, s_X0_keepTrial_51, s_X0_keepTrial_54, s_X0_keepTrial_55, s_X0_keepTrial_58, s_X0_keepTrial_59, s_X0_keepTrial_62, s_X0_keepTrial_65, s_X0_keepTrial_66, s_X0_keepTrial_67, s_X0_keepTrial_70, s_X0_keepTrial_73, s_X0_keepTrial_74, s_X0_keepTrial_75, s_X0_keepTrial_78, s_X0_keepTrial_82, s_X0_keepTrial_85, s_X0_keepTrial_86, s_X0_keepTrial_89, s_X0_keepTrial_91, s_X0_keepTrial_92, s_X0_keepTrial_93, s_X0_keepTrial_94, s_X0_keepTrial_95, s_X0_keepTrial_96, s_X0_keepTrial_99, s_X0_keepTrial_100, s_X0_keepTrial_103, s_X0_keepTrial_105, s_X0_keepTrial_106, s_X0_keepTrial_109, s_X0_keepTrial_111, s_X0_keepTrial_112, s_X0_keepTrial_113, s_X0_keepTrial_114, s_X0_keepTrial_115, s_X0_keepTrial_118, s_X0_keepTrial_121, s_X0_keepTrial_122, s_X0_keepTrial_125, s_X0_keepTrial_127, s_X0_keepTrial_128, s_X0_keepTrial_129, s_X0_keepTrial_130, s_X0_keepTrial_131, s_X0_keepTrial_134, s_X0_keepTrial_135, s_X0_keepTrial_136, s_X0_keepTrial_139, s_X0_keepTrial_140, s_X0_keepTrial_143, s_X0_keepTrial_146, s_X0_keepTrial_149, s_X0_keepTrial_150, s_X0_keepTrial_151, s_X0_keepTrial_154, s_X0_keepTrial_155, s_X0_keepTrial_156, s_X0_keepTrial_159, if_true, if_false, and_true, true_and, and_false, false_and, true_or, or_true, or_false, false_or, eq_self, not_true_eq_false, not_false_eq_true, zv_int, zv_ref, zv_null, zv_none, hK_sI, hF_sI, hJ_sI, hN_sI, hZ_sI, hI_sI_same, hK_sJ, hF_sJ, hI_sJ, hN_sJ, hZ_sJ, hJ_sJ_same, hK_sF, hI_sF, hJ_sF, hN_sF, hZ_sF, Option.bind_some, Option.toList_some, Option.toList_none, List.cons_append, List.nil_append, zq_ref, zq_null, L2.k8, f23, nl1, zfit]
      rw [← eh3]
      simp (decide := true) only [s_X0_keepTrial_0, s_X0_keepTrial_1, s_X0_keepTrial_4, s_X0_keepTrial_5, s_X0_keepTrial_6, s_X0_keepTrial_9, s_X0_keepTrial_10, s_X0_keepTrial_13, s_X0_keepTrial_14, s_X0_keepTrial_15, s_X0_keepTrial_16, s_X0_keepTrial_19, s_X0_keepTrial_21, s_X0_keepTrial_22, s_X0_keepTrial_25, s_X0_keepTrial_26, s_X0_keepTrial_29, s_X0_keepTrial_32, s_X0_keepTrial_35, s_X0_keepTrial_36, s_X0_keepTrial_39, s_X0_keepTrial_40, s_X0_keepTrial_41, s_X0_keepTrial_42, s_X0_keepTrial_45, s_X0_keepTrial_46, s_X0_keepTrial_49, s_X0_keepTrial_50, s_X0_keepTrial_51, s_X0_keepTrial_54, s_X0_keepTrial_55, s_X0_keepTrial_58, s_X0_keepTrial_59, s_X0_keepTrial_62, s_X0_keepTrial_65, s_X0_keepTrial_66, s_X0_keepTrial_67, s_X0_keepTrial_70, s_X0_keepTrial_73, s_X0_keepTrial_74, s_X0_keepTrial_75, s_X0_keepTrial_78, s_X0_keepTrial_82, s_X0_keepTrial_85, s_X0_keepTrial_86, s_X0_keepTrial_89, s_X0_keepTrial_91, s_X0_keepTrial_92, s_X0_keepTrial_93, s_X0_keepTrial_94, s_X0_keepTrial_95, s_X0_keepTrial_96, s_X0_keepTrial_99, s_X0_keepTrial_100, s_X0_keepTrial_103, s_X0_keepTrial_105, s_X0_keepTrial_106, s_X0_keepTrial_109, s_X0_keepTrial_111, s_X0_keepTrial_112, s_X0_keepTrial_113, s_X0_keepTrial_114, s_X0_keepTrial_115, s_X0_keepTrial_118, s_X0_keepTrial_121, s_X0_keepTrial_122, s_X0_keepTrial_125, s_X0_keepTrial_127, s_X0_keepTrial_128, s_X0_keepTrial_129, s_X0_keepTrial_130, s_X0_keepTrial_131, s_X0_keepTrial_134, s_X0_keepTrial_135, s_X0_keepTrial_136, s_X0_keepTrial_139, s_X0_keepTrial_140, s_X0_keepTrial_143, s_X0_keepTrial_146, s_X0_keepTrial_149, s_X0_keepTrial_150, s_X0_keepTrial_151, s_X0_keepTrial_154, s_X0_keepTrial_155, s_X0_keepTrial_156, s_X0_keepTrial_159, if_true, if_false, and_true, true_and, and_false, false_and, true_or, or_true, or_false, false_or, eq_self, not_true_eq_false, not_false_eq_true, zv_int, zv_ref, zv_null, zv_none, hK_sI, hF_sI, hJ_sI, hN_sI, hZ_sI, hI_sI_same, hK_sJ, hF_sJ, hI_sJ, hN_sJ, hZ_sJ, hJ_sJ_same, hK_sF, hI_sF, hJ_sF, hN_sF, hZ_sF, Option.bind_some, Option.toList_some, Option.toList_none, List.cons_append, List.nil_append, zq_ref, zq_null, L3.k8, L3.p8_0, L3.k9, eT, f34, nl2, zfit]
    · refine ⟨fun _ _ => rfl, fun a j ha hj => ?_, fun _ _ _ => rfl, fun _ _ => rfl⟩
      rw [hF_sF, if_neg]
      rintro ⟨rfl, rfl⟩
      exact hj ⟨rfl, Or.inr (Or.inr rfl)⟩
  · have ecf : fcn n (ins_ K i κ) = fcn n K := by
      unfold fcn
      rw [cnt1, if_neg (fun q => cf (of_decide_eq_true q))]
      rfl
    have eT0 : ¬ nI (fm (rowOf n κ) n) = 0 := nI_ne0 (by omega) (by have := fm_lt (rowOf n κ) n; omega)
    refine ⟨h3, ?_, frmK_trans (frmK_trans fr1 fr2) fr3, i, il, F3 _ (Or.inl rfl) (by rw [f34, ecf]), sI_⟩
    rw [e_X0_keepTrial, A, eI]
    simp (decide := true) only [s_X0_keepTrial_0, s_X0_keepTrial_1, s_X0_keepTrial_4, s_X0_keepTrial_5, s_X0_keepTrial_6, s_X0_keepTrial_9, s_X0_keepTrial_10, s_X0_keepTrial_13, s_X0_keepTrial_14, s_X0_keepTrial_15, s_X0_keepTrial_16, s_X0_keepTrial_19, s_X0_keepTrial_21, s_X0_keepTrial_22, s_X0_keepTrial_25, s_X0_keepTrial_26, s_X0_keepTrial_29, s_X0_keepTrial_32, s_X0_keepTrial_35, s_X0_keepTrial_36, s_X0_keepTrial_39, s_X0_keepTrial_40, s_X0_keepTrial_41, s_X0_keepTrial_42, s_X0_keepTrial_45, s_X0_keepTrial_46, s_X0_keepTrial_49, s_X0_keepTrial_50, s_X0_keepTrial_51, s_X0_keepTrial_54, s_X0_keepTrial_55, s_X0_keepTrial_58, s_X0_keepTrial_59, s_X0_keepTrial_62, s_X0_keepTrial_65, s_X0_keepTrial_66, s_X0_keepTrial_67, s_X0_keepTrial_70, s_X0_keepTrial_73, s_X0_keepTrial_74, s_X0_keepTrial_75, s_X0_keepTrial_78, s_X0_keepTrial_82, s_X0_keepTrial_85, s_X0_keepTrial_86, s_X0_keepTrial_89, s_X0_keepTrial_91, s_X0_keepTrial_92, s_X0_keepTrial_93, s_X0_keepTrial_94, s_X0_keepTrial_95, s_X0_keepTrial_96, s_X0_keepTrial_99, s_X0_keepTrial_100, s_X0_keepTrial_103, s_X0_keepTrial_105, s_X0_keepTrial_106, s_X0_keepTrial_109, s_X0_keepTrial_111, s_X0_keepTrial_112, s_X0_keepTrial_113, s_X0_keepTrial_114, s_X0_keepTrial_115, s_X0_keepTrial_118, s_X0_keepTrial_121, s_X0_keepTrial_122, s_X0_keepTrial_125, s_X0_keepTrial_127, s_X0_keepTrial_128, s_X0_keepTrial_129, s_X0_keepTrial_130, s_X0_keepTrial_131, s_X0_keepTrial_134, s_X0_keepTrial_135, s_X0_keepTrial_136, s_X0_keepTrial_139, s_X0_keepTrial_140, s_X0_keepTrial_143, s_X0_keepTrial_146, s_X0_keepTrial_149, s_X0_keepTrial_150, s_X0_keepTrial_151, s_X0_keepTrial_154, s_X0_keepTrial_155, s_X0_keepTrial_156, s_X0_keepTrial_159, if_true, if_false, and_true, true_and, and_false, false_and, true_or, or_true, or_false, false_or, eq_self, not_true_eq_false, not_false_eq_true, zv_int, zv_ref, zv_null, zv_none, hK_sI, hF_sI, hJ_sI, hN_sI, hZ_sI, hI_sI_same, hK_sJ, hF_sJ, hI_sJ, hN_sJ, hZ_sJ, hJ_sJ_same, hK_sF, hI_sF, hJ_sF, hN_sF, hZ_sF, Option.bind_some, Option.toList_some, Option.toList_none, List.cons_append, List.nil_append, zq_ref, zq_null, L1.k8, f2, k1, z0, z1, sJ_sJ]
    rw [← eh2, f3]
    simp (decide := true) only [s_X0_keepTrial_0, s_X0_keepTrial_1, s_X0_keepTrial_4, s_X0_keepTrial_5, s_X0_keepTrial_6, s_X0_keepTrial_9, s_X0_keepTrial_10, s_X0_keepTrial_13, s_X0_keepTrial_14, s_X0_keepTrial_15, s_X0_keepTrial_16, s_X0_keepTrial_19, s_X0_keepTrial_21, s_X0_keepTrial_22, s_X0_keepTrial_25, s_X0_keepTrial_26, s_X0_keepTrial_29, s_X0_keepTrial_32, s_X0_keepTrial_35, s_X0_keepTrial_36, s_X0_keepTrial_39, s_X0_keepTrial_40, s_X0_keepTrial_41, s_X0_keepTrial_42, s_X0_keepTrial_45, s_X0_keepTrial_46, s_X0_keepTrial_49, s_X0_keepTrial_50, s_X0_keepTrial_51, s_X0_keepTrial_54, s_X0_keepTrial_55, s_X0_keepTrial_58, s_X0_keepTrial_59, s_X0_keepTrial_62, s_X0_keepTrial_65, s_X0_keepTrial_66, s_X0_keepTrial_67, s_X0_keepTrial_70, s_X0_keepTrial_73, s_X0_keepTrial_74, s_X0_keepTrial_75, s_X0_keepTrial_78, s_X0_keepTrial_82, s_X0_keepTrial_85, s_X0_keepTrial_86, s_X0_keepTrial_89, s_X0_keepTrial_91, s_X0_keepTrial_92, s_X0_keepTrial_93, s_X0_keepTrial_94, s_X0_keepTrial_95, s_X0_keepTrial_96, s_X0_keepTrial_99, s_X0_keepTrial_100, s_X0_keepTrial_103, s_X0_keepTrial_105, s_X0_keepTrial_106, s_X0_keepTrial_109, s_X0_keepTrial_111, s_X0_keepTrial_112, s_X0_keepTrial_113, s_X0_keepTrial_114, s_X0_keepTrial_115, s_X0_keepTrial_118, s_X0_keepTrial_121, s_X0_keepTrial_122, s_X0_keepTrial_125, s_X0_keepTrial_127, s_X0_keepTrial_128, s_X0_keepTrial_129, s_X0_keepTrial_130, s_X0_keepTrial_131, s_X0_keepTrial_134, s_X0_keepTrial_135, s_X0_keepTrial_136, s_X0_keepTrial_139, s_X0_keepTrial_140, s_X0_keepTrial_143, s_X0_keepTrial_146, s_X0_keepTrial_149, s_X0_keepTrial_150, s_X0_keepTrial_151, s_X0_keepTrial_154, s_X0_keepTrial_155, s_X0_keepTrial_156, s_X0_keepTrial_159, if_true, if_false, and_true, true_and, and_false, false_and, true_or, or_true, or_false, false_or, eq_self, not_true_eq_false, not_false_eq_true, zv_int, zv_ref, zv_null, zv_none, hK_sI, hF_sI, hJ_sI, hN_sI, hZ_sI, hI_sI_same, hK_sJ, hF_sJ, hI_sJ, hN_sJ, hZ_sJ, hJ_sJ_same, hK_sF, hI_sF, hJ_sF, hN_sF, hZ_sF, Option.bind_some, Option.toList_some, Option.toList_none, List.cons_append, List.nil_append, zq_ref, zq_null, L2.k8, f23, nl1, zfit]
    rw [← eh3]
    simp (decide := true) only [s_X0_keepTrial_0, s_X0_keepTrial_1, s_X0_keepTrial_4, s_X0_keepTrial_5, s_X0_keepTrial_6, s_X0_keepTrial_9, s_X0_keepTrial_10, s_X0_keepTrial_13, s_X0_keepTrial_14, s_X0_keepTrial_15, s_X0_keepTrial_16, s_X0_keepTrial_19, s_X0_keepTrial_21, s_X0_keepTrial_22, s_X0_keepTrial_25, s_X0_keepTrial_26, s_X0_keepTrial_29, s_X0_keepTrial_32, s_X0_keepTrial_35, s_X0_keepTrial_36, s_X0_keepTrial_39, s_X0_keepTrial_40, s_X0_keepTrial_41, s_X0_keepTrial_42, s_X0_keepTrial_45, s_X0_keepTrial_46, s_X0_keepTrial_49, s_X0_keepTrial_50, s_X0_keepTrial_51, s_X0_keepTrial_54, s_X0_keepTrial_55, s_X0_keepTrial_58, s_X0_keepTrial_59, s_X0_keepTrial_62, s_X0_keepTrial_65, s_X0_keepTrial_66, s_X0_keepTrial_67, s_X0_keepTrial_70, s_X0_keepTrial_73, s_X0_keepTrial_74, s_X0_keepTrial_75, s_X0_keepTrial_78, s_X0_keepTrial_82, s_X0_keepTrial_85, s_X0_keepTrial_86, s_X0_keepTrial_89, s_X0_keepTrial_91, s_X0_keepTrial_92, s_X0_keepTrial_93, s_X0_keepTrial_94, s_X0_keepTrial_95, s_X0_keepTrial_96, s_X0_keepTrial_99, s_X0_keepTrial_100, s_X0_keepTrial_103, s_X0_keepTrial_105, s_X0_keepTrial_106, s_X0_keepTrial_109, s_X0_keepTrial_111, s_X0_keepTrial_112, s_X0_keepTrial_113, s_X0_keepTrial_114, s_X0_keepTrial_115, s_X0_keepTrial_118, s_X0_keepTrial_121, s_X0_keepTrial_122, s_X0_keepTrial_125, s_X0_keepTrial_127, s_X0_keepTrial_128, s_X0_keepTrial_129, s_X0_keepTrial_130, s_X0_keepTrial_131, s_X0_keepTrial_134, s_X0_keepTrial_135, s_X0_keepTrial_136, s_X0_keepTrial_139, s_X0_keepTrial_140, s_X0_keepTrial_143, s_X0_keepTrial_146, s_X0_keepTrial_149, s_X0_keepTrial_150, s_X0_keepTrial_151, s_X0_keepTrial_154, s_X0_keepTrial_155, s_X0_keepTrial_156, s_X0_keepTrial_159, if_true, if_false, and_true, true_and, and_false, false_and, true_or, or_true, or_false, false_or, eq_self, not_true_eq_false, not_false_eq_true, zv_int, zv_ref, zv_null, zv_none, hK_sI, hF_sI, hJ_sI, hN_sI, hZ_sI, hI_sI_same, hK_sJ, hF_sJ, hI_sJ, hN_sJ, hZ_sJ, hJ_sJ_same, hK_sF, hI_sF, hJ_sF, hN_sF, hZ_sF, Option.bind_some, Option.toList_some, Option.toList_none, List.cons_append, List.nil_append, zq_ref, zq_null, L3.k8, L3.p8_0, L3.k9, eT, eT0, zfit]
end
