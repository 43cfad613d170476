/-! ===== take ===== -/
section
variable {E : mE} {d : Nat} {h h1 h2 : mH} {b : Nat}
theorem enc_dec (κ : Nat) : enc κ ^^^ (-9223372036854775808) = Int64.ofNat κ := by
  unfold enc
  rw [Int64.xor_assoc, Int64.xor_self, Int64.xor_zero]
theorem and15 (X : Nat) : (Int64.ofNat X &&& 15).toInt32 + 1 = nI (X % 16 + 1) := by
  have e : Int64.ofNat X &&& 15 = Int64.ofNat (X % 16) := by
    apply Int64.toBitVec_inj.mp
    show BitVec.ofNat 64 X &&& BitVec.ofNat 64 15 = BitVec.ofNat 64 (X % 16)
    apply BitVec.eq_of_toNat_eq
    rw [BitVec.toNat_and, BitVec.toNat_ofNat, BitVec.toNat_ofNat, BitVec.toNat_ofNat]
    have e1 : (15 : Nat) % 2 ^ 64 = 2 ^ 4 - 1 := by decide
    rw [e1, Nat.and_two_pow_sub_one_eq_mod]
    omega
  rw [e]
  have : ∀ y, y < 16 → (Int64.ofNat y).toInt32 + 1 = nI (y + 1) := by decide +kernel
  exact this _ (Nat.mod_lt _ (by decide))
theorem ushr4 {X : Nat} (hX : X < 2 ^ 64) : ((Int64.ofNat X).toUInt64 >>> ((4 : Int32).toInt64.toUInt64 &&& Int64.toUInt64 63)).toInt64 = Int64.ofNat (X / 16) := by
  apply Int64.toBitVec_inj.mp
  show BitVec.ofNat 64 X >>> (4 : Nat) = BitVec.ofNat 64 (X / 16)
  apply BitVec.eq_of_toNat_eq
  rw [BitVec.toNat_ushiftRight, BitVec.toNat_ofNat, BitVec.toNat_ofNat, Nat.mod_eq_of_lt hX, Nat.mod_eq_of_lt (by omega), Nat.shiftRight_eq_div_pow]
/-- the row of a key, from place m on -/
def upr (κ N : Nat) (z : Nat → Int32) (m : Nat) : Nat → Int32 := fun j => if m ≤ j ∧ j < N then nI (kdg κ N j + 1) else z j
theorem upr_s (κ N : Nat) (z : Nat → Int32) {m : Nat} (hm : m < N) : upd (upr κ N z (m + 1)) m (nI (kdg κ N m + 1)) = upr κ N z m := by
  funext j
  unfold upd upr
  by_cases c : j = m
  · rw [if_pos c, if_pos (by omega), c]
  · rw [if_neg c]
    exact if_cg (by omega)
theorem lp_unpack {κ N : Nat} {v0 v1 : Option Value} {z : Nat → Int32} (L : Lay b h) (hN : N ≤ 16) (hκ : κ < 2 ^ 64) : ∀ m, m ≤ N → zl E d kX0_unpack 27 [v0, v1, some (.ref (b + 3)), some (.long (Int64.ofNat (κ / 16 ^ (N - m)))), none, some (.int (nI m - 1))] [] (sI h (b + 4) (upr κ N z m)) = some (none, sI h (b + 4) (upr κ N z 0))
  | 0, _ => by
    rw [s_X0_unpack_27]
    simp (decide := true) only [s_X0_unpack_0, s_X0_unpack_1, s_X0_unpack_2, s_X0_unpack_5, s_X0_unpack_8, s_X0_unpack_9, s_X0_unpack_12, s_X0_unpack_13, s_X0_unpack_14, s_X0_unpack_17, s_X0_unpack_18, s_X0_unpack_19, s_X0_unpack_20, s_X0_unpack_23, s_X0_unpack_24, s_X0_unpack_25, s_X0_unpack_29, s_X0_unpack_32, s_X0_unpack_33, s_X0_unpack_36, s_X0_unpack_38, s_X0_unpack_39, s_X0_unpack_42, s_X0_unpack_43, s_X0_unpack_44, s_X0_unpack_45, s_X0_unpack_46, s_X0_unpack_47, s_X0_unpack_48, s_X0_unpack_49, s_X0_unpack_50, s_X0_unpack_51, s_X0_unpack_54, s_X0_unpack_57, if_true, if_false, and_true, true_and, and_false, false_and, true_or, or_true, or_false, false_or, eq_self, not_true_eq_false, not_false_eq_true, zv_int, zv_ref, zv_null, zv_none, hK_sI, hF_sI, hJ_sI, hN_sI, hZ_sI, hI_sI_same, hK_sJ, hF_sJ, hI_sJ, hN_sJ, hZ_sJ, hJ_sJ_same, hK_sF, hI_sF, hJ_sF, hN_sF, hZ_sF, Option.bind_some, Option.toList_some, Option.toList_none, List.cons_append, List.nil_append, zq_ref, zq_null, nI_0]
  | m + 1, hm => by
    have s1 : nI (m + 1) - 1 = nI m := by rw [show (1 : Int32) = nI 1 from rfl, pk_sub (by omega)]; congr 1
    have q1 : ¬ nI m < 0 := nI_nlt (a := m) (b := 0) (by omega) (by omega)
    have z0 : zR (nI m) 144 := zR_to (by decide) (by omega)
    have z1 : (nI m).toNatClampNeg = m := nI_clamp (by omega)
    have hX : κ / 16 ^ (N - (m + 1)) < 2 ^ 64 := Nat.lt_of_le_of_lt (Nat.div_le_self _ _) hκ
    have e1 : κ / 16 ^ (N - (m + 1)) % 16 = kdg κ N m := by
      unfold kdg
      rw [show N - (m + 1) = N - 1 - m by omega]
    have e2 : κ / 16 ^ (N - (m + 1)) / 16 = κ / 16 ^ (N - m) := by
      rw [Nat.div_div_eq_div_mul, ← Nat.pow_succ]
      congr 2
      omega
    have inc : nI m + -1 = nI m - 1 := by rw [Int32.sub_eq_add_neg]
    rw [s_X0_unpack_27]
    simp (decide := true) only [s_X0_unpack_0, s_X0_unpack_1, s_X0_unpack_2, s_X0_unpack_5, s_X0_unpack_8, s_X0_unpack_9, s_X0_unpack_12, s_X0_unpack_13, s_X0_unpack_14, s_X0_unpack_17, s_X0_unpack_18, s_X0_unpack_19, s_X0_unpack_20, s_X0_unpack_23, s_X0_unpack_24, s_X0_unpack_25, s_X0_unpack_29, s_X0_unpack_32, s_X0_unpack_33, s_X0_unpack_36, s_X0_unpack_38, s_X0_unpack_39, s_X0_unpack_42, s_X0_unpack_43, s_X0_unpack_44, s_X0_unpack_45, s_X0_unpack_46, s_X0_unpack_47, s_X0_unpack_48, s_X0_unpack_49, s_X0_unpack_50, s_X0_unpack_51, s_X0_unpack_54, s_X0_unpack_57, if_true, if_false, and_true, true_and, and_false, false_and, true_or, or_true, or_false, false_or, eq_self, not_true_eq_false, not_false_eq_true, zv_int, zv_ref, zv_null, zv_none, hK_sI, hF_sI, hJ_sI, hN_sI, hZ_sI, hI_sI_same, hK_sJ, hF_sJ, hI_sJ, hN_sJ, hZ_sJ, hJ_sJ_same, hK_sF, hI_sF, hJ_sF, hN_sF, hZ_sF, Option.bind_some, Option.toList_some, Option.toList_none, List.cons_append, List.nil_append, zq_ref, zq_null, L.k3, L.p3_0, L.k4, s1, q1, z0, z1, and15, e1, ushr4 hX, e2, sI_sI, upr_s κ N z (show m < N by omega), inc]
    exact lp_unpack L hN hκ m (by omega)
theorem c_X0_unpack {Z n j : Nat} {K : List Nat} (L : Lay b h) (hn : 1 ≤ n ∧ n ≤ 4) (F : FK b Z n K h) (x5 : hF h (b + 8) 5 = .int (nI n)) (x6 : hF h (b + 8) 6 = .int (nI (n * n))) (hj : j < K.length) (hκ : K.getD j 0 < 2 ^ 64) : cal E (d + 3) kX0_unpack [.ref (b + 8), .int (nI j), .ref (b + 3)] h = some (none, drf b h n (upr (K.getD j 0) (n * n) (zr (hI h (b + 4))) 0)) := by
  have nn : n * n ≤ 16 := Nat.mul_le_mul hn.2 hn.2
  have n0 : 1 ≤ n * n := Nat.mul_pos hn.1 hn.1
  obtain ⟨g, ka, g8, f2, k1, hka, kN, eN, eZ, len, dat, f3, f4⟩ := F
  have p8 := pow8 g8
  have eC := c_X2_clear (E := E) (d := d) (n := nI n) L.k3 L.k4 L.p3_0
  obtain ⟨h0, eh0⟩ : ∃ h0, h0 = sI (sF h (b + 3) 1 (.int (nI n))) (b + 4) (zr (hI h (b + 4))) := ⟨_, rfl⟩
  change cal _ _ _ _ _ = some (none, sI (sF h (b + 3) 1 (.int (nI n))) (b + 4) (zr (hI h (b + 4)))) at eC
  rw [← eh0] at eC
  have L0 : Lay b h0 := by rw [eh0]; exact (L.sF 3 1 _ (by decide +kernel)).sI _ _
  have fo : ∀ j, hF h0 (b + 8) j = hF h (b + 8) j := fun j => by rw [eh0, hF_sI, hF_sF, if_neg (by omega)]
  have k0 : hK h0 = hK h := by rw [eh0]; rfl
  have j0 : hJ h0 = hJ h := by rw [eh0]; rfl
  have g2 : hF h0 (b + 8) 2 = .ref ka := by rw [fo]; exact f2
  have g6 : hF h0 (b + 8) 6 = .int (nI (n * n)) := by rw [fo]; exact x6
  have kk : hK h0 ka = (2, 32 * 2 ^ g) := by rw [k0]; exact k1
  have z0 : zR (nI j) (32 * 2 ^ g) := zR_to (by omega) (by omega)
  have z1 : (nI j).toNatClampNeg = j := nI_clamp (by omega)
  have dj : hJ h0 ka j = enc (K.getD j 0) := by rw [j0]; exact dat j hj
  have lp := lp_unpack (E := E) (d := d + 2) (κ := K.getD j 0) (N := n * n) (v0 := some (.ref (b + 8))) (v1 := some (.int (nI j))) (z := hI h0 (b + 4)) L0 nn hκ (n * n) (Nat.le_refl _)
  have u0 : upr (K.getD j 0) (n * n) (hI h0 (b + 4)) (n * n) = hI h0 (b + 4) := by
    funext x
    unfold upr
    rw [if_neg (by omega)]
  rw [u0, sI_self, Nat.sub_self, Nat.pow_zero, Nat.div_one] at lp
  have r4 : hI h0 (b + 4) = zr (hI h (b + 4)) := by rw [eh0, hI_sI_same]
  have fin : sI h0 (b + 4) (upr (K.getD j 0) (n * n) (hI h0 (b + 4)) 0) = drf b h n (upr (K.getD j 0) (n * n) (zr (hI h (b + 4))) 0) := by
    rw [r4, eh0, sI_sI]
    rfl
  rw [fin] at lp
  simp (decide := true) only [e_X0_unpack, s_X0_unpack_0, s_X0_unpack_1, s_X0_unpack_2, s_X0_unpack_5, s_X0_unpack_8, s_X0_unpack_9, s_X0_unpack_12, s_X0_unpack_13, s_X0_unpack_14, s_X0_unpack_17, s_X0_unpack_18, s_X0_unpack_19, s_X0_unpack_20, s_X0_unpack_23, s_X0_unpack_24, s_X0_unpack_25, s_X0_unpack_29, s_X0_unpack_32, s_X0_unpack_33, s_X0_unpack_36, s_X0_unpack_38, s_X0_unpack_39, s_X0_unpack_42, s_X0_unpack_43, s_X0_unpack_44, s_X0_unpack_45, s_X0_unpack_46, s_X0_unpack_47, s_X0_unpack_48, s_X0_unpack_49, s_X0_unpack_50, s_X0_unpack_51, s_X0_unpack_54, s_X0_unpack_57, if_true, if_false, and_true, true_and, and_false, false_and, true_or, or_true, or_false, false_or, eq_self, not_true_eq_false, not_false_eq_true, zv_int, zv_ref, zv_null, zv_none, hK_sI, hF_sI, hJ_sI, hN_sI, hZ_sI, hI_sI_same, hK_sJ, hF_sJ, hI_sJ, hN_sJ, hZ_sJ, hJ_sJ_same, hK_sF, hI_sF, hJ_sF, hN_sF, hZ_sF, Option.bind_some, Option.toList_some, Option.toList_none, List.cons_append, List.nil_append, zq_ref, zq_null, L.k8, L.k3, x5, eC, L0.k8, g2, kk, z0, z1, dj, enc_dec, g6]
  exact lp
theorem lp_mtake {n j : Nat} {z : Nat → Int64} (L : Lay b h) (hn : 1 ≤ n ∧ n ≤ 4) (hj : j < 7200) (hs : hF h (b + 70) 8 = .int (nI n)) : ∀ k p, p + k = n * n → zl E d kX4_take 39 [some (.ref (b + 70)), some (.int (nI j)), some (.int (nI p))] [] (sJ h (b + 78) (rl (fun p => (hI h (b + 81) (16 * j + p)).toInt64) z p)) = zl E d kX4_take 76 [some (.ref (b + 70)), some (.int (nI j)), some (.int (nI (n * n)))] [] (sJ h (b + 78) (rl (fun p => (hI h (b + 81) (16 * j + p)).toInt64) z (n * n)))
  | 0, p, e => by
    have : p = n * n := by omega
    subst this
    rw [s_X4_take_39]
    simp (decide := true) only [s_X4_take_0, s_X4_take_1, s_X4_take_4, s_X4_take_7, s_X4_take_9, s_X4_take_10, s_X4_take_11, s_X4_take_12, s_X4_take_13, s_X4_take_14, s_X4_take_17, s_X4_take_18, s_X4_take_19, s_X4_take_20, s_X4_take_23, s_X4_take_26, s_X4_take_28, s_X4_take_29, s_X4_take_30, s_X4_take_31, s_X4_take_34, s_X4_take_37, s_X4_take_38, s_X4_take_40, s_X4_take_41, s_X4_take_44, s_X4_take_45, s_X4_take_48, s_X4_take_49, s_X4_take_52, s_X4_take_53, s_X4_take_56, s_X4_take_57, s_X4_take_58, s_X4_take_61, s_X4_take_63, s_X4_take_64, s_X4_take_65, s_X4_take_66, s_X4_take_67, s_X4_take_68, s_X4_take_69, s_X4_take_70, s_X4_take_73, s_X4_take_77, s_X4_take_80, if_true, if_false, and_true, true_and, and_false, false_and, true_or, or_true, or_false, false_or, eq_self, not_true_eq_false, not_false_eq_true, zv_int, zv_ref, zv_null, zv_none, hK_sI, hF_sI, hJ_sI, hN_sI, hZ_sI, hI_sI_same, hK_sJ, hF_sJ, hI_sJ, hN_sJ, hZ_sJ, hJ_sJ_same, hK_sF, hI_sF, hJ_sF, hN_sF, hZ_sF, Option.bind_some, Option.toList_some, Option.toList_none, List.cons_append, List.nil_append, zq_ref, zq_null, L.k70, hs, pk_mul, Int32.le_refl]
  | k + 1, p, e => by
    have nn : n * n ≤ 16 := Nat.mul_le_mul hn.2 hn.2
    have q1 : ¬ nI (n * n) ≤ nI p := nI_ge (by omega) (by omega)
    have z0 : zR (nI p) 144 := zR_to (by decide) (by omega)
    have z1 : (nI p).toNatClampNeg = p := nI_clamp (by omega)
    have z2 : zR (nI (16 * j + p)) 115200 := zR_to (by decide) (by omega)
    have z3 : (nI (16 * j + p)).toNatClampNeg = 16 * j + p := nI_clamp (by omega)
    rw [s_X4_take_39]
    simp (decide := true) only [s_X4_take_0, s_X4_take_1, s_X4_take_4, s_X4_take_7, s_X4_take_9, s_X4_take_10, s_X4_take_11, s_X4_take_12, s_X4_take_13, s_X4_take_14, s_X4_take_17, s_X4_take_18, s_X4_take_19, s_X4_take_20, s_X4_take_23, s_X4_take_26, s_X4_take_28, s_X4_take_29, s_X4_take_30, s_X4_take_31, s_X4_take_34, s_X4_take_37, s_X4_take_38, s_X4_take_40, s_X4_take_41, s_X4_take_44, s_X4_take_45, s_X4_take_48, s_X4_take_49, s_X4_take_52, s_X4_take_53, s_X4_take_56, s_X4_take_57, s_X4_take_58, s_X4_take_61, s_X4_take_63, s_X4_take_64, s_X4_take_65, s_X4_take_66, s_X4_take_67, s_X4_take_68, s_X4_take_69, s_X4_take_70, s_X4_take_73, s_X4_take_77, s_X4_take_80, if_true, if_false, and_true, true_and, and_false, false_and, true_or, or_true, or_false, false_or, eq_self, not_true_eq_false, not_false_eq_true, zv_int, zv_ref, zv_null, zv_none, hK_sI, hF_sI, hJ_sI, hN_sI, hZ_sI, hI_sI_same, hK_sJ, hF_sJ, hI_sJ, hN_sJ, hZ_sJ, hJ_sJ_same, hK_sF, hI_sF, hJ_sF, hN_sF, hZ_sF, Option.bind_some, Option.toList_some, Option.toList_none, List.cons_append, List.nil_append, zq_ref, zq_null, L.k70, L.p70_9, L.p70_16, L.k78, L.k81, hs, pk_mul, q1, z0, z1, e16, nI_add, z2, z3, sJ_sJ, rl_s (fun p => (hI h (b + 81) (16 * j + p)).toInt64), nI_1]
    exact lp_mtake L hn hj hs k (p + 1) (by omega)
theorem inI7 {N : Nat} (hN : N ≤ 10000) (x : Int32) : cal E (d + 1) kX4_in [.long x.toInt64, .long 0, .long (nI N - 1).toInt64] h = some (some (.int (if x < 0 ∨ nI N ≤ x then 0 else 1)), h) := by
  rw [c_X4_in]
  have e0 : (0 : Int64) = (0 : Int32).toInt64 := rfl
  have z1 : (1 : Int32).toInt = 1 := rfl
  have em : (nI N).toInt = N := nIt (by omega)
  have es : (nI N - 1).toInt = N - 1 := by rw [su32 (by omega), em, z1]
  have j1 : ((0 : Int64) ≤ x.toInt64) ↔ ¬ x < 0 := by rw [e0, i64_le, n32_lt]
  have j2 : (x.toInt64 ≤ (nI N - 1).toInt64) ↔ ¬ nI N ≤ x := by rw [i64_le, n32_le, Int32.le_iff_toInt_le, Int32.lt_iff_toInt_lt, es, em]; omega
  by_cases c1 : x < 0 <;> by_cases c2 : nI N ≤ x <;> simp [j1, j2, c1, c2]
theorem op_take {Z : Nat} {o : Nat → Nat} {z : Nat → Option Nat} {x : Int32} (R : Rel b o z h) (F : FI b Z h) : Good E (d + 9) b kX3_take kX4_take [.int x] h := by
  have L := R.1
  obtain ⟨_, _, fd⟩ := F
  rcases fd with ⟨x3, x12⟩ | ⟨n, K, hn, FKK, sK, kv, l72, x5, x6, x12, x15, rows⟩
  · have eF := c_X0_isFresh (E := E) (d := d + 7) L.k8 x3
    refine good0 R ⟨.int (-103), h, ?_, ?_⟩
    · simp (decide := true) only [e_X3_take, s_X3_take_0, s_X3_take_1, s_X3_take_4, s_X3_take_7, s_X3_take_10, s_X3_take_12, s_X3_take_13, s_X3_take_14, s_X3_take_17, s_X3_take_18, s_X3_take_19, s_X3_take_22, s_X3_take_25, s_X3_take_28, s_X3_take_30, s_X3_take_31, s_X3_take_32, s_X3_take_35, s_X3_take_36, s_X3_take_37, s_X3_take_40, s_X3_take_43, s_X3_take_44, s_X3_take_47, if_true, if_false, and_true, true_and, and_false, false_and, true_or, or_true, or_false, false_or, eq_self, not_true_eq_false, not_false_eq_true, zv_int, zv_ref, zv_null, zv_none, hK_sI, hF_sI, hJ_sI, hN_sI, hZ_sI, hI_sI_same, hK_sJ, hF_sJ, hI_sJ, hN_sJ, hZ_sJ, hJ_sJ_same, hK_sF, hI_sF, hJ_sF, hN_sF, hZ_sF, Option.bind_some, Option.toList_some, Option.toList_none, List.cons_append, List.nil_append, zq_ref, zq_null, L.k0, L.p0_5, L.k8, eF]
    · simp (decide := true) only [e_X4_take, s_X4_take_0, s_X4_take_1, s_X4_take_4, s_X4_take_7, s_X4_take_9, s_X4_take_10, s_X4_take_11, s_X4_take_12, s_X4_take_13, s_X4_take_14, s_X4_take_17, s_X4_take_18, s_X4_take_19, s_X4_take_20, s_X4_take_23, s_X4_take_26, s_X4_take_28, s_X4_take_29, s_X4_take_30, s_X4_take_31, s_X4_take_34, s_X4_take_37, s_X4_take_38, s_X4_take_40, s_X4_take_41, s_X4_take_44, s_X4_take_45, s_X4_take_48, s_X4_take_49, s_X4_take_52, s_X4_take_53, s_X4_take_56, s_X4_take_57, s_X4_take_58, s_X4_take_61, s_X4_take_63, s_X4_take_64, s_X4_take_65, s_X4_take_66, s_X4_take_67, s_X4_take_68, s_X4_take_69, s_X4_take_70, s_X4_take_73, s_X4_take_76, s_X4_take_77, s_X4_take_80, if_true, if_false, and_true, true_and, and_false, false_and, true_or, or_true, or_false, false_or, eq_self, not_true_eq_false, not_false_eq_true, zv_int, zv_ref, zv_null, zv_none, hK_sI, hF_sI, hJ_sI, hN_sI, hZ_sI, hI_sI_same, hK_sJ, hF_sJ, hI_sJ, hN_sJ, hZ_sJ, hJ_sJ_same, hK_sF, hI_sF, hJ_sF, hN_sF, hZ_sF, Option.bind_some, Option.toList_some, Option.toList_none, List.cons_append, List.nil_append, zq_ref, zq_null, L.k70, x12]
  · have nn : n * n ≤ 16 := Nat.mul_le_mul hn.2 hn.2
    have f3 : hF h (b + 8) 3 = .int (nI K.length) := by
      obtain ⟨_, _, _, _, _, _, _, _, _, _, _, f3, _⟩ := FKK
      exact f3
    have p0 : (0 : Int32) ≤ nI K.length := nI_pos' (by omega)
    have eF := c_X0_isFresh (E := E) (d := d + 7) L.k8 f3
    rw [if_pos p0] at eF
    have eI := fun h => inI7 (E := E) (d := d + 7) (h := h) (N := K.length) (by omega) x
    rcases rng (N := K.length) (by omega) x with c | ⟨j, hj, ex⟩
    · simp only [c, if_true] at eI
      refine good0 R ⟨.int (-101), h, ?_, ?_⟩
      · by_cases c0 : x < 0
        · simp (decide := true) only [e_X3_take, s_X3_take_0, s_X3_take_1, s_X3_take_4, s_X3_take_7, s_X3_take_10, s_X3_take_12, s_X3_take_13, s_X3_take_14, s_X3_take_17, s_X3_take_18, s_X3_take_19, s_X3_take_22, s_X3_take_25, s_X3_take_28, s_X3_take_30, s_X3_take_31, s_X3_take_32, s_X3_take_35, s_X3_take_36, s_X3_take_37, s_X3_take_40, s_X3_take_43, s_X3_take_44, s_X3_take_47, if_true, if_false, and_true, true_and, and_false, false_and, true_or, or_true, or_false, false_or, eq_self, not_true_eq_false, not_false_eq_true, zv_int, zv_ref, zv_null, zv_none, hK_sI, hF_sI, hJ_sI, hN_sI, hZ_sI, hI_sI_same, hK_sJ, hF_sJ, hI_sJ, hN_sJ, hZ_sJ, hJ_sJ_same, hK_sF, hI_sF, hJ_sF, hN_sF, hZ_sF, Option.bind_some, Option.toList_some, Option.toList_none, List.cons_append, List.nil_append, zq_ref, zq_null, L.k0, L.p0_5, L.k8, eF, c0]
        · have c1 : ¬ x < nI K.length := n32_lt.mpr (c.elim (fun q => absurd q c0) id)
          simp (decide := true) only [e_X3_take, s_X3_take_0, s_X3_take_1, s_X3_take_4, s_X3_take_7, s_X3_take_10, s_X3_take_12, s_X3_take_13, s_X3_take_14, s_X3_take_17, s_X3_take_18, s_X3_take_19, s_X3_take_22, s_X3_take_25, s_X3_take_28, s_X3_take_30, s_X3_take_31, s_X3_take_32, s_X3_take_35, s_X3_take_36, s_X3_take_37, s_X3_take_40, s_X3_take_43, s_X3_take_44, s_X3_take_47, if_true, if_false, and_true, true_and, and_false, false_and, true_or, or_true, or_false, false_or, eq_self, not_true_eq_false, not_false_eq_true, zv_int, zv_ref, zv_null, zv_none, hK_sI, hF_sI, hJ_sI, hN_sI, hZ_sI, hI_sI_same, hK_sJ, hF_sJ, hI_sJ, hN_sJ, hZ_sJ, hJ_sJ_same, hK_sF, hI_sF, hJ_sF, hN_sF, hZ_sF, Option.bind_some, Option.toList_some, Option.toList_none, List.cons_append, List.nil_append, zq_ref, zq_null, L.k0, L.p0_5, L.k8, eF, f3, c0, c1]
      · simp (decide := true) only [e_X4_take, s_X4_take_0, s_X4_take_1, s_X4_take_4, s_X4_take_7, s_X4_take_9, s_X4_take_10, s_X4_take_11, s_X4_take_12, s_X4_take_13, s_X4_take_14, s_X4_take_17, s_X4_take_18, s_X4_take_19, s_X4_take_20, s_X4_take_23, s_X4_take_26, s_X4_take_28, s_X4_take_29, s_X4_take_30, s_X4_take_31, s_X4_take_34, s_X4_take_37, s_X4_take_38, s_X4_take_40, s_X4_take_41, s_X4_take_44, s_X4_take_45, s_X4_take_48, s_X4_take_49, s_X4_take_52, s_X4_take_53, s_X4_take_56, s_X4_take_57, s_X4_take_58, s_X4_take_61, s_X4_take_63, s_X4_take_64, s_X4_take_65, s_X4_take_66, s_X4_take_67, s_X4_take_68, s_X4_take_69, s_X4_take_70, s_X4_take_73, s_X4_take_76, s_X4_take_77, s_X4_take_80, if_true, if_false, and_true, true_and, and_false, false_and, true_or, or_true, or_false, false_or, eq_self, not_true_eq_false, not_false_eq_true, zv_int, zv_ref, zv_null, zv_none, hK_sI, hF_sI, hJ_sI, hN_sI, hZ_sI, hI_sI_same, hK_sJ, hF_sJ, hI_sJ, hN_sJ, hZ_sJ, hJ_sJ_same, hK_sF, hI_sF, hJ_sF, hN_sF, hZ_sF, Option.bind_some, Option.toList_some, Option.toList_none, List.cons_append, List.nil_append, zq_ref, zq_null, L.k70, x12, p0, eI]
    · have c0 : ¬ x < 0 := by rw [ex]; exact nI_nlt (a := j) (b := 0) (by omega) (by omega)
      have c1 : x < nI K.length := by rw [ex]; exact nI_lt hj (by omega)
      have c : ¬ (x < 0 ∨ nI K.length ≤ x) := fun q => q.elim c0 (fun q => n32_lt.mpr q c1)
      simp only [c, if_false] at eI
      have hκ : K.getD j 0 < 2 ^ 64 := by
        obtain ⟨f, fv, ek⟩ := kv _ (getD_mem hj)
        rw [← ek]
        exact Nat.lt_of_lt_of_le (kyr_lt (fun p hp => by have := fv p hp; omega)) (pow16 hn.2)
      have eU := c_X0_unpack (E := E) (d := d + 5) L hn FKK x5 x6 hj hκ
      obtain ⟨LA, r, k1, eK, L1, hI1, hF1, KK⟩ := mk_end (upr (K.getD j 0) (n * n) (zr (hI h (b + 4))) 0) R (show n ≤ 12 by omega)
      have L1' : Lay b (sF k1 (b + 70) 8 (.int (nI n))) := L1.sF 70 8 _ (by decide +kernel)
      have hs : hF (sF k1 (b + 70) 8 (.int (nI n))) (b + 70) 8 = .int (nI n) := by rw [hF_sF, if_pos ⟨rfl, rfl⟩]
      have eL := lp_mtake (E := E) (d := d + 8) (j := j) L1' hn (by omega) hs (z := hJ k1 (b + 78)) (n * n) 0 (by omega)
      have e00 : sJ (sF k1 (b + 70) 8 (.int (nI n))) (b + 78) (hJ k1 (b + 78)) = sF k1 (b + 70) 8 (.int (nI n)) := sJ_self (sF k1 (b + 70) 8 (.int (nI n))) (b + 78)
      rw [rl_0, e00, nI_0, hI_sF] at eL
      obtain ⟨k2, o', eM, RM, fM⟩ := KK (rl (fun p => (hI k1 (b + 81) (16 * j + p)).toInt64) (hJ k1 (b + 78)) (n * n)) (fun p hp => by
        rw [rl_in hp, hI1 (b + 81) (by omega), rows j hj p hp]
        unfold upr
        rw [if_pos (by omega)])
      have L2 : Lay b (nxt b k1 n (rl (fun p => (hI k1 (b + 81) (16 * j + p)).toInt64) (hJ k1 (b + 78)) (n * n))) := L1'.sJ _ _
      change _ = zl _ _ _ _ _ _ (nxt b k1 _ _) at eL
      have y12 : hF k1 (b + 70) 12 = .int (nI K.length) := by rw [hF1]; exact x12
      have y15 : hF k1 (b + 70) 15 = .int (nI n) := by rw [hF1]; exact x15
      rw [← ex] at eU eL
      refine ⟨k2, o', z, ⟨.int r, k1, ?_, ?_⟩, RM, fM⟩
      · simp (decide := true) only [e_X3_take, s_X3_take_0, s_X3_take_1, s_X3_take_4, s_X3_take_7, s_X3_take_10, s_X3_take_12, s_X3_take_13, s_X3_take_14, s_X3_take_17, s_X3_take_18, s_X3_take_19, s_X3_take_22, s_X3_take_25, s_X3_take_28, s_X3_take_30, s_X3_take_31, s_X3_take_32, s_X3_take_35, s_X3_take_36, s_X3_take_37, s_X3_take_40, s_X3_take_43, s_X3_take_44, s_X3_take_47, if_true, if_false, and_true, true_and, and_false, false_and, true_or, or_true, or_false, false_or, eq_self, not_true_eq_false, not_false_eq_true, zv_int, zv_ref, zv_null, zv_none, hK_sI, hF_sI, hJ_sI, hN_sI, hZ_sI, hI_sI_same, hK_sJ, hF_sJ, hI_sJ, hN_sJ, hZ_sJ, hJ_sJ_same, hK_sF, hI_sF, hJ_sF, hN_sF, hZ_sF, Option.bind_some, Option.toList_some, Option.toList_none, List.cons_append, List.nil_append, zq_ref, zq_null, L.k0, L.p0_2, L.p0_5, L.k8, eF, f3, c0, c1, eU, LA.k0, eK E (d + 6)]
      · simp (decide := true) only [e_X4_take, s_X4_take_0, s_X4_take_1, s_X4_take_4, s_X4_take_7, s_X4_take_9, s_X4_take_10, s_X4_take_11, s_X4_take_12, s_X4_take_13, s_X4_take_14, s_X4_take_17, s_X4_take_18, s_X4_take_19, s_X4_take_20, s_X4_take_23, s_X4_take_26, s_X4_take_28, s_X4_take_29, s_X4_take_30, s_X4_take_31, s_X4_take_34, s_X4_take_37, s_X4_take_38, s_X4_take_40, s_X4_take_41, s_X4_take_44, s_X4_take_45, s_X4_take_48, s_X4_take_49, s_X4_take_52, s_X4_take_53, s_X4_take_56, s_X4_take_57, s_X4_take_58, s_X4_take_61, s_X4_take_63, s_X4_take_64, s_X4_take_65, s_X4_take_66, s_X4_take_67, s_X4_take_68, s_X4_take_69, s_X4_take_70, s_X4_take_73, s_X4_take_77, s_X4_take_80, if_true, if_false, and_true, true_and, and_false, false_and, true_or, or_true, or_false, false_or, eq_self, not_true_eq_false, not_false_eq_true, zv_int, zv_ref, zv_null, zv_none, hK_sI, hF_sI, hJ_sI, hN_sI, hZ_sI, hI_sI_same, hK_sJ, hF_sJ, hI_sJ, hN_sJ, hZ_sJ, hJ_sJ_same, hK_sF, hI_sF, hJ_sF, hN_sF, hZ_sF, Option.bind_some, Option.toList_some, Option.toList_none, List.cons_append, List.nil_append, zq_ref, zq_null, L1.k70, y12, y15, p0, eI, c_X4_lay L1]
        rw [eL]
        simp only [s_X4_take_0, s_X4_take_1, s_X4_take_4, s_X4_take_7, s_X4_take_9, s_X4_take_10, s_X4_take_11, s_X4_take_12, s_X4_take_13, s_X4_take_14, s_X4_take_17, s_X4_take_18, s_X4_take_19, s_X4_take_20, s_X4_take_23, s_X4_take_26, s_X4_take_28, s_X4_take_29, s_X4_take_30, s_X4_take_31, s_X4_take_34, s_X4_take_37, s_X4_take_38, s_X4_take_40, s_X4_take_41, s_X4_take_44, s_X4_take_45, s_X4_take_48, s_X4_take_49, s_X4_take_52, s_X4_take_53, s_X4_take_56, s_X4_take_57, s_X4_take_58, s_X4_take_61, s_X4_take_63, s_X4_take_64, s_X4_take_65, s_X4_take_66, s_X4_take_67, s_X4_take_68, s_X4_take_69, s_X4_take_70, s_X4_take_73, s_X4_take_76, s_X4_take_77, s_X4_take_80, if_true, if_false, and_true, true_and, and_false, false_and, true_or, or_true, or_false, false_or, eq_self, not_true_eq_false, not_false_eq_true, zv_int, zv_ref, zv_null, zv_none, hK_sI, hF_sI, hJ_sI, hN_sI, hZ_sI, hI_sI_same, hK_sJ, hF_sJ, hI_sJ, hN_sJ, hZ_sJ, hJ_sJ_same, hK_sF, hI_sF, hJ_sF, hN_sF, hZ_sF, Option.bind_some, Option.toList_some, Option.toList_none, List.cons_append, List.nil_append, zq_ref, zq_null, L2.k70, eM E (d + 6)]
end
