/-! ===== the law ===== -/
section
variable {E : mE} {d a b n : Nat} {f : Nat → Int32} {x : Int32} {h h1 h2 : mH}
def LI (b : Nat) (h : mH) : Prop := ∃ o z, Rel b o z h ∧ FI b ZX h ∧ low b h
theorem case_i {kc km P : Nat} {as : List Value} (fine : Fine E 40 b ZX kc km as h) (F : FI b ZX h) (L : Lay b h) (ab : a < b) (lw : low b h) (tc : zrt kc = some .int ∨ zrt kc = some .boolean) (st : ∀ r h1 h2, (hK h1 a).1 = 0 → hK h1 (b + 70) = (14, 21) → cal E 40 kc (.ref b :: as) h = some (some (.int r), h1) → cal E 40 km (.ref (b + 70) :: as) h1 = some (some (.int r), h2) → zl E 40 kL_law P [some (.ref a), some (.ref b), some (.ref (b + 70)), some (.int x)] [] h = zl E 40 kL_law 1080 [some (.ref a), some (.ref b), some (.ref (b + 70)), some (.int x)] [] h2) : ∃ h2, zl E 40 kL_law P [some (.ref a), some (.ref b), some (.ref (b + 70)), some (.int x)] [] h = zl E 40 kL_law 1080 [some (.ref a), some (.ref b), some (.ref (b + 70)), some (.int x)] [] h2 ∧ LI b h2 := by
  obtain ⟨h2, o', z', ⟨r, h1, c1, c2⟩, R2, F2, l2⟩ := fine
  obtain ⟨r', er⟩ := (z_typ c1).1 tc
  obtain ⟨_, ⟨g, ka, _, _, _, _, _, eN, _⟩, _⟩ := F
  have kk := (z_kin E _ _ _ _ _ _ c1).2
  have hr : r = .int r' := Option.some.inj er
  rw [hr] at c1 c2
  refine ⟨h2, st r' h1 h2 ?_ ?_ c1 c2, o', z', R2, F2, l2⟩
  · rw [kk a (by omega)]
    exact lw a ab
  · rw [kk (b + 70) (by omega)]
    exact L.k70
theorem case_l {kc km P : Nat} {as : List Value} (fine : Fine E 40 b ZX kc km as h) (F : FI b ZX h) (L : Lay b h) (ab : a < b) (lw : low b h) (tc : zrt kc = some .long) (st : ∀ r h1 h2, (hK h1 a).1 = 0 → hK h1 (b + 70) = (14, 21) → cal E 40 kc (.ref b :: as) h = some (some (.long r), h1) → cal E 40 km (.ref (b + 70) :: as) h1 = some (some (.long r), h2) → zl E 40 kL_law P [some (.ref a), some (.ref b), some (.ref (b + 70)), some (.int x)] [] h = zl E 40 kL_law 1080 [some (.ref a), some (.ref b), some (.ref (b + 70)), some (.int x)] [] h2) : ∃ h2, zl E 40 kL_law P [some (.ref a), some (.ref b), some (.ref (b + 70)), some (.int x)] [] h = zl E 40 kL_law 1080 [some (.ref a), some (.ref b), some (.ref (b + 70)), some (.int x)] [] h2 ∧ LI b h2 := by
  obtain ⟨h2, o', z', ⟨r, h1, c1, c2⟩, R2, F2, l2⟩ := fine
  obtain ⟨r', er⟩ := (z_typ c1).2 tc
  obtain ⟨_, ⟨g, ka, _, _, _, _, _, eN, _⟩, _⟩ := F
  have kk := (z_kin E _ _ _ _ _ _ c1).2
  have hr : r = .long r' := Option.some.inj er
  rw [hr] at c1 c2
  refine ⟨h2, st r' h1 h2 ?_ ?_ c1 c2, o', z', R2, F2, l2⟩
  · rw [kk a (by omega)]
    exact lw a ab
  · rw [kk (b + 70) (by omega)]
    exact L.k70
theorem law_case {o : Nat → Nat} {z : Nat → Option Nat} (hE : zES E) (hb : ∀ k, k < 7 → E.1 k < b) (R : Rel b o z h) (F : FI b ZX h) (lw : low b h) (ab : a < b) (ef : E.2 a = some (n, f)) (q1 : zR (x + 1) n) (q2 : zR (x + 2) n) (q3 : zR (x + 3) n) (q4 : zR (x + 4) n) (q5 : zR (x + 5) n) : ∀ k, k < 30 → ∃ h2, zl E 40 kL_law 33 [some (.ref a), some (.ref b), some (.ref (b + 70)), some (.int x)] [.int (nI k)] h = zl E 40 kL_law 1080 [some (.ref a), some (.ref b), some (.ref (b + 70)), some (.int x)] [] h2 ∧ LI b h2
  | 0, _ => by
    rw [show nI 0 = (0 : Int32) from rfl, s_L_law_33_0]
    exact case_i (kc := kX3_sheet) (km := kX4_sheet) (as := [.int (f (x + 1).toNatClampNeg), .int (f (x + 2).toNatClampNeg), .int (f (x + 3).toNatClampNeg)]) (fine_of (op_sheet R) F lw) F R.1 ab lw (by first | exact Or.inl rfl | exact Or.inr rfl) (fun r h1 h2 k1 km c1 c2 => law_0 (lw a ab) k1 ef R.1.k0 km q1 q2 q3 c1 c2)
  | 1, _ => by
    rw [show nI 1 = (1 : Int32) from rfl, s_L_law_33_1]
    exact case_i (kc := kX3_put) (km := kX4_put) (as := [.int (f (x + 1).toNatClampNeg), .int (f (x + 2).toNatClampNeg), .int (f (x + 3).toNatClampNeg), .int (f (x + 4).toNatClampNeg)]) (fine_of (op_put R) F lw) F R.1 ab lw (by first | exact Or.inl rfl | exact Or.inr rfl) (fun r h1 h2 k1 km c1 c2 => law_1 (lw a ab) k1 ef R.1.k0 km q1 q2 q3 q4 c1 c2)
  | 2, _ => by
    rw [show nI 2 = (2 : Int32) from rfl, s_L_law_33_2]
    exact case_i (kc := kX3_copy) (km := kX4_copy) (as := [.int (f (x + 1).toNatClampNeg), .int (f (x + 2).toNatClampNeg), .int (f (x + 3).toNatClampNeg), .int (f (x + 4).toNatClampNeg), .int (f (x + 5).toNatClampNeg)]) (fine_of (op_copy R) F lw) F R.1 ab lw (by first | exact Or.inl rfl | exact Or.inr rfl) (fun r h1 h2 k1 km c1 c2 => law_2 (lw a ab) k1 ef R.1.k0 km q1 q2 q3 q4 q5 c1 c2)
  | 3, _ => by
    rw [show nI 3 = (3 : Int32) from rfl, s_L_law_33_3]
    exact case_i (kc := kX3_lose) (km := kX4_lose) (as := [.int (f (x + 1).toNatClampNeg)]) (fine_of (good_lose R) F lw) F R.1 ab lw (by first | exact Or.inl rfl | exact Or.inr rfl) (fun r h1 h2 k1 km c1 c2 => law_3 (lw a ab) k1 ef R.1.k0 km q1 c1 c2)
  | 4, _ => by
    rw [show nI 4 = (4 : Int32) from rfl, s_L_law_33_4]
    exact case_i (kc := kX3_square) (km := kX4_square) (as := [.int (f (x + 1).toNatClampNeg), .int (f (x + 2).toNatClampNeg), .int (f (x + 3).toNatClampNeg)]) (fine_of (op_square R) F lw) F R.1 ab lw (by first | exact Or.inl rfl | exact Or.inr rfl) (fun r h1 h2 k1 km c1 c2 => law_4 (lw a ab) k1 ef R.1.k0 km q1 q2 q3 c1 c2)
  | 5, _ => by
    rw [show nI 5 = (5 : Int32) from rfl, s_L_law_33_5]
    exact case_i (kc := kX3_order) (km := kX4_order) (as := [.int (f (x + 1).toNatClampNeg)]) (fine_of (good0 R (op_order R)) F lw) F R.1 ab lw (by first | exact Or.inl rfl | exact Or.inr rfl) (fun r h1 h2 k1 km c1 c2 => law_5 (lw a ab) k1 ef R.1.k0 km q1 c1 c2)
  | 6, _ => by
    rw [show nI 6 = (6 : Int32) from rfl, s_L_law_33_6]
    exact case_i (kc := kX3_at) (km := kX4_at) (as := [.int (f (x + 1).toNatClampNeg), .int (f (x + 2).toNatClampNeg), .int (f (x + 3).toNatClampNeg)]) (fine_of (good0 R (op_at R)) F lw) F R.1 ab lw (by first | exact Or.inl rfl | exact Or.inr rfl) (fun r h1 h2 k1 km c1 c2 => law_6 (lw a ab) k1 ef R.1.k0 km q1 q2 q3 c1 c2)
  | 7, _ => by
    rw [show nI 7 = (7 : Int32) from rfl, s_L_law_33_7]
    exact case_i (kc := kX3_drop) (km := kX4_drop) (as := [.int (f (x + 1).toNatClampNeg)]) (fine_of (good_drop R) F lw) F R.1 ab lw (by first | exact Or.inl rfl | exact Or.inr rfl) (fun r h1 h2 k1 km c1 c2 => law_7 (lw a ab) k1 ef R.1.k0 km q1 c1 c2)
  | 8, _ => by
    rw [show nI 8 = (8 : Int32) from rfl, s_L_law_33_8]
    exact case_l (kc := kX3_sum) (km := kX4_sum) (as := [.int (f (x + 1).toNatClampNeg), .int (f (x + 2).toNatClampNeg), .int (f (x + 3).toNatClampNeg)]) (fine_of (good0 R (op_sum R)) F lw) F R.1 ab lw rfl (fun r h1 h2 k1 km c1 c2 => law_8 (lw a ab) k1 ef R.1.k0 km q1 q2 q3 c1 c2)
  | 9, _ => by
    rw [show nI 9 = (9 : Int32) from rfl, s_L_law_33_9]
    exact case_i (kc := kX3_kinds) (km := kX4_kinds) (as := [.int (f (x + 1).toNatClampNeg)]) (fine_of (good_kinds R) F lw) F R.1 ab lw (by first | exact Or.inl rfl | exact Or.inr rfl) (fun r h1 h2 k1 km c1 c2 => law_9 (lw a ab) k1 ef R.1.k0 km q1 c1 c2)
  | 10, _ => by
    rw [show nI 10 = (10 : Int32) from rfl, s_L_law_33_10]
    exact case_i (kc := kX3_odd) (km := kX4_odd) (as := [.int (f (x + 1).toNatClampNeg), .int (f (x + 2).toNatClampNeg), .int (f (x + 3).toNatClampNeg)]) (fine_of (good0 R (op_odd R)) F lw) F R.1 ab lw (by first | exact Or.inl rfl | exact Or.inr rfl) (fun r h1 h2 k1 km c1 c2 => law_10 (lw a ab) k1 ef R.1.k0 km q1 q2 q3 c1 c2)
  | 11, _ => by
    rw [show nI 11 = (11 : Int32) from rfl, s_L_law_33_11]
    exact case_i (kc := kX3_turn) (km := kX4_turn) (as := [.int (f (x + 1).toNatClampNeg), .int (f (x + 2).toNatClampNeg)]) (fine_of (op_turn R) F lw) F R.1 ab lw (by first | exact Or.inl rfl | exact Or.inr rfl) (fun r h1 h2 k1 km c1 c2 => law_11 (lw a ab) k1 ef R.1.k0 km q1 q2 c1 c2)
  | 12, _ => by
    rw [show nI 12 = (12 : Int32) from rfl, s_L_law_33_12]
    exact case_i (kc := kX3_form) (km := kX4_form) (as := [.int (f (x + 1).toNatClampNeg)]) (fine_of (good0 R (op_form R)) F lw) F R.1 ab lw (by first | exact Or.inl rfl | exact Or.inr rfl) (fun r h1 h2 k1 km c1 c2 => law_12 (lw a ab) k1 ef R.1.k0 km q1 c1 c2)
  | 13, _ => by
    rw [show nI 13 = (13 : Int32) from rfl, s_L_law_33_13]
    exact case_i (kc := kX3_same) (km := kX4_same) (as := [.int (f (x + 1).toNatClampNeg), .int (f (x + 2).toNatClampNeg)]) (fine_of (good0 R (op_same R)) F lw) F R.1 ab lw (by first | exact Or.inl rfl | exact Or.inr rfl) (fun r h1 h2 k1 km c1 c2 => law_13 (lw a ab) k1 ef R.1.k0 km q1 q2 c1 c2)
  | 14, _ => by
    rw [show nI 14 = (14 : Int32) from rfl, s_L_law_33_14]
    exact case_i (kc := kX3_unlike) (km := kX4_unlike) (as := [.int (f (x + 1).toNatClampNeg)]) (fine_of (good0 R (op_unlike R)) F lw) F R.1 ab lw (by first | exact Or.inl rfl | exact Or.inr rfl) (fun r h1 h2 k1 km c1 c2 => law_14 (lw a ab) k1 ef R.1.k0 km q1 c1 c2)
  | 15, _ => by
    rw [show nI 15 = (15 : Int32) from rfl, s_L_law_33_15]
    exact case_i (kc := kX3_make) (km := kX4_make) (as := [.int (f (x + 1).toNatClampNeg)]) (fine_of (op_make hE (fun k hk => lw _ (hb k hk)) R) F lw) F R.1 ab lw (by first | exact Or.inl rfl | exact Or.inr rfl) (fun r h1 h2 k1 km c1 c2 => law_15 (lw a ab) k1 ef R.1.k0 km q1 c1 c2)
  | 16, _ => by
    rw [show nI 16 = (16 : Int32) from rfl, s_L_law_33_16]
    exact case_i (kc := kX3_product) (km := kX4_product) (as := [.int (f (x + 1).toNatClampNeg), .int (f (x + 2).toNatClampNeg)]) (fine_of (op_product R) F lw) F R.1 ab lw (by first | exact Or.inl rfl | exact Or.inr rfl) (fun r h1 h2 k1 km c1 c2 => law_16 (lw a ab) k1 ef R.1.k0 km q1 q2 c1 c2)
  | 17, _ => by
    rw [show nI 17 = (17 : Int32) from rfl, s_L_law_33_17]
    exact case_i (kc := kX3_swap) (km := kX4_swap) (as := [.int (f (x + 1).toNatClampNeg), .int (f (x + 2).toNatClampNeg)]) (fine_of (op_swap R) F lw) F R.1 ab lw (by first | exact Or.inl rfl | exact Or.inr rfl) (fun r h1 h2 k1 km c1 c2 => law_17 (lw a ab) k1 ef R.1.k0 km q1 q2 c1 c2)
  | 18, _ => by
    rw [show nI 18 = (18 : Int32) from rfl, s_L_law_33_18]
    exact case_i (kc := kX3_turned) (km := kX4_turned) (as := [.int (f (x + 1).toNatClampNeg)]) (fine_of (op_turned R) F lw) F R.1 ab lw (by first | exact Or.inl rfl | exact Or.inr rfl) (fun r h1 h2 k1 km c1 c2 => law_18 (lw a ab) k1 ef R.1.k0 km q1 c1 c2)
  | 19, _ => by
    rw [show nI 19 = (19 : Int32) from rfl, s_L_law_33_19]
    exact case_i (kc := kX3_scale) (km := kX4_scale) (as := [.int (f (x + 1).toNatClampNeg), .int (f (x + 2).toNatClampNeg), .int (f (x + 3).toNatClampNeg)]) (fine_of (op_scale R) F lw) F R.1 ab lw (by first | exact Or.inl rfl | exact Or.inr rfl) (fun r h1 h2 k1 km c1 c2 => law_19 (lw a ab) k1 ef R.1.k0 km q1 q2 q3 c1 c2)
  | 20, _ => by
    rw [show nI 20 = (20 : Int32) from rfl, s_L_law_33_20]
    exact case_i (kc := kX3_plus) (km := kX4_plus) (as := [.int (f (x + 1).toNatClampNeg), .int (f (x + 2).toNatClampNeg)]) (fine_of (op_plus R) F lw) F R.1 ab lw (by first | exact Or.inl rfl | exact Or.inr rfl) (fun r h1 h2 k1 km c1 c2 => law_20 (lw a ab) k1 ef R.1.k0 km q1 q2 c1 c2)
  | 21, _ => by
    rw [show nI 21 = (21 : Int32) from rfl, s_L_law_33_21]
    exact case_i (kc := kX3_seek) (km := kX4_seek) (as := [.int (f (x + 1).toNatClampNeg), .int (f (x + 2).toNatClampNeg), .int (f (x + 3).toNatClampNeg)]) (op_seek hE hb R F lw) F R.1 ab lw (by first | exact Or.inl rfl | exact Or.inr rfl) (fun r h1 h2 k1 km c1 c2 => law_21 (lw a ab) k1 ef R.1.k0 km q1 q2 q3 c1 c2)
  | 22, _ => by
    rw [show nI 22 = (22 : Int32) from rfl, s_L_law_33_22]
    exact case_i (kc := kX3_found) (km := kX4_found) (as := []) (fine_of (good0 R (op_found R)) F lw) F R.1 ab lw (by first | exact Or.inl rfl | exact Or.inr rfl) (fun r h1 h2 k1 km c1 c2 => law_22 R.1.k0 km  c1 c2)
  | 23, _ => by
    rw [show nI 23 = (23 : Int32) from rfl, s_L_law_33_23]
    exact case_i (kc := kX3_forms) (km := kX4_forms) (as := []) (fine_of (op_forms R F) F lw) F R.1 ab lw (by first | exact Or.inl rfl | exact Or.inr rfl) (fun r h1 h2 k1 km c1 c2 => law_23 R.1.k0 km  c1 c2)
  | 24, _ => by
    rw [show nI 24 = (24 : Int32) from rfl, s_L_law_33_24]
    exact case_i (kc := kX3_take) (km := kX4_take) (as := [.int (f (x + 1).toNatClampNeg)]) (fine_of (op_take R F) F lw) F R.1 ab lw (by first | exact Or.inl rfl | exact Or.inr rfl) (fun r h1 h2 k1 km c1 c2 => law_24 (lw a ab) k1 ef R.1.k0 km q1 c1 c2)
  | 25, _ => by
    rw [show nI 25 = (25 : Int32) from rfl, s_L_law_33_25]
    exact case_i (kc := kX3_place) (km := kX4_place) (as := [.int (f (x + 1).toNatClampNeg)]) (fine_of (op_place R F) F lw) F R.1 ab lw (by first | exact Or.inl rfl | exact Or.inr rfl) (fun r h1 h2 k1 km c1 c2 => law_25 (lw a ab) k1 ef R.1.k0 km q1 c1 c2)
  | 26, _ => by
    rw [show nI 26 = (26 : Int32) from rfl, s_L_law_33_26]
    exact case_i (kc := kX3_cause) (km := kX4_cause) (as := []) (fine_of (good0 R (op_cause R)) F lw) F R.1 ab lw (by first | exact Or.inl rfl | exact Or.inr rfl) (fun r h1 h2 k1 km c1 c2 => law_26 R.1.k0 km  c1 c2)
  | 27, _ => by
    rw [show nI 27 = (27 : Int32) from rfl, s_L_law_33_27]
    exact case_i (kc := kX3_causes) (km := kX4_causes) (as := [.int (f (x + 1).toNatClampNeg)]) (fine_of (good0 R (op_causes R)) F lw) F R.1 ab lw (by first | exact Or.inl rfl | exact Or.inr rfl) (fun r h1 h2 k1 km c1 c2 => law_27 (lw a ab) k1 ef R.1.k0 km q1 c1 c2)
  | 28, _ => by
    rw [show nI 28 = (28 : Int32) from rfl, s_L_law_33_28]
    exact case_i (kc := kX3_count) (km := kX4_count) (as := [.int (f (x + 1).toNatClampNeg)]) (fine_of (good0 R (op_count R)) F lw) F R.1 ab lw (by first | exact Or.inl rfl | exact Or.inr rfl) (fun r h1 h2 k1 km c1 c2 => law_28 (lw a ab) k1 ef R.1.k0 km q1 c1 c2)
  | 29, _ => by
    rw [show nI 29 = (29 : Int32) from rfl, s_L_law_33_29]
    exact case_l (kc := kX3_digest) (km := kX4_digest) (as := []) (fine_of (good0 R (op_digest R)) F lw) F R.1 ab lw rfl (fun r h1 h2 k1 km c1 c2 => law_29 R.1.k0 km  c1 c2)
  | k + 30, hk => absurd hk (by omega)
theorem law_any {y : Int32} (all : ∀ k, k < 30 → ∃ h2, zl E 40 kL_law 33 [some (.ref a), some (.ref b), some (.ref (b + 70)), some (.int x)] [.int (nI k)] h = zl E 40 kL_law 1080 [some (.ref a), some (.ref b), some (.ref (b + 70)), some (.int x)] [] h2 ∧ LI b h2) (I : LI b h) : ∃ h2, zl E 40 kL_law 33 [some (.ref a), some (.ref b), some (.ref (b + 70)), some (.int x)] [.int y] h = zl E 40 kL_law 1080 [some (.ref a), some (.ref b), some (.ref (b + 70)), some (.int x)] [] h2 ∧ LI b h2 := by
  by_cases c : y.toInt < 0 ∨ 29 < y.toInt
  · exact ⟨h, s_L_law_33_d c, I⟩
  · obtain ⟨k, hk⟩ : ∃ k : Nat, y.toInt = (k : Int) := ⟨y.toInt.toNat, by omega⟩
    have e : y = nI k := by
      apply Int32.toInt_inj.mp
      rw [hk, nIt (by omega)]
    rw [e]
    exact all k (by omega)
theorem law_cmp {i : Nat} (hn : n ≤ 3072) (hi : i ≤ 4000) : (nI n - 6 < nI i) ↔ n < i + 6 := by
  rw [Int32.lt_iff_toInt_lt, Int32.toInt_sub, nIt (by omega), nIt (by omega), show (6 : Int32).toInt = 6 from rfl, Int.bmod_def]
  omega
theorem nI_ad {i j : Nat} {y : Int32} (e : y = nI j) (h : i + j < n) (hn : n ≤ 3072) : zR (nI i + y) n := by
  rw [e, nI_add]
  exact zR_to (by omega) h
theorem lp_law (hn : n ≤ 3072) (hE : zES E) (hb : ∀ k, k < 7 → E.1 k < b) (ab : a < b) (ef : E.2 a = some (n, f)) : ∀ (m i : Nat) (h : mH), i ≤ 4000 → n ≤ i + m → LI b h → ∃ h', zl E 40 kL_law 18 [some (.ref a), some (.ref b), some (.ref (b + 70)), some (.int (nI i))] [] h = some (some (.int 1), h') ∧ LI b h' := by
  intro m
  induction m with
  | zero =>
    intro i h hi hm I
    obtain ⟨o, z, R, F, lw⟩ := I
    have c := (law_cmp (n := n) hn hi).mpr (by omega)
    refine ⟨h, ?_, o, z, R, F, lw⟩
    simp only [s_L_law_18, s_L_law_19, s_L_law_20 (lw a ab) ef, s_L_law_21, s_L_law_23, s_L_law_24, c, if_true, s_L_law_1086, s_L_law_1087 (Or.inr rfl)]
  | succ m ih =>
    intro i h hi hm I
    obtain ⟨o, z, R, F, lw⟩ := I
    by_cases c0 : n < i + 6
    · have c := (law_cmp (n := n) hn hi).mpr c0
      refine ⟨h, ?_, o, z, R, F, lw⟩
      simp only [s_L_law_18, s_L_law_19, s_L_law_20 (lw a ab) ef, s_L_law_21, s_L_law_23, s_L_law_24, c, if_true, s_L_law_1086, s_L_law_1087 (Or.inr rfl)]
    · have c := mt (law_cmp (n := n) hn hi).mp c0
      have q0 : zR (nI i) n := zR_to (by omega) (by omega)
      have all := law_case (x := nI i) hE hb R F lw ab ef (nI_ad (j := 1) rfl (by omega) hn) (nI_ad (j := 2) rfl (by omega) hn) (nI_ad (j := 3) rfl (by omega) hn) (nI_ad (j := 4) rfl (by omega) hn) (nI_ad (j := 5) rfl (by omega) hn)
      obtain ⟨h2, e2, I2⟩ := law_any (y := f (nI i).toNatClampNeg &&& 31) all ⟨o, z, R, F, lw⟩
      obtain ⟨h', e', I'⟩ := ih (i + 6) h2 (by omega) (by omega) I2
      refine ⟨h', ?_, I'⟩
      simp only [s_L_law_18, s_L_law_19, s_L_law_20 (lw a ab) ef, s_L_law_21, s_L_law_23, s_L_law_24, c, if_false, s_L_law_27, s_L_law_28, s_L_law_29r (lw a ab) ef q0, s_L_law_30, s_L_law_32, e2]
      rw [s_L_law_1080, s_L_law_1083, zv_ref, show (6 : Int32) = nI 6 from rfl, nI_add]
      exact e'
theorem law_start : zl E 40 kL_law 0 [some (.ref a), none, none, none] [] (zh0 b) = zl E 40 kL_law 18 [some (.ref a), some (.ref b), some (.ref (b + 70)), some (.int (nI 0))] [] (H0 b E) := by
  have a1 : aH (zh0 b) 13 10 10 (fun k => (zdf 3).getD k .null) = bh b 1 10 (kS (fun _ => (0, 0)) 0 (13, 10)) F1 := by
    rw [zh0_bh, aH_bh]
    rfl
  have n1 : hN (zh0 b) = b := rfl
  have a2 : aH (bh b 70 4802 (kSq (kSh KA 4) 24) (fSq b (fSh b (FA b E) 4) 24)) 14 21 21 (fun k => (zdf 4).getD k .null) = bh b 71 (4802 + 21) (kS (kSq (kSh KA 4) 24) 70 (14, 21)) (fN (fSq b (fSh b (FA b E) 4) 24) 70 (zd 4)) := by
    rw [aH_bh]
    rfl
  have c3 := c_X3_init (E := E) (d := 37) (b := b)
  have c4 := c_X4_init (E := E) (d := 39) (b := b) (z := 4802 + 21) (kf := kS (kSq (kSh KA 4) 24) 70 (14, 21)) (ff := fN (fSq b (fSh b (FA b E) 4) 24) 70 (zd 4)) rfl rfl
  have eH : H0 b E = sI (bh b 86 (4802 + 21 + 6 + 4 + 4 + 600 + 150 + 24 + 3456 + 144 + 145 + 144 + 115200 + 16 + 17 + 16 + 17) (KM (kS (kSq (kSh KA 4) 24) 70 (14, 21))) (FM b (fN (fSq b (fSh b (FA b E) 4) 24) 70 (zd 4)))) (b + 72) (rw_ (fun _ => -1) (fun _ => 0) 4) := by
    unfold H0 KX FX ZX
    rfl
  rw [eH]
  rw [s_L_law_0, a1, n1, s_L_law_3, s_L_law_4, c3]
  simp only [if_true, if_false, and_true, true_and, and_false, false_and, true_or, or_true, or_false, false_or, eq_self, not_true_eq_false, not_false_eq_true, zv_int, zv_ref, zv_null, zv_none, hK_sI, hF_sI, hJ_sI, hN_sI, hZ_sI, hI_sI_same, hK_sJ, hF_sJ, hI_sJ, hN_sJ, hZ_sJ, hJ_sJ_same, hK_sF, hI_sF, hJ_sF, hN_sF, hZ_sF, Option.bind_some, Option.toList_some, Option.toList_none, List.cons_append, List.nil_append, zq_ref, zq_null]
  rw [s_L_law_7, s_L_law_8, a2, hN_bh, s_L_law_11, s_L_law_12, c4]
  simp only [if_true, if_false, and_true, true_and, and_false, false_and, true_or, or_true, or_false, false_or, eq_self, not_true_eq_false, not_false_eq_true, zv_int, zv_ref, zv_null, zv_none, hK_sI, hF_sI, hJ_sI, hN_sI, hZ_sI, hI_sI_same, hK_sJ, hF_sJ, hI_sJ, hN_sJ, hZ_sJ, hJ_sJ_same, hK_sF, hI_sF, hJ_sF, hN_sF, hZ_sF, Option.bind_some, Option.toList_some, Option.toList_none, List.cons_append, List.nil_append, zq_ref, zq_null]
  rw [s_L_law_15, s_L_law_16, s_L_law_17]
  rfl
theorem law_ok : zLaw := by
  intro E a b n f hn hE hb ab ef
  have I : LI b (H0 b E) := ⟨_, _, H0_Rel, H0_FI, H0_low⟩
  obtain ⟨h', e, o, z, R, ⟨_, ⟨g, ka, g8, _, _, _, _, eN, eZ⟩, _⟩, lw⟩ := lp_law hn hE hb ab ef n 0 (H0 b E) (by omega) (by omega) I
  refine ⟨h', ?_, by omega, ?_⟩
  · rw [law_start]
    exact e
  · rw [eZ]
    have : 2 ^ g ≤ 2 ^ 8 := Nat.pow_le_pow_right (by decide) g8
    unfold ZX
    omega
end
