/-! ===== the finder's state ===== -/
section
variable {E : mE} {d : Nat} {h h1 h2 : mH} {b : Nat}
theorem hN_aH (h : mH) (t n z : Nat) (f : Nat → Value) : hN (aH h t n z f) = hN h + 1 := rfl
theorem hZ_aH (h : mH) (t n z : Nat) (f : Nat → Value) : hZ (aH h t n z f) = hZ h + z := rfl
theorem hK_aH (h : mH) (t n z : Nat) (f : Nat → Value) : hK (aH h t n z f) (hN h) = (t, n) := if_pos rfl
theorem hK_aH_ne (h : mH) (t n z : Nat) (f : Nat → Value) {a : Nat} (q : a ≠ hN h) : hK (aH h t n z f) a = hK h a := if_neg q
theorem hI_aH_ne (h : mH) (t n z : Nat) (f : Nat → Value) {a : Nat} (q : a ≠ hN h) : hI (aH h t n z f) a = hI h a := if_neg q
theorem hJ_aH_ne (h : mH) (t n z : Nat) (f : Nat → Value) {a : Nat} (q : a ≠ hN h) : hJ (aH h t n z f) a = hJ h a := if_neg q
theorem hJ_aH (h : mH) (t n z : Nat) (f : Nat → Value) : hJ (aH h t n z f) (hN h) = fun _ => 0 := if_pos rfl
theorem hF_aH_ne (h : mH) (t n z : Nat) (f : Nat → Value) {a : Nat} (q : a ≠ hN h) : hF (aH h t n z f) a = hF h a := if_neg q
theorem KK_lt {o : Nat} {x : Nat × Nat} (e : KK o = some x) : o < 86 := by
  apply Classical.byContradiction
  intro c
  unfold KK at e
  repeat rw [if_neg (by omega)] at e
  cases e
theorem PF_lt {o k t : Nat} (e : PF o k = some t) : o < 86 := by
  apply Classical.byContradiction
  intro c
  unfold PF at e
  repeat rw [if_neg (by omega)] at e
  cases e
/-- all cells below b + 86 are the same but for the keys -/
def frmK (b : Nat) (h h' : mH) : Prop := (∀ a, a < b + 86 → hI h' a = hI h a) ∧ (∀ a j, a < b + 86 → ¬ (a = b + 8 ∧ (j = 2 ∨ j = 3 ∨ j = 4)) → hF h' a j = hF h a j) ∧ (∀ a, a < b + 86 → a ≠ b + 12 → hJ h' a = hJ h a) ∧ (∀ a, a < b + 86 → hK h' a = hK h a)
/-- the same but for keys, trial, held -/
def frm (b : Nat) (h h' : mH) : Prop := (∀ a, a < b + 86 → a ≠ b + 10 → a ≠ b + 11 → hI h' a = hI h a) ∧ (∀ a j, a < b + 86 → a ≠ b + 8 → a ≠ b + 9 → hF h' a j = hF h a j) ∧ (∀ a, a < b + 86 → a ≠ b + 12 → hJ h' a = hJ h a) ∧ (∀ a, a < b + 86 → hK h' a = hK h a)
theorem frmK_refl : frmK b h h := ⟨fun _ _ => rfl, fun _ _ _ _ => rfl, fun _ _ _ => rfl, fun _ _ => rfl⟩
theorem frm_refl : frm b h h := ⟨fun _ _ _ _ => rfl, fun _ _ _ _ _ => rfl, fun _ _ _ => rfl, fun _ _ => rfl⟩
theorem frmK_trans (p : frmK b h h1) (q : frmK b h1 h2) : frmK b h h2 := ⟨fun a ha => (q.1 a ha).trans (p.1 a ha), fun a j ha hj => (q.2.1 a j ha hj).trans (p.2.1 a j ha hj), fun a ha hb => (q.2.2.1 a ha hb).trans (p.2.2.1 a ha hb), fun a ha => (q.2.2.2 a ha).trans (p.2.2.2 a ha)⟩
theorem frm_trans (p : frm b h h1) (q : frm b h1 h2) : frm b h h2 := ⟨fun a ha hb hc => (q.1 a ha hb hc).trans (p.1 a ha hb hc), fun a j ha hb hc => (q.2.1 a j ha hb hc).trans (p.2.1 a j ha hb hc), fun a ha hb => (q.2.2.1 a ha hb).trans (p.2.2.1 a ha hb), fun a ha => (q.2.2.2 a ha).trans (p.2.2.2 a ha)⟩
theorem frm_of (p : frmK b h h1) : frm b h h1 := ⟨fun a ha _ _ => p.1 a ha, fun a j ha hb _ => p.2.1 a j ha (fun q => hb q.1), p.2.2.1, p.2.2.2⟩
theorem pf8 : ∀ j, j = 2 ∨ j = 3 ∨ j = 4 → PF 8 j = none := by
  rintro j (rfl | rfl | rfl) <;> decide +kernel
theorem Lay_frmK (L : Lay b h) (p : frmK b h h1) : Lay b h1 := by
  refine ⟨fun o x e => ?_, fun o k t e => ?_⟩
  · rw [p.2.2.2 _ (by have := KK_lt e; omega)]
    exact L.1 o x e
  · rw [p.2.1 _ _ (by have := PF_lt e; omega)]
    · exact L.2 o k t e
    · rintro ⟨c1, c2⟩
      have : o = 8 := by omega
      subst this
      rw [pf8 k c2] at e
      cases e
theorem Lay_frm_rest (L : Lay b h) (p : frm b h h1) (q8 : ∀ k t, PF 8 k = some t → hF h1 (b + 8) k = .ref (b + t)) (q9 : ∀ k t, PF 9 k = some t → hF h1 (b + 9) k = .ref (b + t)) : Lay b h1 := by
  refine ⟨fun o x e => ?_, fun o k t e => ?_⟩
  · rw [p.2.2.2 _ (by have := KK_lt e; omega)]
    exact L.1 o x e
  · by_cases c8 : o = 8
    · subst c8
      exact q8 k t e
    · by_cases c9 : o = 9
      · subst c9
        exact q9 k t e
      · rw [p.2.1 _ _ (by have := PF_lt e; omega) (by omega) (by omega)]
        exact L.2 o k t e
/-- the finder while it seeks: what stays -/
def FC (E : mE) (b n : Nat) (ask : Int32) (hd : Nat → Nat) (h : mH) : Prop :=
  Lay b h ∧ (∀ k, k < 7 → (hK h (E.1 k)).1 = 0) ∧ hF h (b + 8) 5 = .int (nI n) ∧ hF h (b + 8) 6 = .int (nI (n * n)) ∧ hF h (b + 8) 7 = .int (nI (TT n)) ∧ hF h (b + 8) 8 = .int ask ∧ hF h (b + 8) 10 = .ref (E.1 (n - 1)) ∧ hF h (b + 9) 1 = .int (nI n) ∧ (∀ p, p < n * n → hI h (b + 11) p = nI (hd p))
theorem FC_frmK {n : Nat} {ask : Int32} {hd : Nat → Nat} (hb : ∀ k, k < 7 → E.1 k < b) (C : FC E b n ask hd h) (p : frmK b h h1) : FC E b n ask hd h1 := by
  obtain ⟨L, c1, c2, c3, c4, c5, c6, c7, c8⟩ := C
  refine ⟨Lay_frmK L p, fun k hk => ?_, ?_, ?_, ?_, ?_, ?_, ?_, fun x hx => ?_⟩
  · rw [p.2.2.2 _ (by have := hb k hk; omega)]
    exact c1 k hk
  · rw [p.2.1 _ _ (by omega) (by omega)]; exact c2
  · rw [p.2.1 _ _ (by omega) (by omega)]; exact c3
  · rw [p.2.1 _ _ (by omega) (by omega)]; exact c4
  · rw [p.2.1 _ _ (by omega) (by omega)]; exact c5
  · rw [p.2.1 _ _ (by omega) (by omega)]; exact c6
  · rw [p.2.1 _ _ (by omega) (by omega)]; exact c7
  · rw [p.1 _ (by omega)]; exact c8 x hx
/-- the row of a key -/
def rowOf (n κ : Nat) : Nat → Int32 := fun p => nI (kdg κ (n * n) p + 1)
/-- how many of a list are forms -/
def fcn (n : Nat) (K : List Nat) : Nat := K.countP (fun κ => decide (fm (rowOf n κ) n = 0))
/-- the keys kept, and the room they take -/
def FKg (b Z n : Nat) (K : List Nat) (g ka : Nat) (h : mH) : Prop := g ≤ 8 ∧ hF h (b + 8) 2 = .ref ka ∧ hK h ka = (2, 32 * 2 ^ g) ∧ (ka = b + 12 ∨ b + 86 ≤ ka) ∧ ka < hN h ∧ hN h = b + 86 + g ∧ hZ h = Z + 64 * (2 ^ g - 1) ∧ K.length ≤ 32 * 2 ^ g ∧ (∀ j, j < K.length → hJ h ka j = enc (K.getD j 0)) ∧ hF h (b + 8) 3 = .int (nI K.length) ∧ hF h (b + 8) 4 = .int (nI (fcn n K))
def FK (b Z n : Nat) (K : List Nat) (h : mH) : Prop := ∃ g ka, FKg b Z n K g ka h
/-- the keys in a longer row -/
theorem c_J7_copyOf {a n : Nat} (k1 : hK h a = (2, n)) (hn : 2 * n ≤ 1000000) (h0 : 0 < n) (ha : a ≠ hN h) : cal E (d + 1) kJ7_copyOf_c38d5 [.ref a, .int (nI (2 * n))] h = some (some (.ref (hN h)), sJ (aH h 2 (2 * n) (2 * n) (fun _ => .null)) (hN h) (va_cpy (hJ h a) (fun _ => 0) 0 0 n)) := by
  have q1 : ¬ nI (2 * n) = nI n := fun q => by
    have := (nI_eq (a := 2 * n) (b := n) (by omega) (by omega)).mp q
    omega
  have q2 : (0 : Int32) ≤ nI (2 * n) := nI_pos' (by omega)
  have q3 : (nI (2 * n)).toNatClampNeg = 2 * n := nI_clamp (by omega)
  have q4 : ¬ nI (2 * n) < nI n := nI_nlt (by omega) (by omega)
  have q5 : (0 : Int32) ≤ nI n := nI_pos' (by omega)
  have q6 : (nI n).toNatClampNeg = n := nI_clamp (by omega)
  have q7 : (0 : Int32).toNatClampNeg = 0 := rfl
  have e1 : hK (aH h 2 (2 * n) (2 * n) (fun _ => .null)) a = (2, n) := by rw [hK_aH_ne _ _ _ _ _ ha]; exact k1
  have e2 : hK (aH h 2 (2 * n) (2 * n) (fun _ => .null)) (hN h) = (2, 2 * n) := hK_aH _ _ _ _ _
  have e3 : hJ (aH h 2 (2 * n) (2 * n) (fun _ => .null)) a = hJ h a := hJ_aH_ne _ _ _ _ _ ha
  have e4 : hJ (aH h 2 (2 * n) (2 * n) (fun _ => .null)) (hN h) = fun _ => 0 := hJ_aH _ _ _ _ _
  have q8 : n ≤ 2 * n := by omega
  simp (decide := true) only [e_J7_copyOf_c38d5, s_J7_copyOf_c38d5_0, s_J7_copyOf_c38d5_1, s_J7_copyOf_c38d5_2, s_J7_copyOf_c38d5_3, s_J7_copyOf_c38d5_6, s_J7_copyOf_c38d5_13, s_J7_copyOf_c38d5_14, s_J7_copyOf_c38d5_15, s_J7_copyOf_c38d5_17, s_J7_copyOf_c38d5_18, s_J7_copyOf_c38d5_19, s_J7_copyOf_c38d5_20, s_J7_copyOf_c38d5_21, s_J7_copyOf_c38d5_22, s_J7_copyOf_c38d5_23, s_J7_copyOf_c38d5_24, s_J7_copyOf_c38d5_25, s_J7_copyOf_c38d5_28, s_J7_copyOf_c38d5_31, s_J7_copyOf_c38d5_32, if_true, if_false, and_true, true_and, and_false, false_and, true_or, or_true, or_false, false_or, eq_self, not_true_eq_false, not_false_eq_true, zv_int, zv_ref, zv_null, zv_none, hK_sI, hF_sI, hJ_sI, hN_sI, hZ_sI, hI_sI_same, hK_sJ, hF_sJ, hI_sJ, hN_sJ, hZ_sJ, hJ_sJ_same, hK_sF, hI_sF, hJ_sF, hN_sF, hZ_sF, Option.bind_some, Option.toList_some, Option.toList_none, List.cons_append, List.nil_append, zq_ref, zq_null, k1, q1, q2, q3, q4, q5, q6, q7, e1, e2, e3, e4, hn, Nat.zero_add, Nat.le_refl, q8]
theorem pow8 {g : Nat} (hg : g ≤ 8) : 1 ≤ 2 ^ g ∧ 2 ^ g ≤ 256 := by
  have h1 : 2 ^ g ≤ 2 ^ 8 := Nat.pow_le_pow_right (by decide) hg
  have h2 : (2 : Nat) ^ 8 = 256 := by decide
  have h3 : 0 < 2 ^ g := Nat.pow_pos (by decide)
  omega
/-- there is room -/
theorem c_X0_hasRoom {Z n : Nat} {K : List Nat} (L : Lay b h) (F : FK b Z n K h) (hK8 : K.length < 8192) : ∃ h', cal E (d + 2) kX0_hasRoom [.ref (b + 8)] h = some (some (.int 1), h') ∧ frmK b h h' ∧ ∃ g ka, FKg b Z n K g ka h' ∧ K.length < 32 * 2 ^ g := by
  obtain ⟨g, ka, g8, f2, k1, hka, kN, eN, eZ, len, dat, f3, f4⟩ := F
  have p8 := pow8 g8
  by_cases c : K.length < 32 * 2 ^ g
  · refine ⟨h, ?_, frmK_refl, g, ka, ⟨g8, f2, k1, hka, kN, eN, eZ, len, dat, f3, f4⟩, c⟩
    have q1 : nI K.length < nI (32 * 2 ^ g) := nI_lt c (by omega)
    have q2 : ¬ nI (32 * 2 ^ g) ≤ nI K.length := nI_ge c (by omega)
    simp (decide := true) only [e_X0_hasRoom, s_X0_hasRoom_0, s_X0_hasRoom_1, s_X0_hasRoom_4, s_X0_hasRoom_5, s_X0_hasRoom_8, s_X0_hasRoom_9, s_X0_hasRoom_12, s_X0_hasRoom_13, s_X0_hasRoom_16, s_X0_hasRoom_17, s_X0_hasRoom_20, s_X0_hasRoom_23, s_X0_hasRoom_24, s_X0_hasRoom_25, s_X0_hasRoom_28, s_X0_hasRoom_29, s_X0_hasRoom_30, s_X0_hasRoom_33, s_X0_hasRoom_34, s_X0_hasRoom_35, s_X0_hasRoom_38, s_X0_hasRoom_41, s_X0_hasRoom_42, s_X0_hasRoom_45, s_X0_hasRoom_46, s_X0_hasRoom_49, s_X0_hasRoom_50, s_X0_hasRoom_53, s_X0_hasRoom_54, s_X0_hasRoom_57, s_X0_hasRoom_58, if_true, if_false, and_true, true_and, and_false, false_and, true_or, or_true, or_false, false_or, eq_self, not_true_eq_false, not_false_eq_true, zv_int, zv_ref, zv_null, zv_none, hK_sI, hF_sI, hJ_sI, hN_sI, hZ_sI, hI_sI_same, hK_sJ, hF_sJ, hI_sJ, hN_sJ, hZ_sJ, hJ_sJ_same, hK_sF, hI_sF, hJ_sF, hN_sF, hZ_sF, Option.bind_some, Option.toList_some, Option.toList_none, List.cons_append, List.nil_append, zq_ref, zq_null, L.k8, f2, f3, k1, q1, q2]
  · have el : K.length = 32 * 2 ^ g := by omega
    have g7 : g < 8 := by
      apply Classical.byContradiction
      intro q
      have : g = 8 := by omega
      rw [this] at el
      omega
    have q1 : ¬ nI K.length < nI (32 * 2 ^ g) := nI_nlt (by omega) (by omega)
    have q2 : ¬ 8192 ≤ nI (32 * 2 ^ g) := nI_ge (b := 8192) (by omega) (by decide)
    have m2 : (2 : Int32) * nI (32 * 2 ^ g) = nI (2 * (32 * 2 ^ g)) := t2m _
    have eC := c_J7_copyOf (E := E) (d := d) k1 (by omega) (by omega) (by omega)
    obtain ⟨h3, eh3⟩ : ∃ h3, h3 = sJ (aH h 2 (2 * (32 * 2 ^ g)) (2 * (32 * 2 ^ g)) (fun _ => .null)) (hN h) (va_cpy (hJ h ka) (fun _ => 0) 0 0 (32 * 2 ^ g)) := ⟨_, rfl⟩
    rw [← eh3] at eC
    have n3 : ∀ a, a < b + 86 → hK h3 a = hK h a := fun a ha => by rw [eh3, hK_sJ, hK_aH_ne _ _ _ _ _ (by omega)]
    have fm3 : frmK b h h3 := by
      refine ⟨fun a ha => ?_, fun a j ha _ => ?_, fun a ha _ => ?_, n3⟩
      · rw [eh3, hI_sJ, hI_aH_ne _ _ _ _ _ (by omega)]
      · rw [eh3, hF_sJ, hF_aH_ne _ _ _ _ _ (by omega)]
      · rw [eh3, hJ_sJ_ne _ _ (by omega), hJ_aH_ne _ _ _ _ _ (by omega)]
    have L3 := Lay_frmK L fm3
    have kk : hK h3 (hN h) = (2, 2 * (32 * 2 ^ g)) := by rw [eh3, hK_sJ, hK_aH]
    have fm4 : frmK b h (sF h3 (b + 8) 2 (.ref (hN h))) := by
      refine frmK_trans fm3 ⟨fun _ _ => rfl, fun a j ha hj => ?_, fun _ _ _ => rfl, fun _ _ => rfl⟩
      rw [hF_sF, if_neg]
      rintro ⟨rfl, rfl⟩
      exact hj ⟨rfl, Or.inl rfl⟩
    have e83 : hF h3 (b + 8) 3 = .int (nI K.length) := by rw [eh3, hF_sJ, hF_aH_ne _ _ _ _ _ (by omega)]; exact f3
    have q3 : ¬ nI (2 * (32 * 2 ^ g)) ≤ nI K.length := nI_ge (by omega) (by omega)
    have e1 : hF (sF h3 (b + 8) 2 (.ref (hN h))) (b + 8) 2 = .ref (hN h) := by rw [hF_sF, if_pos ⟨rfl, rfl⟩]
    have e2 : hF (sF h3 (b + 8) 2 (.ref (hN h))) (b + 8) 3 = .int (nI K.length) := by rw [hF_sF, if_neg (by omega)]; exact e83
    have pg : 2 ^ (g + 1) = 2 * 2 ^ g := by rw [Nat.pow_succ]; omega
    refine ⟨sF h3 (b + 8) 2 (.ref (hN h)), ?_, fm4, g + 1, hN h, ⟨by omega, e1, ?_, Or.inr (by omega), ?_, ?_, ?_, by omega, fun j hj => ?_, e2, ?_⟩, by omega⟩
    · simp (decide := true) only [e_X0_hasRoom, s_X0_hasRoom_0, s_X0_hasRoom_1, s_X0_hasRoom_4, s_X0_hasRoom_5, s_X0_hasRoom_8, s_X0_hasRoom_9, s_X0_hasRoom_12, s_X0_hasRoom_13, s_X0_hasRoom_16, s_X0_hasRoom_17, s_X0_hasRoom_20, s_X0_hasRoom_23, s_X0_hasRoom_24, s_X0_hasRoom_25, s_X0_hasRoom_28, s_X0_hasRoom_29, s_X0_hasRoom_30, s_X0_hasRoom_33, s_X0_hasRoom_34, s_X0_hasRoom_35, s_X0_hasRoom_38, s_X0_hasRoom_41, s_X0_hasRoom_42, s_X0_hasRoom_45, s_X0_hasRoom_46, s_X0_hasRoom_49, s_X0_hasRoom_50, s_X0_hasRoom_53, s_X0_hasRoom_54, s_X0_hasRoom_57, s_X0_hasRoom_58, if_true, if_false, and_true, true_and, and_false, false_and, true_or, or_true, or_false, false_or, eq_self, not_true_eq_false, not_false_eq_true, zv_int, zv_ref, zv_null, zv_none, hK_sI, hF_sI, hJ_sI, hN_sI, hZ_sI, hI_sI_same, hK_sJ, hF_sJ, hI_sJ, hN_sJ, hZ_sJ, hJ_sJ_same, hK_sF, hI_sF, hJ_sF, hN_sF, hZ_sF, Option.bind_some, Option.toList_some, Option.toList_none, List.cons_append, List.nil_append, zq_ref, zq_null, L.k8, L3.k8, f2, f3, k1, kk, q1, q2, q3, m2, eC, e1, e2, zfit]
    · rw [hK_sF, kk, pg]
      congr 1
      omega
    · rw [hN_sF, eh3, hN_sJ, hN_aH]
      omega
    · rw [hN_sF, eh3, hN_sJ, hN_aH]
      omega
    · rw [hZ_sF, eh3, hZ_sJ, hZ_aH, eZ, pg]
      omega
    · rw [hJ_sF, eh3, hJ_sJ_same]
      unfold va_cpy
      rw [if_pos (by omega), ← dat j hj]
      congr 1
      omega
    · rw [hF_sF, if_neg (by omega), eh3, hF_sJ, hF_aH_ne _ _ _ _ _ (by omega)]
      exact f4
end
