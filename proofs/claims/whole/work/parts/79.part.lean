/-! ===== what the reference has laid so far ===== -/
section
def Pt (n : Nat) (pd : Bool) (hd : Nat → Nat) (p : Nat) (a : Nat → Nat) : Prop :=
  (∀ c, c < p → 1 ≤ a c ∧ a c ≤ n * n) ∧ (∀ c e, c < e → e < p → a c ≠ a e) ∧ (∀ c, c < p → hd c ≠ 0 → a c = hd c) ∧ (∀ c, c < p → ∀ line, En n c line → ls a n line n = TT n) ∧ (pd = true → ∀ c, c < p → n * n - 1 ≤ 2 * c → a c + a (n * n - 1 - c) = n * n + 1)
def okp (n : Nat) (a : Nat → Nat) (p v : Nat) : Prop := ∀ line, En n p line → ls a n line (n - 1) + v = TT n
theorem fc_A {g : Nat → Int32} {n p : Nat} (c : ¬ (p % n = n - 1 ∨ p / n = n - 1)) : fcv g n p = 0 := by
  have c1 : ¬ p % n = n - 1 := fun q => c (Or.inl q)
  have c2 : ¬ p / n = n - 1 := fun q => c (Or.inr q)
  simp only [fcv, c1, c2, if_false, false_and, or_self]
theorem ls_s {a : Nat → Nat} {n line : Nat} (hn : 1 ≤ n) : ls a n line n = ls a n line (n - 1) + a (lc n line (n - 1)) := by
  obtain ⟨m, rfl⟩ : ∃ m, n = m + 1 := ⟨n - 1, by omega⟩
  rfl
/-- at the last place row and column ask for the same -/
theorem last_same {n : Nat} {pd : Bool} {hd a : Nat → Nat} (hn : 2 ≤ n ∧ n ≤ 4) (P : Pt n pd hd (n * n - 1) a) : ls a n (n - 1) (n - 1) = ls a n (n + (n - 1)) (n - 1) := by
  have l := P.2.2.2.1
  have hc : n = 2 ∨ n = 3 ∨ n = 4 := by omega
  rcases hc with rfl | rfl | rfl
  · have a0 := l 1 (by decide) 0 rfl
    have a1 := l 2 (by decide) 2 rfl
    change 0 + a 0 + a 1 = 5 at a0
    change 0 + a 0 + a 2 = 5 at a1
    change 0 + a 2 = 0 + a 1
    omega
  · have a0 := l 2 (by decide) 0 rfl
    have a1 := l 5 (by decide) 1 rfl
    have a2 := l 6 (by decide) 3 rfl
    have a3 := l 7 (by decide) 4 rfl
    change 0 + a 0 + a 1 + a 2 = 15 at a0
    change 0 + a 3 + a 4 + a 5 = 15 at a1
    change 0 + a 0 + a 3 + a 6 = 15 at a2
    change 0 + a 1 + a 4 + a 7 = 15 at a3
    change 0 + a 6 + a 7 = 0 + a 2 + a 5
    omega
  · have a0 := l 3 (by decide) 0 rfl
    have a1 := l 7 (by decide) 1 rfl
    have a2 := l 11 (by decide) 2 rfl
    have a4 := l 12 (by decide) 4 rfl
    have a5 := l 13 (by decide) 5 rfl
    have a6 := l 14 (by decide) 6 rfl
    change 0 + a 0 + a 1 + a 2 + a 3 = 34 at a0
    change 0 + a 4 + a 5 + a 6 + a 7 = 34 at a1
    change 0 + a 8 + a 9 + a 10 + a 11 = 34 at a2
    change 0 + a 0 + a 4 + a 8 + a 12 = 34 at a4
    change 0 + a 1 + a 5 + a 9 + a 13 = 34 at a5
    change 0 + a 2 + a 6 + a 10 + a 14 = 34 at a6
    change 0 + a 12 + a 13 + a 14 = 0 + a 3 + a 7 + a 11
    omega
theorem fc_B {g : Nat → Int32} {n p : Nat} {pd : Bool} {hd a : Nat → Nat} (hn : 1 ≤ n ∧ n ≤ 4) (hp : p < n * n) (c : p % n = n - 1 ∨ p / n = n - 1) (P : Pt n pd hd p a) (e : ∀ c, c < p → g c = nI (a c)) : (¬ fcv g n p = 0 ∧ (fcv g n p).toInt ≤ 34) ∧ ∀ v, 1 ≤ v → v ≤ 16 → (fcv g n p = nI v ↔ okp n a p v) := by
  have nn : n * n ≤ 16 := Nat.mul_le_mul hn.2 hn.2
  have h1 : p / n < n := Nat.div_lt_of_lt_mul hp
  have h2 : p % n < n := Nat.mod_lt _ hn.1
  have tt := TT_le hn
  have m1 : (-1 : Int32).toInt = -1 := rfl
  have z0 : (0 : Int32).toInt = 0 := rfl
  have nv : ∀ v, 1 ≤ v → v ≤ 16 → (nI v).toInt = (v : Int) := fun v _ _ => nIt (by omega)
  -- the sums of the lines that end here
  have sum : ∀ line, En n p line → (nI (TT n) - s32 g n line (n - 1)).toInt = (TT n : Int) - (ls a n line (n - 1) : Int) := fun line en => by
    have hl := En_lt hn.1 hp en
    have lt := En_l2 n (by omega) p hp line hl.1 en
    rw [s32_ls (f := a) (n - 1) (fun i hi => e _ (lt i hi))]
    have bnd : ls a n line (n - 1) ≤ 16 * (n - 1) := by
      have key : ∀ k, k ≤ n - 1 → ls a n line k ≤ 16 * k := by
        intro k
        induction k with
        | zero => intro _; exact Nat.le_refl _
        | succ k ih =>
          intro hk
          have h3 := ih (by omega)
          have h4 := P.1 _ (lt k (by omega))
          show ls a n line k + a (lc n line k) ≤ _
          omega
      exact key (n - 1) (Nat.le_refl _)
    rw [su32 (by rw [nIt (by omega), nIt (by omega)]; omega), nIt (by omega), nIt (by omega)]
  have fin : ∀ (V : Int32) (Q : Nat → Prop), V.toInt ≤ 34 → (∀ v, 1 ≤ v → v ≤ 16 → (V = nI v ↔ Q v)) → (¬ (if V = 0 then (-1 : Int32) else V) = 0 ∧ (if V = 0 then (-1 : Int32) else V).toInt ≤ 34) ∧ ∀ v, 1 ≤ v → v ≤ 16 → ((if V = 0 then (-1 : Int32) else V) = nI v ↔ Q v) := fun V Q hle hq => by
    by_cases cV : V = 0
    · rw [if_pos cV]
      refine ⟨⟨by decide, by decide⟩, fun v v1 v2 => ?_⟩
      rw [← hq v v1 v2, cV]
      have := nv v v1 v2
      constructor
      · intro q
        have := congrArg Int32.toInt q
        omega
      · intro q
        have := congrArg Int32.toInt q
        omega
    · rw [if_neg cV]
      exact ⟨⟨cV, hle⟩, hq⟩
  have eqv : ∀ (X : Int32) (A : Nat), X.toInt = (TT n : Int) - A → ∀ v, 1 ≤ v → v ≤ 16 → (X = nI v ↔ A + v = TT n) := fun X A hX v v1 v2 => by
    have hv := nv v v1 v2
    constructor
    · intro q
      rw [q, hv] at hX
      omega
    · intro q
      apply Int32.toInt_inj.1
      rw [hX, hv]
      omega
  have neg1 : ∀ v, 1 ≤ v → v ≤ 16 → ¬ (-1 : Int32) = nI v := fun v v1 v2 q => by
    have := congrArg Int32.toInt q
    have := nv v v1 v2
    omega
  by_cases cj : p % n = n - 1
  · by_cases ci : p / n = n - 1
    · by_cases n1 : n = 1
      · subst n1
        have p0 : p = 0 := by omega
        subst p0
        have ev : fcv g 1 0 = 1 := by
          have t1 : TT 1 = 1 := by decide
          have sA : ∀ line, s32 g 1 line (1 - 1) = 0 := fun _ => rfl
          unfold fcv
          simp only [sA, t1]
          decide
        rw [ev]
        refine ⟨⟨by decide, by decide⟩, fun v v1 v2 => ?_⟩
        have hv := nv v v1 v2
        constructor
        · intro q line en
          have := congrArg Int32.toInt q
          have one : (1 : Int32).toInt = 1 := rfl
          show 0 + v = 1
          omega
        · intro q
          have := q 0 rfl
          change 0 + v = 1 at this
          have : v = 1 := by omega
          rw [this]
          rfl
      · have pe : p = n * n - 1 := by
          have := Nat.div_add_mod p n
          rw [ci, cj, Nat.mul_sub, Nat.mul_one] at this
          have : n ≤ n * n := Nat.le_mul_of_pos_left n hn.1
          omega
        have cz : ¬ p % n = 0 := by omega
        have same := last_same (n := n) (pd := pd) (hd := hd) (a := a) ⟨by omega, hn.2⟩ (by rw [← pe]; exact P)
        have enR : En n p (p / n) := En_iff.mpr (Or.inl ⟨rfl, cj⟩)
        have enC : En n p (n + p % n) := En_iff.mpr (Or.inr (Or.inl ⟨rfl, ci⟩))
        have enD : En n p (2 * n) := En_iff.mpr (Or.inr (Or.inr (Or.inr ⟨rfl, ci, cj⟩)))
        have sR := sum _ enR
        have sC_ := sum _ enC
        have sD := sum _ enD
        obtain ⟨X0, hX0⟩ : ∃ X, X = nI (TT n) - s32 g n (p / n) (n - 1) := ⟨_, rfl⟩
        obtain ⟨W, hW⟩ : ∃ X, X = nI (TT n) - s32 g n (n + p % n) (n - 1) := ⟨_, rfl⟩
        obtain ⟨Y, hY⟩ : ∃ X, X = nI (TT n) - s32 g n (2 * n) (n - 1) := ⟨_, rfl⟩
        rw [← hX0] at sR
        rw [← hW] at sC_
        rw [← hY] at sD
        have eXW : X0 = W := by
          apply Int32.toInt_inj.1
          rw [sR, sC_, ci, cj, same]
        have ev : fcv g n p = if (if W = Y then W else -1) = 0 then -1 else (if W = Y then W else -1) := by
          unfold fcv
          rw [← hX0, ← hW, ← hY]
          simp only [cj, ci, if_true, and_true, true_and, or_self, eXW, not_true_eq_false, and_false, if_false]
          have e0 : ¬ n - 1 = 0 := by omega
          simp only [e0, if_false]
        rw [ev]
        refine fin _ _ (by split <;> omega) (fun v v1 v2 => ?_)
        have okl : okp n a p v ↔ (ls a n (n + p % n) (n - 1) + v = TT n ∧ ls a n (2 * n) (n - 1) + v = TT n) := by
          constructor
          · intro q
            exact ⟨q _ enC, q _ enD⟩
          · rintro ⟨q1, q2⟩ line en
            rcases En_iff.mp en with q | q | q | q
            · have q1' := q1
              rw [cj] at q1'
              rw [q.1, ci, same]
              exact q1'
            · rw [q.1]; exact q1
            · exact absurd q.2.2 cz
            · rw [q.1]; exact q2
        rw [okl, ← eqv W _ sC_ v v1 v2, ← eqv Y _ sD v v1 v2]
        by_cases cWY : W = Y
        · rw [if_pos cWY, ← cWY, and_self]
        · rw [if_neg cWY]
          constructor
          · intro q
            exact absurd q (neg1 v v1 v2)
          · rintro ⟨q1, q2⟩
            exact absurd (q1.trans q2.symm) cWY
    · have enR : En n p (p / n) := En_iff.mpr (Or.inl ⟨rfl, cj⟩)
      have sR := sum _ enR
      have ev : fcv g n p = if (nI (TT n) - s32 g n (p / n) (n - 1)) = 0 then -1 else (nI (TT n) - s32 g n (p / n) (n - 1)) := by
        unfold fcv
        simp only [cj, ci, if_true, if_false, false_and, true_or, true_and]
      rw [ev]
      refine fin _ _ (by omega) (fun v v1 v2 => ?_)
      rw [eqv _ _ sR v v1 v2]
      constructor
      · intro q line en
        rcases En_iff.mp en with r | r | r | r
        · rw [r.1]; exact q
        · exact absurd r.2 ci
        · exact absurd r.2.1 ci
        · exact absurd r.2.1 ci
      · intro q
        exact q _ enR
  · have ci : p / n = n - 1 := c.elim (fun q => absurd q cj) id
    have enC : En n p (n + p % n) := En_iff.mpr (Or.inr (Or.inl ⟨rfl, ci⟩))
    have sC_ := sum _ enC
    by_cases cz : p % n = 0
    · have enA : En n p (4 * n - 1) := En_iff.mpr (Or.inr (Or.inr (Or.inl ⟨rfl, ci, cz⟩)))
      have sA := sum _ enA
      obtain ⟨W, hW⟩ : ∃ X, X = nI (TT n) - s32 g n (n + p % n) (n - 1) := ⟨_, rfl⟩
      obtain ⟨Y, hY⟩ : ∃ X, X = nI (TT n) - s32 g n (4 * n - 1) (n - 1) := ⟨_, rfl⟩
      rw [← hW] at sC_
      rw [← hY] at sA
      have ev : fcv g n p = if (if W = Y then W else -1) = 0 then -1 else (if W = Y then W else -1) := by
        unfold fcv
        rw [← hW, ← hY]
        simp (decide := true) only [eq_false cj, eq_true ci, eq_true cz, if_true, if_false, and_true, true_and, and_false, false_and, or_true, not_true_eq_false]
      rw [ev]
      refine fin _ _ (by split <;> omega) (fun v v1 v2 => ?_)
      have okl : okp n a p v ↔ (ls a n (n + p % n) (n - 1) + v = TT n ∧ ls a n (4 * n - 1) (n - 1) + v = TT n) := by
        constructor
        · intro q
          exact ⟨q _ enC, q _ enA⟩
        · rintro ⟨q1, q2⟩ line en
          rcases En_iff.mp en with q | q | q | q
          · exact absurd q.2 cj
          · rw [q.1]; exact q1
          · rw [q.1]; exact q2
          · exact absurd q.2.2 cj
      rw [okl, ← eqv W _ sC_ v v1 v2, ← eqv Y _ sA v v1 v2]
      by_cases cWY : W = Y
      · rw [if_pos cWY, ← cWY, and_self]
      · rw [if_neg cWY]
        constructor
        · intro q
          exact absurd q (neg1 v v1 v2)
        · rintro ⟨q1, q2⟩
          exact absurd (q1.trans q2.symm) cWY
    · have ev : fcv g n p = if (nI (TT n) - s32 g n (n + p % n) (n - 1)) = 0 then -1 else (nI (TT n) - s32 g n (n + p % n) (n - 1)) := by
        unfold fcv
        simp (decide := true) only [eq_false cj, eq_true ci, eq_false cz, if_true, if_false, and_true, true_and, and_false, false_and, or_true, not_true_eq_false]
      rw [ev]
      refine fin _ _ (by omega) (fun v v1 v2 => ?_)
      rw [eqv _ _ sC_ v v1 v2]
      constructor
      · intro q line en
        rcases En_iff.mp en with r | r | r | r
        · exact absurd r.2 cj
        · rw [r.1]; exact q
        · exact absurd r.2.2 cz
        · exact absurd r.2.2 cj
      · intro q
        exact q _ enC
end
