/-! ===== what is sought ===== -/
section
/-- the sum of the first k steps of a line -/
def ls (f : Nat → Nat) (n line : Nat) : Nat → Nat
  | 0 => 0
  | k + 1 => ls f n line k + f (lc n line k)
def TT (n : Nat) : Nat := n * (n * n + 1) / 2
/-- a square that is sought: of order n, round, paired, with the numbers held -/
def Sol (n : Nat) (rd pd : Bool) (hd f : Nat → Nat) : Prop :=
  (∀ p, p < n * n → 1 ≤ f p ∧ f p ≤ n * n) ∧
  (∀ p q, p < q → q < n * n → f p ≠ f q) ∧
  (∀ p, p < n * n → hd p ≠ 0 → f p = hd p) ∧
  (∀ line, line < 4 * n → (line < 2 * n ∨ line = 2 * n ∨ line = 4 * n - 1 ∨ rd = true) → ls f n line n = TT n) ∧
  (pd = true → ∀ p, p < n * n → f p + f (n * n - 1 - p) = n * n + 1)
theorem Sol_val {n : Nat} {rd pd : Bool} {hd f : Nat → Nat} (hn : n ≤ 4) (S : Sol n rd pd hd f) : val16 f (n * n) := fun p hp => by
  have := S.1 p hp
  have : n * n ≤ 16 := Nat.mul_le_mul hn hn
  omega
theorem ls_cg {f g : Nat → Nat} {n line : Nat} (hl : line < 4 * n) (e : ∀ p, p < n * n → f p = g p) : ∀ k, k ≤ n → ls f n line k = ls g n line k
  | 0, _ => rfl
  | k + 1, h => by
    unfold ls
    rw [ls_cg hl e k (by omega), e _ (lc_lt hl (by omega))]
theorem Sol_cg {n : Nat} {rd pd : Bool} {hd f g : Nat → Nat} (S : Sol n rd pd hd f) (e : ∀ p, p < n * n → f p = g p) : Sol n rd pd hd g := by
  obtain ⟨s1, s2, s3, s4, s5⟩ := S
  refine ⟨fun p hp => ?_, fun p q hpq hq => ?_, fun p hp hh => ?_, fun line hl ha => ?_, fun hp p hq => ?_⟩
  · rw [← e p hp]; exact s1 p hp
  · rw [← e p (by omega), ← e q hq]; exact s2 p q hpq hq
  · rw [← e p hp]; exact s3 p hp hh
  · rw [← ls_cg hl e n (Nat.le_refl _)]; exact s4 line hl ha
  · rw [← e p hq, ← e (n * n - 1 - p) (by omega)]; exact s5 hp p hq
theorem lin4 {rd pd : Bool} {hd f : Nat → Nat} (S : Sol 4 rd pd hd f) : f 0 + f 1 + f 2 + f 3 = 34 ∧ f 4 + f 5 + f 6 + f 7 = 34 ∧ f 8 + f 9 + f 10 + f 11 = 34 ∧ f 12 + f 13 + f 14 + f 15 = 34 ∧ f 0 + f 4 + f 8 + f 12 = 34 ∧ f 1 + f 5 + f 9 + f 13 = 34 ∧ f 2 + f 6 + f 10 + f 14 = 34 ∧ f 3 + f 7 + f 11 + f 15 = 34 ∧ f 0 + f 5 + f 10 + f 15 = 34 ∧ f 3 + f 6 + f 9 + f 12 = 34 := by
  have s := S.2.2.2.1
  have a0 := s 0 (by decide) (Or.inl (by decide))
  have a1 := s 1 (by decide) (Or.inl (by decide))
  have a2 := s 2 (by decide) (Or.inl (by decide))
  have a3 := s 3 (by decide) (Or.inl (by decide))
  have a4 := s 4 (by decide) (Or.inl (by decide))
  have a5 := s 5 (by decide) (Or.inl (by decide))
  have a6 := s 6 (by decide) (Or.inl (by decide))
  have a7 := s 7 (by decide) (Or.inl (by decide))
  have a8 := s 8 (by decide) (Or.inr (Or.inl rfl))
  have a15 := s 15 (by decide) (Or.inr (Or.inr (Or.inl rfl)))
  change 0 + f 0 + f 1 + f 2 + f 3 = 34 at a0
  change 0 + f 4 + f 5 + f 6 + f 7 = 34 at a1
  change 0 + f 8 + f 9 + f 10 + f 11 = 34 at a2
  change 0 + f 12 + f 13 + f 14 + f 15 = 34 at a3
  change 0 + f 0 + f 4 + f 8 + f 12 = 34 at a4
  change 0 + f 1 + f 5 + f 9 + f 13 = 34 at a5
  change 0 + f 2 + f 6 + f 10 + f 14 = 34 at a6
  change 0 + f 3 + f 7 + f 11 + f 15 = 34 at a7
  change 0 + f 0 + f 5 + f 10 + f 15 = 34 at a8
  change 0 + f 3 + f 6 + f 9 + f 12 = 34 at a15
  omega
theorem lin3 {rd pd : Bool} {hd f : Nat → Nat} (S : Sol 3 rd pd hd f) : f 0 + f 1 + f 2 = 15 ∧ f 3 + f 4 + f 5 = 15 ∧ f 6 + f 7 + f 8 = 15 ∧ f 0 + f 3 + f 6 = 15 ∧ f 1 + f 4 + f 7 = 15 ∧ f 2 + f 5 + f 8 = 15 ∧ f 0 + f 4 + f 8 = 15 ∧ f 2 + f 4 + f 6 = 15 := by
  have s := S.2.2.2.1
  have a0 := s 0 (by decide) (Or.inl (by decide))
  have a1 := s 1 (by decide) (Or.inl (by decide))
  have a2 := s 2 (by decide) (Or.inl (by decide))
  have a3 := s 3 (by decide) (Or.inl (by decide))
  have a4 := s 4 (by decide) (Or.inl (by decide))
  have a5 := s 5 (by decide) (Or.inl (by decide))
  have a6 := s 6 (by decide) (Or.inr (Or.inl rfl))
  have a11 := s 11 (by decide) (Or.inr (Or.inr (Or.inl rfl)))
  change 0 + f 0 + f 1 + f 2 = 15 at a0
  change 0 + f 3 + f 4 + f 5 = 15 at a1
  change 0 + f 6 + f 7 + f 8 = 15 at a2
  change 0 + f 0 + f 3 + f 6 = 15 at a3
  change 0 + f 1 + f 4 + f 7 = 15 at a4
  change 0 + f 2 + f 5 + f 8 = 15 at a5
  change 0 + f 0 + f 4 + f 8 = 15 at a6
  change 0 + f 2 + f 4 + f 6 = 15 at a11
  omega
theorem lin2 {rd pd : Bool} {hd f : Nat → Nat} (S : Sol 2 rd pd hd f) : f 0 + f 1 = 5 ∧ f 2 + f 3 = 5 ∧ f 0 + f 2 = 5 ∧ f 1 + f 3 = 5 := by
  have s := S.2.2.2.1
  have a0 := s 0 (by decide) (Or.inl (by decide))
  have a1 := s 1 (by decide) (Or.inl (by decide))
  have a2 := s 2 (by decide) (Or.inl (by decide))
  have a3 := s 3 (by decide) (Or.inl (by decide))
  change 0 + f 0 + f 1 = 5 at a0
  change 0 + f 2 + f 3 = 5 at a1
  change 0 + f 0 + f 2 = 5 at a2
  change 0 + f 1 + f 3 = 5 at a3
  omega
/-- the class's plan: a place, and those that with it make up the sum -/
def pln : Nat → List (Nat × List Nat)
  | 1 => [(0, [])]
  | 2 => [(0, []), (1, [0]), (2, [0]), (3, [1])]
  | 3 => [(0, []), (1, []), (2, [0, 1]), (3, []), (6, [0, 3]), (4, [2, 6]), (5, [3, 4]), (7, [1, 4]), (8, [6, 7])]
  | _ => [(0, []), (1, []), (2, []), (3, [0, 1, 2]), (12, []), (15, [0, 3, 12]), (6, []), (9, [3, 6, 12]), (5, []), (10, [0, 5, 15]), (13, [1, 5, 9]), (14, [2, 6, 10]), (4, []), (8, [0, 4, 12]), (7, [4, 5, 6]), (11, [8, 9, 10])]
theorem pln_sum {n : Nat} {rd pd : Bool} {hd f : Nat → Nat} (hn : 1 ≤ n ∧ n ≤ 4) (S : Sol n rd pd hd f) : ∀ s ∈ pln n, s.2 ≠ [] → f s.1 + (s.2.map f).sum = TT n := by
  have hc : n = 1 ∨ n = 2 ∨ n = 3 ∨ n = 4 := by omega
  rcases hc with rfl | rfl | rfl | rfl
  · intro s hs
    simp only [pln, List.mem_cons, List.not_mem_nil, or_false] at hs
    subst hs
    exact fun q => absurd rfl q
  · have l := lin2 S
    have t : TT 2 = 5 := by decide
    intro s hs
    simp only [pln, List.mem_cons, List.not_mem_nil, or_false] at hs
    rcases hs with rfl | rfl | rfl | rfl <;> intro q <;> simp only [List.map_cons, List.map_nil, List.sum_cons, List.sum_nil, t] <;> first | omega | exact absurd rfl q
  · have l := lin3 S
    have t : TT 3 = 15 := by decide
    intro s hs
    simp only [pln, List.mem_cons, List.not_mem_nil, or_false] at hs
    rcases hs with rfl | rfl | rfl | rfl | rfl | rfl | rfl | rfl | rfl <;> intro q <;> simp only [List.map_cons, List.map_nil, List.sum_cons, List.sum_nil, t] <;> first | omega | exact absurd rfl q
  · have l := lin4 S
    have t : TT 4 = 34 := by decide
    intro s hs
    simp only [pln, List.mem_cons, List.not_mem_nil, or_false] at hs
    rcases hs with rfl | rfl | rfl | rfl | rfl | rfl | rfl | rfl | rfl | rfl | rfl | rfl | rfl | rfl | rfl | rfl <;> intro q <;> simp only [List.map_cons, List.map_nil, List.sum_cons, List.sum_nil, t] <;> first | omega | exact absurd rfl q
end
