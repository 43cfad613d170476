/-! ===== what stays for the finder; keeping ===== -/
section
variable {E : mE} {d : Nat} {h h1 h2 : mH} {b : Nat}
/-- what the finder's two sides read is the same -/
def sameF (b : Nat) (h h2 : mH) : Prop := (∀ j, hF h2 (b + 8) j = hF h (b + 8) j) ∧ (∀ a, a ≠ b + 78 → hJ h2 a = hJ h a) ∧ hI h2 (b + 81) = hI h (b + 81) ∧ (∀ j, 12 ≤ j → j ≤ 15 → hF h2 (b + 70) j = hF h (b + 70) j) ∧ hF h2 b 9 = hF h b 9 ∧ hK h2 = hK h ∧ hN h2 = hN h ∧ hZ h2 = hZ h
theorem sameF_refl : sameF b h h := ⟨fun _ => rfl, fun _ _ => rfl, rfl, fun _ _ _ => rfl, rfl, rfl, rfl, rfl⟩
theorem sameF_trans (a : sameF b h h1) (c : sameF b h1 h2) : sameF b h h2 := by
  obtain ⟨a1, a2, a3, a4, a5, a6, a7, a8⟩ := a
  obtain ⟨c1, c2, c3, c4, c5, c6, c7, c8⟩ := c
  exact ⟨fun j => (c1 j).trans (a1 j), fun x hx => (c2 x hx).trans (a2 x hx), c3.trans a3, fun j h1 h2 => (c4 j h1 h2).trans (a4 j h1 h2), c5.trans a5, c6.trans a6, c7.trans a7, c8.trans a8⟩
theorem sameF_sI {a : Nat} (f : Nat → Int32) (ha : a ≠ b + 81) : sameF b h (sI h a f) := ⟨fun _ => rfl, fun _ _ => rfl, hI_sI_ne h _ (Ne.symm ha), fun _ _ _ => rfl, rfl, rfl, rfl, rfl⟩
theorem sameF_sJ (f : Nat → Int64) : sameF b h (sJ h (b + 78) f) := by
  refine ⟨fun _ => rfl, fun a ha => ?_, rfl, fun _ _ _ => rfl, rfl, rfl, rfl, rfl⟩
  show va_up (hJ h) (b + 78) f a = hJ h a
  exact va_up_ne _ _ ha
theorem sameF_sF {a j : Nat} (v : Value) (h1 : a ≠ b + 8) (h2 : ¬ (a = b + 70 ∧ 12 ≤ j ∧ j ≤ 15)) (h3 : ¬ (a = b ∧ j = 9)) : sameF b h (sF h a j v) := by
  refine ⟨fun k => ?_, fun _ _ => rfl, rfl, fun k q1 q2 => ?_, ?_, rfl, rfl, rfl⟩
  · rw [hF_sF, if_neg (fun q : b + 8 = a ∧ k = j => h1 q.1.symm)]
  · rw [hF_sF, if_neg (fun q : b + 70 = a ∧ k = j => h2 ⟨q.1.symm, q.2 ▸ q1, q.2 ▸ q2⟩)]
  · rw [hF_sF, if_neg (fun q : b = a ∧ 9 = j => h3 ⟨q.1.symm, q.2.symm⟩)]
theorem sameF_blm {c : Nat} : sameF b h (blm b h c) := sameF_trans (sameF_sF _ (by omega) (by omega) (by omega)) (sameF_sI _ (by omega))
theorem sameF_mts {c : Nat} : sameF b h (mts b h c) := sameF_trans (sameF_sF _ (by omega) (by omega) (by omega)) (sameF_sI _ (by omega))
theorem sameF_kept {q n : Nat} (hq : q < 24) : sameF b h (kept b h q n) := sameF_trans (sameF_sF _ (by unfold aQ; omega) (by unfold aQ; omega) (by unfold aQ; omega)) (sameF_sI _ (by unfold aR; omega))
/-- the reference's cells are the same -/
def mSame (b : Nat) (h h1 : mH) : Prop := Lay b h1 ∧ (∀ a, b + 70 ≤ a → hI h1 a = hI h a) ∧ (∀ j, hF h1 (b + 70) j = hF h (b + 70) j)
theorem mSame_trans (a : mSame b h h1) (c : mSame b h1 h2) : mSame b h h2 := ⟨c.1, fun x hx => (c.2.1 x hx).trans (a.2.1 x hx), fun j => (c.2.2 j).trans (a.2.2 j)⟩
theorem mSame_refl (L : Lay b h) : mSame b h h := ⟨L, fun _ _ => rfl, fun _ => rfl⟩
theorem mSame_sI (L : Lay b h) {a : Nat} (f : Nat → Int32) (ha : a < b + 70) : mSame b h (sI h a f) := ⟨L.sI _ _, fun x hx => hI_sI_ne h _ (by omega), fun _ => rfl⟩
theorem mSame_sF (L : Lay b h) {o j : Nat} (v : Value) (ho : o < 70) (hp : PF o j = none) : mSame b h (sF h (b + o) j v) := ⟨L.sF o j v hp, fun _ _ => rfl, fun k => by rw [hF_sF, if_neg (by omega)]⟩
theorem mSame_blm (L : Lay b h) {c : Nat} : mSame b h (blm b h c) := by
  have a : mSame b h (sF h b 7 (.int (nI c))) := mSame_sF (o := 0) L _ (by omega) (by decide +kernel)
  exact mSame_trans a (mSame_sI a.1 _ (by omega))
theorem mSame_kept (L : Lay b h) {q n : Nat} (hq : q < 24) : mSame b h (kept b h q n) := by
  have a : mSame b h (sF h (aQ b q) 1 (.int (nI n))) := mSame_sF (o := 22 + 2 * q) L _ (by omega) (pfQ q hq)
  exact mSame_trans a (mSame_sI a.1 _ (by unfold aR; omega))
theorem oM_same {o : Nat → Nat} (m : mSame b h h1) (ho : oM b h o) : oM b h1 o := fun q hq => by
  rw [m.2.1 (b + 76) (by omega)]
  exact ho q hq
/-- no great number: all within bounds -/
theorem not_great {f : Nat → Int32} : ∀ {k i n : Nat}, an (grp f) k i = false → i + k = n → ∀ p, i ≤ p → p < n → -100000 ≤ (f p).toInt ∧ (f p).toInt ≤ 100000
  | 0, i, n, _, e, p, h1, h2 => absurd h2 (by omega)
  | k + 1, i, n, q, e, p, h1, h2 => by
    unfold an at q
    rw [Bool.or_eq_false_iff] at q
    by_cases c : p = i
    · subst c
      have q1 := q.1
      unfold grp at q1
      rw [Bool.or_eq_false_iff, decide_eq_false_iff_not, decide_eq_false_iff_not, n32_lt, n32_lt, Int32.le_iff_toInt_le, Int32.le_iff_toInt_le] at q1
      have e1 : (100000 : Int32).toInt = 100000 := rfl
      have e2 : (-100000 : Int32).toInt = -100000 := rfl
      omega
    · exact not_great q.2 (by omega) p (by omega) h2
end
